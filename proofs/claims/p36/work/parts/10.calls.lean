/-! ===== CALLS (written by gen/calls.py) ===== -/
/-- results: an int, a float, nothing, a cell or null, each with the heap behind it -/
def dI (r : Int32) (h2 : Hp) : Option Value → Hp → Prop := fun v h' => v = some (.int r) ∧ h' = h2
def dF (r : UInt32) (h2 : Hp) : Option Value → Hp → Prop := fun v h' => v = some (.float r) ∧ h' = h2
def dV (h2 : Hp) : Option Value → Hp → Prop := fun v h' => v = none ∧ h' = h2
def dQ (G : Gl) (q : Option Nat) (h2 : Hp) : Option Value → Hp → Prop := fun v h' => v = some (gr G q) ∧ h' = h2
def rI (Q : Int32 → Hp → Prop) : Option Value → Hp → Prop := fun v h' => ∃ r, v = some (.int r) ∧ Q r h'
def rV (Q : Hp → Prop) : Option Value → Hp → Prop := fun v h' => v = none ∧ Q h'
def okB (Mc : Mt) (k : Nat) : Prop := Cond.initialized Mc.1.cls ∈ Wt ∧ Cond.code Mc.1 Mc.2.1 Mc.2.2.1 Mc.2.2.2.1 ∈ Wt ∧ (Mc.1.cls ≠ "java/lang/invoke/MethodHandle" ∧ Mc.1.cls ≠ "java/lang/invoke/VarHandle") ∧ (parseMethodDescriptor Mc.1.desc).map (fun d => d.parameters.length) = some k
def okV (Mc : Mt) (k : Nat) : Prop := okB Mc k ∧ Cond.instanceMethod Mc.1 ∈ Wt ∧ Cond.selects Mc.1.cls Mc.1 Mc.1 ∈ Wt
def okS (Mc : Mt) (k : Nat) : Prop := okB Mc k ∧ Cond.static Mc.1 ∈ Wt
def okI (Mc : Mt) (k : Nat) : Prop := okB Mc k ∧ Cond.instanceMethod Mc.1 ∈ Wt ∧ Mc.1.name = "<init>" ∧ Mc.2.2.2.1 = none
def okR (M Mc : Mt) : Prop := Mc.2.2.2.2.1 + 1 ≤ M.2.2.2.2.1 ∧ 8 + (Mc.2.2.1 + 11) + Mc.2.2.2.2.2 ≤ M.2.2.2.2.2
theorem gd_M {M Mc : Mt} (h : Cond.code Mc.1 Mc.2.1 Mc.2.2.1 Mc.2.2.2.1 ∈ Wt) : GoodIn (wM M) (wM Mc) := by
  intro w hw
  rcases List.mem_cons.mp hw with rfl | hw
  · exact ⟨List.mem_cons_of_mem _ h, (Wt_good _ h).2⟩
  · exact ⟨List.mem_cons_of_mem _ hw, (Wt_good _ hw).2⟩
section GC
variable {G : Gl} {M : Mt} {n1 : Nat} {R : Option Value → Hp → Prop} {h : Hp} {n pc : Nat} {ls : List (Option Value)} {st : List Value}
theorem dI_K {r : Int32} {h2 : Hp} {n' pc' : Nat} (K : Go G M n1 R h2 n' pc' ls (.int r :: st)) : ∀ v h', dI r h2 v h' → Go G M n1 R h' n' pc' ls (v.toList ++ st) := by
  rintro _ _ ⟨rfl, rfl⟩; exact K
theorem dF_K {r : UInt32} {h2 : Hp} {n' pc' : Nat} (K : Go G M n1 R h2 n' pc' ls (.float r :: st)) : ∀ v h', dF r h2 v h' → Go G M n1 R h' n' pc' ls (v.toList ++ st) := by
  rintro _ _ ⟨rfl, rfl⟩; exact K
theorem dV_K {h2 : Hp} {n' pc' : Nat} (K : Go G M n1 R h2 n' pc' ls st) : ∀ v h', dV h2 v h' → Go G M n1 R h' n' pc' ls (v.toList ++ st) := by
  rintro _ _ ⟨rfl, rfl⟩; exact K
theorem dQ_K {q : Nat} {h2 : Hp} {n' pc' : Nat} (K : Go G M n1 R h2 n' pc' ls (ga G q :: st)) : ∀ v h', dQ G (some q) h2 v h' → Go G M n1 R h' n' pc' ls (v.toList ++ st) := by
  rintro _ _ ⟨rfl, rfl⟩; exact K
theorem dQ_Kn {h2 : Hp} {n' pc' : Nat} (K : Go G M n1 R h2 n' pc' ls (.null :: st)) : ∀ v h', dQ G none h2 v h' → Go G M n1 R h' n' pc' ls (v.toList ++ st) := by
  rintro _ _ ⟨rfl, rfl⟩; exact K
theorem rI_K {Q : Int32 → Hp → Prop} {n' pc' : Nat} (K : ∀ r h', Q r h' → Go G M n1 R h' n' pc' ls (.int r :: st)) : ∀ v h', rI Q v h' → Go G M n1 R h' n' pc' ls (v.toList ++ st) := by
  rintro _ h' ⟨r, rfl, hq⟩; exact K r h' hq
theorem rV_K {Q : Hp → Prop} {n' pc' : Nat} (K : ∀ h', Q h' → Go G M n1 R h' n' pc' ls st) : ∀ v h', rV Q v h' → Go G M n1 R h' n' pc' ls (v.toList ++ st) := by
  rintro _ h' ⟨rfl, hq⟩; exact K h' hq
theorem g_run {p : Program} {e : Env} {s : State} {m : MethodId} {args : Array Value} {below : List Frame} {meth : Method} {c : Code} {H : Heap} {A : Array Slot} {locs : List Loc} {n0 cells slots n' : Nat} {d0 : Drawn} {R' : Option Value → Hp → Prop} {a : Array Value} {rest st0 : List Value} (C : Cx G M n0 p s m args meth c) (hd : s.drawn.sameBut d0 lw_cs) (hl : lh M.2.2.1 A ls) (hw : Wp G h n s H) (hS : va_S (gA G) s.heap H locs) (ha : n0 ≤ n) (hb : n ≤ n1) (hc : cells = n - n0) (hs : slots = sl n - sl n0) (hn : n ≤ n') (hn1 : n' ≤ n1)
    (hr : va_RunD lw_cs p G.1 e (rmOf M (n1 - n0) (sl n1 - sl n0)) (s.setDrawn d0) m args below meth c H locs cells slots (n' - n) (sl n' - sl n) (F0 m pc A st0) rest (Qr G R' n' a) (gA G))
    (K : ∀ v h', R' v h' → Go G M n1 R h' n' (pc + 3) ls (v.toList ++ rest)) : W p G.1 e (rmOf M (n1 - n0) (sl n1 - sl n0)) (s.setDrawn d0) m args below meth c H locs cells slots (MQD lw_cs below (Qr G R n1) args s (n1 - n0) (sl n1 - sl n0) (gA G)) (F0 m pc A st0) := by
  intro T hT X
  obtain ⟨v, st₀, t, T', L, d', hd', h0, X', hL, e1, e2, ⟨⟨v', h', hv, hR, hw'⟩, hF⟩, stp⟩ := hr T hT X
  cases hv
  have q1 := sl_mono hn
  have q2 := sl_mono ha
  have hvm : s.vm.Alike T'.vm := X'.warmed.alike
  have hS' : va_S (gA G) s.heap T'.heap (locs ++ L) := by
    obtain ⟨hz, hk⟩ := hF
    rw [h0] at hz hk
    refine ⟨Nat.le_trans hS.1 (by rw [e1]; exact hz), fun q h1 h2 => ?_, fun q hq => ?_⟩
    · rw [e1, hk q (Nat.lt_of_lt_of_le h1 hS.1) h2]; exact hS.2.1 q h1 h2
    · rcases List.mem_append.mp hq with h | h
      · exact hS.2.2 q h
      · exact hL q h
  obtain ⟨t2, a1, b1⟩ := K v h' hR n0 p e s m args below meth c T'.heap A (locs ++ L) (cells + (n' - n)) (slots + (sl n' - sl n)) d' C (hd.trans hd') hl (by rw [e1]; exact hw'.moved (by rw [← e2]; exact hvm.symm)) hS' (by omega) hn1 (by omega) (by omega) T' rfl X'
  exact ⟨t2, stp t2 a1, b1⟩
theorem wp_blind {as : List Value} : FrameBlind (va_Pc as (fun U => Wp G h n U U.heap)) := fun a U g mk q => ⟨q.1, q.2.1, q.2.2.1, va_K.moved (u := U) (U := U.calling g mk a) (Vm.Alike.refl U.vm) q.2.2.2.1, ⟨va_AO.moved (u := U) (U := U.calling g mk a) (Vm.Alike.refl U.vm) q.2.2.2.2.1.1, va_AO.moved (u := U) (U := U.calling g mk a) (Vm.Alike.refl U.vm) q.2.2.2.2.1.2.1, va_AO.moved (u := U) (U := U.calling g mk a) (Vm.Alike.refl U.vm) q.2.2.2.2.1.2.2.1, va_AO.moved (u := U) (U := U.calling g mk a) (Vm.Alike.refl U.vm) q.2.2.2.2.1.2.2.2⟩, va_X.moved (u := U) (U := U.calling g mk a) (Vm.Alike.refl U.vm) q.2.2.2.2.2.1, q.2.2.2.2.2.2⟩
theorem g_callV {Mc : Mt} {as rest : List Value} {k ci i N n' : Nat} {T : u_T} {R' : Option Value → Hp → Prop} (hc9 : Ct G Mc (ga G k :: as) h n n' R') (hm : Cond.methodLink M.1.cls i Mc.1 ∈ Wt) (ok : okV Mc as.length) (hrm : okR M Mc) (hL : Lay k = .inl ci) (hk : k < n) (hci : vwCl[ci]? = some (Mc.1.cls, T, N)) (hn : n ≤ n') (hn1 : n' ≤ n1) (hst : (rest.map fun v => v.category).sum ≤ 8) (d : decode M.2.1 pc = .ok (.invokevirtual i, 3))
    (K : ∀ v h', R' v h' → Go G M n1 R h' n' (pc + 3) ls (v.toList ++ rest)) : Go G M n1 R h n pc ls (as.reverse ++ ga G k :: rest) := by
  intro n0 p e s m args below meth c H A locs cells slots d0 C hd hl hw hS ha hb hc hs
  have q1 := sl_mono hn
  have q2 := sl_mono ha
  have q3 := sl_mono hn1
  obtain ⟨⟨o1, o2, o3, o4⟩, o5, o6⟩ := ok
  refine g_run C hd hl hw hS ha hb hc hs hn hn1 (va_runV_D (s := s.setDrawn d0) (nL := M.2.2.1) (own := M.1.cls) (C := Mc.1.cls) (Ts := wM M) (As := as) (rest := rest) ⟨C.1, C.2.1, C.2.2.2.1, C.2.2.2.2.1, dr_words C.2.2.2.2.2.1 d0⟩ hc9 (cwV (own := M.1.cls) (index := i) as.length (dr_words C.2.2.2.2.2.1 d0) ?_ rfl rfl rfl ⟨rfl, o3.1, o3.2, o4⟩ hrm) ⟨wp_blind, va_recv (s := s.setDrawn d0) hw.2.2.1 hw.2.1 hci (wl_o hk hL), fun U hU hW => ⟨rfl, by show Wp G h n U U.heap; rw [hU]; exact hw.moved (show s.vm.Alike U.vm from hW.alike)⟩⟩ rfl rfl hl.2.1 rfl (lv_room hst) d ⟨by show cells + (n' - n) ≤ n1 - n0; omega, by show slots + (sl n' - sl n) ≤ sl n1 - sl n0; omega⟩) K
  intro w hw9
  unfold wsV at hw9
  rcases List.mem_append.mp hw9 with h9 | h9
  · simp only [List.mem_cons, List.not_mem_nil, or_false] at h9
    rcases h9 with rfl | rfl | rfl | rfl
    · exact ⟨List.mem_cons_of_mem _ hm, (Wt_good _ hm).2⟩
    · exact ⟨List.mem_cons_of_mem _ o5, (Wt_good _ o5).2⟩
    · exact ⟨List.mem_cons_of_mem _ o6, (Wt_good _ o6).2⟩
    · exact ⟨List.mem_cons_of_mem _ o1, (Wt_good _ o1).2⟩
  · exact gd_M o2 w h9
theorem g_callS {Mc : Mt} {as rest : List Value} {i n' : Nat} {R' : Option Value → Hp → Prop} (hc9 : Ct G Mc as h n n' R') (hm : Cond.methodLink M.1.cls i Mc.1 ∈ Wt) (ok : okS Mc as.length) (hrm : okR M Mc) (hn : n ≤ n') (hn1 : n' ≤ n1) (hst : (rest.map fun v => v.category).sum ≤ 8) (d : decode M.2.1 pc = .ok (.invokestatic i, 3))
    (K : ∀ v h', R' v h' → Go G M n1 R h' n' (pc + 3) ls (v.toList ++ rest)) : Go G M n1 R h n pc ls (as.reverse ++ rest) := by
  intro n0 p e s m args below meth c H A locs cells slots d0 C hd hl hw hS ha hb hc hs
  have q1 := sl_mono hn
  have q2 := sl_mono ha
  have q3 := sl_mono hn1
  obtain ⟨⟨o1, o2, o3, o4⟩, o5⟩ := ok
  refine g_run C hd hl hw hS ha hb hc hs hn hn1 (va_runS_D (s := s.setDrawn d0) (nL := M.2.2.1) (own := M.1.cls) (Ts := wM M) (As := as) (rest := rest) ⟨C.1, C.2.1, C.2.2.2.1, C.2.2.2.2.1, dr_words C.2.2.2.2.2.1 d0⟩ hc9 (va_cwS (own := M.1.cls) (index := i) as.length (dr_words C.2.2.2.2.2.1 d0) ?_ rfl rfl rfl ⟨o3.1, o3.2, o4⟩ hrm) ⟨wp_blind, fun U hU hW => ⟨rfl, by show Wp G h n U U.heap; rw [hU]; exact hw.moved (show s.vm.Alike U.vm from hW.alike)⟩⟩ rfl rfl hl.2.1 rfl (lv_room hst) d ⟨by show cells + (n' - n) ≤ n1 - n0; omega, by show slots + (sl n' - sl n) ≤ sl n1 - sl n0; omega⟩) K
  intro w hw9
  unfold va_wsS at hw9
  rcases List.mem_append.mp hw9 with h9 | h9
  · simp only [List.mem_cons, List.not_mem_nil, or_false] at h9
    rcases h9 with rfl | rfl | rfl
    · exact ⟨List.mem_cons_of_mem _ hm, (Wt_good _ hm).2⟩
    · exact ⟨List.mem_cons_of_mem _ o5, (Wt_good _ o5).2⟩
    · exact ⟨List.mem_cons_of_mem _ o1, (Wt_good _ o1).2⟩
  · exact gd_M o2 w h9
theorem g_callI {Mc : Mt} {as rest : List Value} {k i n' : Nat} {R' : Option Value → Hp → Prop} (hc9 : Ct G Mc (ga G k :: as) h n n' R') (hm : Cond.methodLink M.1.cls i Mc.1 ∈ Wt) (ok : okI Mc as.length) (hrm : okR M Mc) (hn : n ≤ n') (hn1 : n' ≤ n1) (hst : (rest.map fun v => v.category).sum ≤ 8) (d : decode M.2.1 pc = .ok (.invokespecial i, 3))
    (K : ∀ v h', R' v h' → Go G M n1 R h' n' (pc + 3) ls (v.toList ++ rest)) : Go G M n1 R h n pc ls (as.reverse ++ ga G k :: rest) := by
  intro n0 p e s m args below meth c H A locs cells slots d0 C hd hl hw hS ha hb hc hs
  have q1 := sl_mono hn
  have q2 := sl_mono ha
  have q3 := sl_mono hn1
  obtain ⟨⟨o1, o2, o3, o4⟩, o5, o6, o7⟩ := ok
  exact g_run C hd hl hw hS ha hb hc hs hn hn1 (va_runI_D (s := s.setDrawn d0) (nL := M.2.2.1) (own := M.1.cls) (Ts := wM M) (As := as) (rest := rest) ⟨C.1, C.2.1, C.2.2.2.1, C.2.2.2.2.1, dr_words C.2.2.2.2.2.1 d0⟩ hc9 (cwI (bytes := Mc.2.1) (maxL := Mc.2.2.1) (own := M.1.cls) (index := i) as.length (dr_words C.2.2.2.2.2.1 d0) (gd_M o2) (by rw [← o7]; rfl) rfl rfl (C.w d0 o1) (C.w d0 hm) (C.w d0 o5) o6 ⟨o3.1, o3.2, o4⟩ hrm) ⟨wp_blind, fun U hU hW => ⟨rfl, by show Wp G h n U U.heap; rw [hU]; exact hw.moved (show s.vm.Alike U.vm from hW.alike)⟩⟩ rfl rfl hl.2.1 rfl (lv_room hst) d ⟨by show cells + (n' - n) ≤ n1 - n0; omega, by show slots + (sl n' - sl n) ≤ sl n1 - sl n0; omega⟩) K
theorem g_callV0 {Mc : Mt} {rest : List Value} {k ci i N n' : Nat} {T : u_T} {R' : Option Value → Hp → Prop} (hc9 : Ct G Mc (ga G k :: []) h n n' R') (hm : Cond.methodLink M.1.cls i Mc.1 ∈ Wt) (ok : okV Mc 0) (hrm : okR M Mc) (hL : Lay k = .inl ci) (hk : k < n) (hci : vwCl[ci]? = some (Mc.1.cls, T, N)) (hn : n ≤ n') (hn1 : n' ≤ n1) (hst : (rest.map fun v => v.category).sum ≤ 8) (d : decode M.2.1 pc = .ok (.invokevirtual i, 3)) (K : ∀ v h', R' v h' → Go G M n1 R h' n' (pc + 3) ls (v.toList ++ rest)) : Go G M n1 R h n pc ls (ga G k :: rest) := g_callV (as := []) hc9 hm ok hrm hL hk hci hn hn1 hst d K
theorem g_callV1 {Mc : Mt} {x0 : Value} {rest : List Value} {k ci i N n' : Nat} {T : u_T} {R' : Option Value → Hp → Prop} (hc9 : Ct G Mc (ga G k :: [x0]) h n n' R') (hm : Cond.methodLink M.1.cls i Mc.1 ∈ Wt) (ok : okV Mc 1) (hrm : okR M Mc) (hL : Lay k = .inl ci) (hk : k < n) (hci : vwCl[ci]? = some (Mc.1.cls, T, N)) (hn : n ≤ n') (hn1 : n' ≤ n1) (hst : (rest.map fun v => v.category).sum ≤ 8) (d : decode M.2.1 pc = .ok (.invokevirtual i, 3)) (K : ∀ v h', R' v h' → Go G M n1 R h' n' (pc + 3) ls (v.toList ++ rest)) : Go G M n1 R h n pc ls (x0 :: ga G k :: rest) := g_callV (as := [x0]) hc9 hm ok hrm hL hk hci hn hn1 hst d K
theorem g_callV2 {Mc : Mt} {x0 x1 : Value} {rest : List Value} {k ci i N n' : Nat} {T : u_T} {R' : Option Value → Hp → Prop} (hc9 : Ct G Mc (ga G k :: [x0, x1]) h n n' R') (hm : Cond.methodLink M.1.cls i Mc.1 ∈ Wt) (ok : okV Mc 2) (hrm : okR M Mc) (hL : Lay k = .inl ci) (hk : k < n) (hci : vwCl[ci]? = some (Mc.1.cls, T, N)) (hn : n ≤ n') (hn1 : n' ≤ n1) (hst : (rest.map fun v => v.category).sum ≤ 8) (d : decode M.2.1 pc = .ok (.invokevirtual i, 3)) (K : ∀ v h', R' v h' → Go G M n1 R h' n' (pc + 3) ls (v.toList ++ rest)) : Go G M n1 R h n pc ls (x1 :: x0 :: ga G k :: rest) := g_callV (as := [x0, x1]) hc9 hm ok hrm hL hk hci hn hn1 hst d K
theorem g_callV3 {Mc : Mt} {x0 x1 x2 : Value} {rest : List Value} {k ci i N n' : Nat} {T : u_T} {R' : Option Value → Hp → Prop} (hc9 : Ct G Mc (ga G k :: [x0, x1, x2]) h n n' R') (hm : Cond.methodLink M.1.cls i Mc.1 ∈ Wt) (ok : okV Mc 3) (hrm : okR M Mc) (hL : Lay k = .inl ci) (hk : k < n) (hci : vwCl[ci]? = some (Mc.1.cls, T, N)) (hn : n ≤ n') (hn1 : n' ≤ n1) (hst : (rest.map fun v => v.category).sum ≤ 8) (d : decode M.2.1 pc = .ok (.invokevirtual i, 3)) (K : ∀ v h', R' v h' → Go G M n1 R h' n' (pc + 3) ls (v.toList ++ rest)) : Go G M n1 R h n pc ls (x2 :: x1 :: x0 :: ga G k :: rest) := g_callV (as := [x0, x1, x2]) hc9 hm ok hrm hL hk hci hn hn1 hst d K
theorem g_callV4 {Mc : Mt} {x0 x1 x2 x3 : Value} {rest : List Value} {k ci i N n' : Nat} {T : u_T} {R' : Option Value → Hp → Prop} (hc9 : Ct G Mc (ga G k :: [x0, x1, x2, x3]) h n n' R') (hm : Cond.methodLink M.1.cls i Mc.1 ∈ Wt) (ok : okV Mc 4) (hrm : okR M Mc) (hL : Lay k = .inl ci) (hk : k < n) (hci : vwCl[ci]? = some (Mc.1.cls, T, N)) (hn : n ≤ n') (hn1 : n' ≤ n1) (hst : (rest.map fun v => v.category).sum ≤ 8) (d : decode M.2.1 pc = .ok (.invokevirtual i, 3)) (K : ∀ v h', R' v h' → Go G M n1 R h' n' (pc + 3) ls (v.toList ++ rest)) : Go G M n1 R h n pc ls (x3 :: x2 :: x1 :: x0 :: ga G k :: rest) := g_callV (as := [x0, x1, x2, x3]) hc9 hm ok hrm hL hk hci hn hn1 hst d K
theorem g_callS0 {Mc : Mt} {rest : List Value} {i n' : Nat} {R' : Option Value → Hp → Prop} (hc9 : Ct G Mc [] h n n' R') (hm : Cond.methodLink M.1.cls i Mc.1 ∈ Wt) (ok : okS Mc 0) (hrm : okR M Mc) (hn : n ≤ n') (hn1 : n' ≤ n1) (hst : (rest.map fun v => v.category).sum ≤ 8) (d : decode M.2.1 pc = .ok (.invokestatic i, 3)) (K : ∀ v h', R' v h' → Go G M n1 R h' n' (pc + 3) ls (v.toList ++ rest)) : Go G M n1 R h n pc ls (rest) := g_callS (as := []) hc9 hm ok hrm hn hn1 hst d K
theorem g_callS1 {Mc : Mt} {x0 : Value} {rest : List Value} {i n' : Nat} {R' : Option Value → Hp → Prop} (hc9 : Ct G Mc [x0] h n n' R') (hm : Cond.methodLink M.1.cls i Mc.1 ∈ Wt) (ok : okS Mc 1) (hrm : okR M Mc) (hn : n ≤ n') (hn1 : n' ≤ n1) (hst : (rest.map fun v => v.category).sum ≤ 8) (d : decode M.2.1 pc = .ok (.invokestatic i, 3)) (K : ∀ v h', R' v h' → Go G M n1 R h' n' (pc + 3) ls (v.toList ++ rest)) : Go G M n1 R h n pc ls (x0 :: rest) := g_callS (as := [x0]) hc9 hm ok hrm hn hn1 hst d K
theorem g_callS2 {Mc : Mt} {x0 x1 : Value} {rest : List Value} {i n' : Nat} {R' : Option Value → Hp → Prop} (hc9 : Ct G Mc [x0, x1] h n n' R') (hm : Cond.methodLink M.1.cls i Mc.1 ∈ Wt) (ok : okS Mc 2) (hrm : okR M Mc) (hn : n ≤ n') (hn1 : n' ≤ n1) (hst : (rest.map fun v => v.category).sum ≤ 8) (d : decode M.2.1 pc = .ok (.invokestatic i, 3)) (K : ∀ v h', R' v h' → Go G M n1 R h' n' (pc + 3) ls (v.toList ++ rest)) : Go G M n1 R h n pc ls (x1 :: x0 :: rest) := g_callS (as := [x0, x1]) hc9 hm ok hrm hn hn1 hst d K
theorem g_callS3 {Mc : Mt} {x0 x1 x2 : Value} {rest : List Value} {i n' : Nat} {R' : Option Value → Hp → Prop} (hc9 : Ct G Mc [x0, x1, x2] h n n' R') (hm : Cond.methodLink M.1.cls i Mc.1 ∈ Wt) (ok : okS Mc 3) (hrm : okR M Mc) (hn : n ≤ n') (hn1 : n' ≤ n1) (hst : (rest.map fun v => v.category).sum ≤ 8) (d : decode M.2.1 pc = .ok (.invokestatic i, 3)) (K : ∀ v h', R' v h' → Go G M n1 R h' n' (pc + 3) ls (v.toList ++ rest)) : Go G M n1 R h n pc ls (x2 :: x1 :: x0 :: rest) := g_callS (as := [x0, x1, x2]) hc9 hm ok hrm hn hn1 hst d K
theorem g_callS4 {Mc : Mt} {x0 x1 x2 x3 : Value} {rest : List Value} {i n' : Nat} {R' : Option Value → Hp → Prop} (hc9 : Ct G Mc [x0, x1, x2, x3] h n n' R') (hm : Cond.methodLink M.1.cls i Mc.1 ∈ Wt) (ok : okS Mc 4) (hrm : okR M Mc) (hn : n ≤ n') (hn1 : n' ≤ n1) (hst : (rest.map fun v => v.category).sum ≤ 8) (d : decode M.2.1 pc = .ok (.invokestatic i, 3)) (K : ∀ v h', R' v h' → Go G M n1 R h' n' (pc + 3) ls (v.toList ++ rest)) : Go G M n1 R h n pc ls (x3 :: x2 :: x1 :: x0 :: rest) := g_callS (as := [x0, x1, x2, x3]) hc9 hm ok hrm hn hn1 hst d K
theorem g_callS5 {Mc : Mt} {x0 x1 x2 x3 x4 : Value} {rest : List Value} {i n' : Nat} {R' : Option Value → Hp → Prop} (hc9 : Ct G Mc [x0, x1, x2, x3, x4] h n n' R') (hm : Cond.methodLink M.1.cls i Mc.1 ∈ Wt) (ok : okS Mc 5) (hrm : okR M Mc) (hn : n ≤ n') (hn1 : n' ≤ n1) (hst : (rest.map fun v => v.category).sum ≤ 8) (d : decode M.2.1 pc = .ok (.invokestatic i, 3)) (K : ∀ v h', R' v h' → Go G M n1 R h' n' (pc + 3) ls (v.toList ++ rest)) : Go G M n1 R h n pc ls (x4 :: x3 :: x2 :: x1 :: x0 :: rest) := g_callS (as := [x0, x1, x2, x3, x4]) hc9 hm ok hrm hn hn1 hst d K
theorem g_callS6 {Mc : Mt} {x0 x1 x2 x3 x4 x5 : Value} {rest : List Value} {i n' : Nat} {R' : Option Value → Hp → Prop} (hc9 : Ct G Mc [x0, x1, x2, x3, x4, x5] h n n' R') (hm : Cond.methodLink M.1.cls i Mc.1 ∈ Wt) (ok : okS Mc 6) (hrm : okR M Mc) (hn : n ≤ n') (hn1 : n' ≤ n1) (hst : (rest.map fun v => v.category).sum ≤ 8) (d : decode M.2.1 pc = .ok (.invokestatic i, 3)) (K : ∀ v h', R' v h' → Go G M n1 R h' n' (pc + 3) ls (v.toList ++ rest)) : Go G M n1 R h n pc ls (x5 :: x4 :: x3 :: x2 :: x1 :: x0 :: rest) := g_callS (as := [x0, x1, x2, x3, x4, x5]) hc9 hm ok hrm hn hn1 hst d K
theorem g_callS7 {Mc : Mt} {x0 x1 x2 x3 x4 x5 x6 : Value} {rest : List Value} {i n' : Nat} {R' : Option Value → Hp → Prop} (hc9 : Ct G Mc [x0, x1, x2, x3, x4, x5, x6] h n n' R') (hm : Cond.methodLink M.1.cls i Mc.1 ∈ Wt) (ok : okS Mc 7) (hrm : okR M Mc) (hn : n ≤ n') (hn1 : n' ≤ n1) (hst : (rest.map fun v => v.category).sum ≤ 8) (d : decode M.2.1 pc = .ok (.invokestatic i, 3)) (K : ∀ v h', R' v h' → Go G M n1 R h' n' (pc + 3) ls (v.toList ++ rest)) : Go G M n1 R h n pc ls (x6 :: x5 :: x4 :: x3 :: x2 :: x1 :: x0 :: rest) := g_callS (as := [x0, x1, x2, x3, x4, x5, x6]) hc9 hm ok hrm hn hn1 hst d K
theorem g_callS8 {Mc : Mt} {x0 x1 x2 x3 x4 x5 x6 x7 : Value} {rest : List Value} {i n' : Nat} {R' : Option Value → Hp → Prop} (hc9 : Ct G Mc [x0, x1, x2, x3, x4, x5, x6, x7] h n n' R') (hm : Cond.methodLink M.1.cls i Mc.1 ∈ Wt) (ok : okS Mc 8) (hrm : okR M Mc) (hn : n ≤ n') (hn1 : n' ≤ n1) (hst : (rest.map fun v => v.category).sum ≤ 8) (d : decode M.2.1 pc = .ok (.invokestatic i, 3)) (K : ∀ v h', R' v h' → Go G M n1 R h' n' (pc + 3) ls (v.toList ++ rest)) : Go G M n1 R h n pc ls (x7 :: x6 :: x5 :: x4 :: x3 :: x2 :: x1 :: x0 :: rest) := g_callS (as := [x0, x1, x2, x3, x4, x5, x6, x7]) hc9 hm ok hrm hn hn1 hst d K
theorem g_callS9 {Mc : Mt} {x0 x1 x2 x3 x4 x5 x6 x7 x8 : Value} {rest : List Value} {i n' : Nat} {R' : Option Value → Hp → Prop} (hc9 : Ct G Mc [x0, x1, x2, x3, x4, x5, x6, x7, x8] h n n' R') (hm : Cond.methodLink M.1.cls i Mc.1 ∈ Wt) (ok : okS Mc 9) (hrm : okR M Mc) (hn : n ≤ n') (hn1 : n' ≤ n1) (hst : (rest.map fun v => v.category).sum ≤ 8) (d : decode M.2.1 pc = .ok (.invokestatic i, 3)) (K : ∀ v h', R' v h' → Go G M n1 R h' n' (pc + 3) ls (v.toList ++ rest)) : Go G M n1 R h n pc ls (x8 :: x7 :: x6 :: x5 :: x4 :: x3 :: x2 :: x1 :: x0 :: rest) := g_callS (as := [x0, x1, x2, x3, x4, x5, x6, x7, x8]) hc9 hm ok hrm hn hn1 hst d K
theorem g_callI0 {Mc : Mt} {rest : List Value} {k i n' : Nat} {R' : Option Value → Hp → Prop} (hc9 : Ct G Mc (ga G k :: []) h n n' R') (hm : Cond.methodLink M.1.cls i Mc.1 ∈ Wt) (ok : okI Mc 0) (hrm : okR M Mc) (hn : n ≤ n') (hn1 : n' ≤ n1) (hst : (rest.map fun v => v.category).sum ≤ 8) (d : decode M.2.1 pc = .ok (.invokespecial i, 3)) (K : ∀ v h', R' v h' → Go G M n1 R h' n' (pc + 3) ls (v.toList ++ rest)) : Go G M n1 R h n pc ls (ga G k :: rest) := g_callI (as := []) hc9 hm ok hrm hn hn1 hst d K
end GC
