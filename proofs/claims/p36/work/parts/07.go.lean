/-! ===== THE JUDGEMENT: method M, from its pc with these locals and stack over the numbered cells h, comes to its end with R ===== -/
/-- a method: name, code, locals, return, the frames and the words of locals that it may take -/
abbrev Mt : Type := MethodName × ByteArray × Nat × Option FieldType × Nat × Nat
def rmOf (M : Mt) (k n : Nat) : Room := { frames := M.2.2.2.2.1, cells := k, slots := n, locals := M.2.2.2.2.2 }
def wM (M : Mt) : List Cond := .code M.1 M.2.1 M.2.2.1 M.2.2.2.1 :: Wt
/-- the world: the cells below n lie there, the classes are as the tables have them, the script is where it was -/
def Wp (G : Gl) (h : Hp) (n : Nat) (U : State) (H : Heap) : Prop := H.size = G.2.1 + n ∧ va_P G.2.2.1 vwCl (wl G h n) H ∧ va_K G.2.2.1 vwCl (gtys G) U ∧ (va_AO RX2 U ∧ va_AO RX0 U ∧ va_AO RX3 U ∧ va_AO RX6 U) ∧ va_X G.2.2.2.2.1 G.2.2.2.2.2.1 G.2.2.2.2.2.2 U H ∧ G.2.2.2.2.1 < G.2.1
theorem Wp.moved {G : Gl} {h : Hp} {n : Nat} {u U : State} {H : Heap} (hvm : u.vm.Alike U.vm) (w : Wp G h n u H) : Wp G h n U H :=
  ⟨w.1, w.2.1, va_K.moved hvm w.2.2.1, ⟨va_AO.moved hvm w.2.2.2.1.1, va_AO.moved hvm w.2.2.2.1.2.1, va_AO.moved hvm w.2.2.2.1.2.2.1, va_AO.moved hvm w.2.2.2.1.2.2.2⟩, va_X.moved hvm w.2.2.2.2.1, w.2.2.2.2.2⟩
/-- the world behind a write: the same tables, another h -/
theorem Wp.put {G : Gl} {h h' : Hp} {n n' : Nat} {U : State} {H H1 : Heap} (w : Wp G h n U H) (hz : H1.size = G.2.1 + n') (hP : va_P G.2.2.1 vwCl (wl G h' n') H1) (hx : ∀ q, q < G.2.1 → H1[q]? = H[q]?) : Wp G h' n' U H1 :=
  ⟨hz, hP, w.2.2.1, w.2.2.2.1, va_X.kept w.2.2.2.2.1 (hx _ w.2.2.2.2.2), w.2.2.2.2.2⟩
/-- the locals: the listed ones hold, all are of one word -/
def al (ls : List (Option Value)) : List (Nat × Value) := (List.range ls.length).filterMap (fun i => ((ls[i]?).getD none).map (fun v => (i, v)))
theorem al_mem {ls : List (Option Value)} {i : Nat} {v : Value} : (i, v) ∈ al ls ↔ ls[i]? = some (some v) := by
  unfold al
  rw [List.mem_filterMap]
  constructor
  · rintro ⟨j, hj, e⟩
    cases hq : ls[j]? with
    | none => rw [hq] at e; simp at e
    | some o =>
      cases o with
      | none => rw [hq] at e; simp at e
      | some w =>
        rw [hq] at e
        simp only [Option.getD_some, Option.map_some, Option.some.injEq, Prod.mk.injEq] at e
        obtain ⟨rfl, rfl⟩ := e
        exact hq
  · intro h
    refine ⟨i, List.mem_range.mpr (List.getElem?_eq_some_iff.mp h).1, ?_⟩
    rw [h]; rfl
def lh (nL : Nat) (A : Array Slot) (ls : List (Option Value)) : Prop := (∀ (i : Nat) (v : Value), ls[i]? = some (some v) → v.category = 1) ∧ lv_has A nL (al ls)
theorem lh_at {nL : Nat} {A : Array Slot} {ls : List (Option Value)} (h : lh nL A ls) {i : Nat} {v : Value} (hv : ls[i]? = some (some v)) : A[i]? = some (.val v) := h.2.2.2 (i, v) (al_mem.mpr hv)
theorem lh_set {nL : Nat} {A A' : Array Slot} {ls : List (Option Value)} {i : Nat} {v : Value} (h : lh nL A ls) (hc : v.category = 1) (hA : lv_has A' nL ((i, v) :: (al ls).filter (fun q => !(q.1 == i) && !(q.1 + 1 == i && q.2.category == 2)))) : lh nL A' (ls.set i (some v)) := by
  refine ⟨fun j w hj => ?_, hA.1, hA.2.1, fun q hq => ?_⟩
  · by_cases e : i = j
    · subst e
      have hl : i < ls.length := by simpa using (List.getElem?_eq_some_iff.mp hj).1
      rw [List.getElem?_set_self hl] at hj
      cases hj; exact hc
    · rw [List.getElem?_set_ne e] at hj
      exact h.1 j w hj
  · obtain ⟨j, w⟩ := q
    have hj := al_mem.mp hq
    by_cases e : i = j
    · subst e
      have hl : i < ls.length := by simpa using (List.getElem?_eq_some_iff.mp hj).1
      rw [List.getElem?_set_self hl] at hj
      cases hj
      exact hA.2.2 _ List.mem_cons_self
    · rw [List.getElem?_set_ne e] at hj
      have h1 := h.1 j w hj
      refine hA.2.2 _ (List.mem_cons_of_mem _ (List.mem_filter.mpr ⟨al_mem.mpr hj, ?_⟩))
      simp [h1, Ne.symm e]
/-- what holds all through a method: the machine, the code, the tables' words -/
def Cx (G : Gl) (M : Mt) (n0 : Nat) (p : Program) (s : State) (m : MethodId) (args : Array Value) (meth : Method) (c : Code) : Prop :=
  p.tables.exec = Jvm.exec ∧ c.code = M.2.1 ∧ meth.sig.returnType = M.2.2.2.1 ∧ c.maxLocals = M.2.2.1 ∧ s.vm.findClass M.1.cls = some m.cls ∧ (∀ w ∈ wM M, w.before args s = true) ∧ meth.locks = false ∧ meth.name = M.1.name ∧ s.heap.size = G.2.1 + n0
theorem Cx.w {G : Gl} {M : Mt} {n0 : Nat} {p : Program} {s : State} {m : MethodId} {args : Array Value} {meth : Method} {c : Code} (C : Cx G M n0 p s m args meth c) (d : Drawn) {w : Cond} (h : w ∈ Wt) : w.before args (s.setDrawn d) = true := dr_words C.2.2.2.2.2.1 d w (List.mem_cons_of_mem _ h)
theorem Cx.ws {G : Gl} {M : Mt} {n0 : Nat} {p : Program} {s : State} {m : MethodId} {args : Array Value} {meth : Method} {c : Code} (C : Cx G M n0 p s m args meth c) (d : Drawn) : ∀ w ∈ Wt, w.before args (s.setDrawn d) = true := fun _ h => C.w d h
def gA (G : Gl) : Nat → Prop := fun q => G.2.1 ≤ q
/-- a method's end -/
def Qr (G : Gl) (R : Option Value → Hp → Prop) (n1 : Nat) : Array Value → State → Outcome → State → Prop := fun _ st o t => (∃ v h', o = .returned v ∧ R v h' ∧ Wp G h' n1 t t.heap) ∧ va_F (gA G) st t
def Go (G : Gl) (M : Mt) (n1 : Nat) (R : Option Value → Hp → Prop) (h : Hp) (n pc : Nat) (ls : List (Option Value)) (st : List Value) : Prop :=
  ∀ (n0 : Nat) (p : Program) (e : Env) (s : State) (m : MethodId) (args : Array Value) (below : List Frame) (meth : Method) (c : Code) (H : Heap) (A : Array Slot) (locs : List Loc) (cells slots : Nat) (d0 : Drawn),
    Cx G M n0 p s m args meth c → s.drawn.sameBut d0 lw_cs → lh M.2.2.1 A ls → Wp G h n s H → va_S (gA G) s.heap H locs → n0 ≤ n → n ≤ n1 → cells = n - n0 → slots = sl n - sl n0 →
    W p G.1 e (rmOf M (n1 - n0) (sl n1 - sl n0)) (s.setDrawn d0) m args below meth c H locs cells slots (MQD lw_cs below (Qr G R n1) args s (n1 - n0) (sl n1 - sl n0) (gA G)) (F0 m pc A st)
/-- a method's contract -/
def Ct (G : Gl) (M : Mt) (as : List Value) (h : Hp) (n n1 : Nat) (R : Option Value → Hp → Prop) : Prop :=
  MetD lw_cs G.1 M.1 (wM M) (rmOf M (n1 - n) (sl n1 - sl n)) (va_Pc as (fun U => Wp G h n U U.heap)) (Qr G R n1) (n1 - n) (sl n1 - sl n) (gA G)
theorem lv_args_1 : ∀ (as : List Value) (i : Nat), (∀ v ∈ as, v.category = 1) → ∀ (j : Nat) (v : Value), as[j]? = some v → (i + j, v) ∈ lv_args i as
  | [], _, _, j, v, h => by simp at h
  | a :: as, i, hc, j, v, h => by
    have h1 : a.category = 1 := hc a List.mem_cons_self
    cases j with
    | zero =>
      rw [List.getElem?_cons_zero] at h
      cases h
      exact List.mem_cons_self
    | succ j =>
      rw [List.getElem?_cons_succ] at h
      have := lv_args_1 as (i + 1) (fun v hv => hc v (List.mem_cons_of_mem _ hv)) j v h
      show _ ∈ (i, a) :: lv_args (if a.category = 2 then i + 2 else i + 1) as
      rw [h1]
      refine List.mem_cons_of_mem _ ?_
      rw [show i + (j + 1) = i + 1 + j by omega]
      exact this
theorem lh_entry {as : List Value} {nL : Nat} (hc : ∀ v ∈ as, v.category = 1) (h : (lg_sl as).length ≤ nL) : lh nL ((lg_sl as ++ List.replicate (nL - (lg_sl as).length) Slot.unset).toArray) (as.map some ++ List.replicate (nL - as.length) none) := by
  have hl := lv_entry as h
  have key : ∀ (j : Nat) (v : Value), (as.map some ++ List.replicate (nL - as.length) none)[j]? = some (some v) → as[j]? = some v := by
    intro j v hj
    by_cases q : j < as.length
    · rw [List.getElem?_append_left (by simpa using q), List.getElem?_map] at hj
      cases hx : as[j]? with
      | none => rw [hx] at hj; cases hj
      | some w => rw [hx] at hj; cases hj; rfl
    · rw [List.getElem?_append_right (by simpa using q)] at hj
      have := List.eq_of_mem_replicate (List.mem_of_getElem? hj)
      cases this
  refine ⟨fun j v hj => hc v (List.mem_of_getElem? (key j v hj)), hl.1, hl.2.1, fun q hq => ?_⟩
  obtain ⟨j, v⟩ := q
  have := lv_args_1 as 0 hc j v (key j v (al_mem.mp hq))
  rw [Nat.zero_add] at this
  exact hl.2.2 _ this
theorem Ct.of {G : Gl} {M : Mt} {as : List Value} {h : Hp} {n n1 : Nat} {R : Option Value → Hp → Prop} (hy : plainName M.1.cls = true) (hc : ∀ v ∈ as, v.category = 1) (hl : (lg_sl as).length ≤ M.2.2.1) (hn : n ≤ n1)
    (k : Go G M n1 R h n 0 (as.map some ++ List.replicate (M.2.2.1 - as.length) none) []) : Ct G M as h n n1 R := by
  refine MetD.ofW (cc := M.2.1) (maxL := M.2.2.1) (ret := M.2.2.2.1) hy rfl ?_
  intro p e s m args below meth c s₁ B hml hv hd0
  obtain ⟨rfl, hw⟩ := hv
  rw [lg_entry_eq]
  refine W.widen (k := n - n) (n := sl n - sl n) (by omega) (by omega) ?_
  exact k n p e s m as.toArray below meth c s.heap _ [] _ _ s.drawn ⟨B.exec, B.bytes, B.returns, hml, findClass_of_methodNamed B.named, atoms_spec (ws := wM M) B.pre, B.notSynchronized, (name_of_methodNamed B.named B.method).1, hw.1⟩ hd0 (lh_entry hc hl) hw va_S.rf (Nat.le_refl _) hn rfl rfl
theorem Go.mono {G : Gl} {M : Mt} {n1 : Nat} {R R' : Option Value → Hp → Prop} {h : Hp} {n pc : Nat} {ls : List (Option Value)} {st : List Value} (hR : ∀ v h', R v h' → R' v h') (k : Go G M n1 R h n pc ls st) : Go G M n1 R' h n pc ls st := by
  intro n0 p e s m args below meth c H A locs cells slots d0 a1 a2 a3 a4 a5 a6 a7 a8 a9 T hT X
  obtain ⟨t, x1, d, x2, o, x3, x4, ⟨⟨v, h', x5, x6, x7⟩, x8⟩, x9⟩ := k n0 p e s m args below meth c H A locs cells slots d0 a1 a2 a3 a4 a5 a6 a7 a8 a9 T hT X
  exact ⟨t, x1, d, x2, o, x3, x4, ⟨⟨v, h', x5, hR v h' x6, x7⟩, x8⟩, x9⟩
