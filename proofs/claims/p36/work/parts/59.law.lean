/-! ===== THE LAW ===== -/
section P59c
variable {G : Gl} {M : Mt} {n1 : Nat} {R : Option Value → Hp → Prop} {h : Hp} {n pc : Nat} {ls : List (Option Value)} {st : List Value}
/-- a static call with up to twelve words left on the stack below it -/
theorem g_callS_12 {Mc : Mt} {as rest : List Value} {i n' : Nat} {R' : Option Value → Hp → Prop} (hc9 : Ct G Mc as h n n' R') (hm : Cond.methodLink M.1.cls i Mc.1 ∈ Wt) (ok : okS Mc as.length) (hrm : Mc.2.2.2.2.1 + 1 ≤ M.2.2.2.2.1 ∧ 12 + (Mc.2.2.1 + 11) + Mc.2.2.2.2.2 ≤ M.2.2.2.2.2) (hn : n ≤ n') (hn1 : n' ≤ n1) (hst : (rest.map fun v => v.category).sum ≤ 12) (d : decode M.2.1 pc = .ok (.invokestatic i, 3))
    (K : ∀ v h', R' v h' → Go G M n1 R h' n' (pc + 3) ls (v.toList ++ rest)) : Go G M n1 R h n pc ls (as.reverse ++ rest) := by
  intro n0 p e s m args below meth c H A locs cells slots d0 C hd hl hw hS ha hb hc hs
  have q1 := sl_mono hn
  have q2 := sl_mono ha
  have q3 := sl_mono hn1
  obtain ⟨⟨o1, o2, o3, o4⟩, o5⟩ := ok
  have hgd : GoodIn (wM M) (va_wsS M.1.cls i Mc.1 (wM Mc)) := by
    intro w hw9
    unfold va_wsS at hw9
    rcases List.mem_append.mp hw9 with h9 | h9
    · simp only [List.mem_cons, List.not_mem_nil, or_false] at h9
      rcases h9 with rfl | rfl | rfl
      · exact ⟨List.mem_cons_of_mem _ hm, (Wt_good _ hm).2⟩
      · exact ⟨List.mem_cons_of_mem _ o5, (Wt_good _ o5).2⟩
      · exact ⟨List.mem_cons_of_mem _ o1, (Wt_good _ o1).2⟩
    · exact gd_M o2 w h9
  obtain ⟨⟨hrc, hrs, hfr, hlo, hws, hcw, hcode, hini, hy, hlen, hl9⟩, hstt⟩ := va_cwS (R := rmOf M (n1 - n0) (sl n1 - sl n0)) (s := s.setDrawn d0) (args := args) (rm := rmOf Mc (n' - n) (sl n' - sl n)) (mc := n' - n) (ms := sl n' - sl n) as.length (dr_words C.2.2.2.2.2.1 d0) hgd rfl rfl rfl ⟨o3.1, o3.2, o4⟩ ⟨hrm.1, by have := hrm.2; show 8 + (Mc.2.2.1 + 11) + Mc.2.2.2.2.2 ≤ M.2.2.2.2.2; omega⟩
  have hK : BackD lw_cs G.1 (rmOf M (n1 - n0) (sl n1 - sl n0)) p e below (s.setDrawn d0) args Mc.1 3 12 (PreOf (rmOf M (n1 - n0) (sl n1 - sl n0)) (n' - n) (sl n' - sl n) (va_Pc as (fun U => Wp G h n U U.heap))) (PostOf (Qr G R' n') (n' - n) (sl n' - sl n) (gA G)) := back_of_D (bytes := Mc.2.1) (maxL := Mc.2.2.1) (ret := Mc.2.2.2.1) hc9 wp_blind hrc hrs hfr hrm.2 hws hcw (fun a' U hW => word_at hW (Or.inl (by first | rfl | simp [Cond.onTables, Cond.keeps, Cond.steady])) hini)
  refine g_run (R' := R') (a := as.toArray) (rest := rest) (st0 := as.reverse ++ rest) C hd hl hw hS ha hb hc hs hn hn1 ?_ K
  intro T hT X
  obtain ⟨v, vm₁, ⟨U', l2, c2, s2⟩, d', hd', hW₁, X', ⟨g', mk, t, L, e1, e2, hq, h1, hL, h2, h3⟩, st⟩ := callS_D X C.1 (bytes := Mc.2.1) (maxL := Mc.2.2.1) (ret := Mc.2.2.2.1) C.2.2.2.2.1 hl9 hstt hini hcode hy hK (g := F0 m pc A (as.reverse ++ rest)) rfl (hl.2.1.trans C.2.2.2.1.symm) (argsL := as) (rest := rest) (fun sig hh => hlen sig hh) rfl (by show 2 * 0 + _ ≤ 12; omega) (by rw [C.2.1]; exact d)
    (fun vm₁ hW₁ => ⟨by show cells + (n' - n) ≤ n1 - n0; omega, by show slots + (sl n' - sl n) ≤ sl n1 - sl n0; omega, rfl, by show Wp G h n _ _; rw [show (T.setVm vm₁).heap = H from hT]; exact hw.moved (show s.vm.Alike (T.setVm vm₁).vm from hW₁.alike)⟩)
  dsimp only [Pt.U, Pt.locs, Pt.cells, Pt.slots] at X' e1 e2 h1 h2 h3 st
  subst h1; subst h2; subst h3
  exact ⟨v, ((T.setVm vm₁).setDrawn d').calling g' mk as.toArray, t, U', L, d', hd', hT, X', hL, e1, e2, hq, st⟩
theorem g_callS2_12 {Mc : Mt} {x0 x1 : Value} {rest : List Value} {i n' : Nat} {R' : Option Value → Hp → Prop} (hc9 : Ct G Mc [x0, x1] h n n' R') (hm : Cond.methodLink M.1.cls i Mc.1 ∈ Wt) (ok : okS Mc 2) (hrm : Mc.2.2.2.2.1 + 1 ≤ M.2.2.2.2.1 ∧ 12 + (Mc.2.2.1 + 11) + Mc.2.2.2.2.2 ≤ M.2.2.2.2.2) (hn : n ≤ n') (hn1 : n' ≤ n1) (hst : (rest.map fun v => v.category).sum ≤ 12) (d : decode M.2.1 pc = .ok (.invokestatic i, 3)) (K : ∀ v h', R' v h' → Go G M n1 R h' n' (pc + 3) ls (v.toList ++ rest)) : Go G M n1 R h n pc ls (x1 :: x0 :: rest) := g_callS_12 (as := [x0, x1]) hc9 hm ok hrm hn hn1 hst d K
end P59c
def M0 : Mo := up (up (uf (up (up ((fun _ _ => 0, fun _ => 0) : Mo) 0 2 (-5)) 0 3 (-5)) 9 1101004800) 0 7 (nI 1)) 0 8 (nI 2)
theorem d_20 : (4626322717216342016 : UInt64) = FP.f2d 1101004800 := by decide +kernel
theorem f2d_0 : FP.f2d 0 = 0 := by decide +kernel
theorem Gd20 : Gd 1101004800 := by
  show (1101004800 : UInt32).toNat ≤ 2139095040
  decide
theorem tn0 {h : Hp} (hL : Lw h M0) (hS : Sh h) (hN : N0 h 1) (hH : h.1 64 1 = 0) : Tn h M0 0 0 0 0 := by
  obtain ⟨⟨a5, a6, a7, a8, a9, a10, a11, a3, a4⟩, ⟨b1, b3⟩, ⟨c1, c2, c3⟩, d5⟩ := hN
  have e0 : ∀ k, k ≠ 2 → k ≠ 3 → k ≠ 7 → k ≠ 8 → M0.1 0 k = 0 := fun k k2 k3 k7 k8 => by simp (disch := omega) only [M0, up_ne, uf_i]
  have e02 : M0.1 0 2 = -5 := by simp (disch := omega) only [M0, up_ne, up_at, uf_i]
  have e03 : M0.1 0 3 = -5 := by simp (disch := omega) only [M0, up_ne, up_at, uf_i]
  have e07 : M0.1 0 7 = nI 1 := by simp (disch := omega) only [M0, up_ne, up_at, uf_i]
  have er : ∀ r k, r ≠ 0 → M0.1 r k = 0 := fun r k hr => by simp (disch := omega) only [M0, up_ne, uf_i]
  have ef : ∀ k, k ≠ 9 → M0.2 k = 0 := fun k hk => by simp (disch := omega) only [M0, up_f, uf_ne]
  have ef9 : M0.2 9 = 1101004800 := by simp (disch := omega) only [M0, up_f, uf_at]
  have vac : ∀ {P : Nat → Prop} i, i < 0 → P i := fun i hi => absurd hi (Nat.not_lt_zero i)
  refine ⟨hL, ⟨⟨a5.trans (e0 0 (by omega) (by omega) (by omega) (by omega)).symm, a6.trans (e0 1 (by omega) (by omega) (by omega) (by omega)).symm, a7.trans e02.symm, a8.trans e03.symm, a9.trans (e0 15 (by omega) (by omega) (by omega) (by omega)).symm, a10.trans (e0 16 (by omega) (by omega) (by omega) (by omega)).symm, a11.trans (e0 17 (by omega) (by omega) (by omega) (by omega)).symm, a3.trans (ef 8 (by omega)).symm, a4.trans ef9.symm⟩, ⟨b1, b3, c1, c2.trans (e0 6 (by omega) (by omega) (by omega) (by omega)).symm, c3.trans e07.symm⟩, fun i hi => absurd hi (Nat.not_lt_zero i), fun i hi => absurd hi (Nat.not_lt_zero i), fun i hi => absurd hi (Nat.not_lt_zero i), ⟨9, by omega, d5⟩, ⟨0, by omega, hH⟩, hS⟩, ⟨⟨⟨by omega, by omega, by omega⟩, ?_, fun i hi => absurd hi (Nat.not_lt_zero i), fun i hi => absurd hi (Nat.not_lt_zero i), ⟨fun i hi => absurd hi (Nat.not_lt_zero i), ?_, ?_⟩, fun i j hi => absurd hi (Nat.not_lt_zero i), fun i hi => absurd hi (Nat.not_lt_zero i), fun i hi => absurd hi (Nat.not_lt_zero i)⟩, ⟨e0 12 (by omega) (by omega) (by omega) (by omega), e0 13 (by omega) (by omega) (by omega) (by omega), e0 14 (by omega) (by omega) (by omega) (by omega)⟩, fun i hi => absurd hi (Nat.not_lt_zero i), fun i hi => absurd hi (Nat.not_lt_zero i), fun j _ => er 5 j (by omega), e0 0 (by omega) (by omega) (by omega) (by omega), Or.inl ⟨e03, ⟨e02, fun i hi => absurd hi (Nat.not_lt_zero i)⟩, fun i hi => absurd hi (Nat.not_lt_zero i)⟩⟩, ⟨⟨e0 9 (by omega) (by omega) (by omega) (by omega), by omega, e0 10 (by omega) (by omega) (by omega) (by omega), by omega, e0 11 (by omega) (by omega) (by omega) (by omega), by omega⟩, fun i hi => absurd hi (Nat.not_lt_zero i), fun i hi => absurd hi (Nat.not_lt_zero i), fun i hi => absurd hi (Nat.not_lt_zero i)⟩, ⟨fun i _ => ⟨er 1 _ (by omega), er 1 _ (by omega)⟩, fun k _ hk4 => ⟨er 2 _ (by omega), er 2 _ (by omega), er 2 _ (by omega), ef _ (by omega)⟩⟩, fun i hi => absurd hi (Nat.not_lt_zero i)⟩
  · unfold Ip pl; rw [e0 1 (by omega) (by omega) (by omega) (by omega)]; exact ⟨by decide, by decide⟩
  · rw [ef 8 (by omega)]; exact Gd0
  · rw [ef9]; exact Gd20
theorem wN_0 {h : Hp} {a j : Nat} : (wN h a).1 a j = 0 := if_pos rfl
theorem wN_d0 {h : Hp} {a j : Nat} : (wN h a).2.2.1 a j = 0 := if_pos rfl
theorem wN_d {h : Hp} {a b j : Nat} (q : b ≠ a) : (wN h a).2.2.1 b j = h.2.2.1 b j := if_neg q
def hz (h : Hp) : Hp := wN (wN (wN (wN (wN (wN (wN h 449) 450) 451) 452) 453) 454) 455
theorem hz_i (h : Hp) (a : Nat) (h0 : 449 ≤ a) (h1 : a ≤ 455) : (hz h).1 a = fun _ => 0 := by
  funext j
  obtain rfl | rfl | rfl | rfl | rfl | rfl | rfl : a = 449 ∨ a = 450 ∨ a = 451 ∨ a = 452 ∨ a = 453 ∨ a = 454 ∨ a = 455 := by omega
  all_goals simp (disch := omega) only [hz, wN_i, wN_0]
theorem hz_d (h : Hp) (j : Nat) : (hz h).2.2.1 452 j = 0 := by simp (disch := omega) only [hz, wN_d, wN_d0]
theorem hz_lo (h : Hp) : Lo h (hz h) 449 := Lo.wN (by omega) (Lo.wN (by omega) (Lo.wN (by omega) (Lo.wN (by omega) (Lo.wN (by omega) (Lo.wN (by omega) (Lo.wN (by omega) (Lo.rf _ _)))))))
theorem Sh.lo {h h' : Hp} (e : Lo h h' 449) (s : Sh h) : Sh h' := by
  have e1 : ∀ a j, a < 449 → h'.2.2.2 a j = h.2.2.2 a j := fun a j ha => congrFun (e a ha).2.2.2 j
  obtain ⟨a1, a2, a3, a4, a5, a6⟩ := s
  exact ⟨a1.lo (fun a j _ ha => e1 a j (by omega)), (e1 _ _ (by omega)).trans a2, (e1 _ _ (by omega)).trans a3, (e1 _ _ (by omega)).trans a4, fun i hi => by obtain ⟨q, q1, q2⟩ := a5 i hi; exact ⟨q, q1, (e1 _ _ (by omega)).trans q2⟩, fun j hj => (a6 j hj).lo (fun a k _ ha => e1 a k (by omega))⟩
section P59
variable {G : Gl} {h : Hp}
theorem l_cell (hG : G.2.2.2.2.2.1 ≤ 260) (k : Nat) (hk : k < 1000) : Ct G mL_cell [.ref G.2.2.2.2.1, .int (nI k)] h 456 456 (rI (fun r h' => h' = h)) := by
  refine Ct.of rfl (by simp [Value.category, ga]) (Nat.le_of_ble_eq_true rfl) (Nat.le_refl _) ?_
  show Go _ _ _ _ _ _ _ [some (.ref G.2.2.2.2.1), some (.int (nI k))] []
  refine g_ild1 dL_cell_0 ?_
  refine g_sld0 dL_cell_1 ?_
  refine g_slen dL_cell_2 ?_
  refine g_icmp_ge (tgt := 12) dL_cell_3 (by decide) (fun c_3 => ?_) (fun c_3 => ?_)
  · skip
    refine g_ldc mw_2_117 dL_cell_12 ?_
    show Go _ _ _ _ _ _ 14 _ _
    refine g_ild1 dL_cell_14 ?_
    refine g_iconst (v := nI 1) dL_cell_15 (by decide +kernel) ?_
    first | refine g_iadd_n dL_cell_16 ?_ | refine g_iadd dL_cell_16 ?_
    first | refine g_imul_n dL_cell_17 ?_ | refine g_imul dL_cell_17 ?_
    exact g_iret rfl dL_cell_18 ⟨_, rfl, rfl⟩
  · skip
    refine g_sld0 dL_cell_6 ?_
    show Go _ _ _ _ _ _ 7 _ _
    refine g_ild1 dL_cell_7 ?_
    refine g_sld (j := k) rfl (Nat.lt_of_not_le (fun z => c_3 (nI_le z (by omega)))) (by omega) dL_cell_8 ?_
    refine g_goto (tgt := 18) dL_cell_9 (by decide) ?_
    exact g_iret rfl dL_cell_18 ⟨_, rfl, rfl⟩
theorem law_loop (hG : G.2.2.2.2.2.1 ≤ 260) : ∀ m k (h : Hp) (M : Mo) (ni nd nj T : Nat) x10 x11, m + k = 48 → T ≤ 30 * k → Tn h M ni nd nj T → Go G mL_law 456 (fun v _ => v = some (.int 1)) h 456 79 [some (.ref G.2.2.2.2.1), some (ga G 0), some (ga G 449), some (ga G 450), some (ga G 451), some (ga G 452), some (ga G 453), some (ga G 454), some (ga G 455), some (.int (nI k)), x10, x11] [] := by
  intro m
  induction m with
  | zero =>
    intro k h M ni nd nj T x10 x11 hk hT9 hTn
    obtain rfl : k = 48 := by omega
    refine g_ild9 dL_law_79 ?_
    refine g_bipush (v := nI 48) dL_law_81 (by decide +kernel) ?_
    refine g_icmp_ge_t (tgt := 401) dL_law_83 (by decide) (by decide) ?_
    refine g_iconst (v := nI 1) dL_law_401 (by decide +kernel) ?_
    exact g_zret rfl rfl dL_law_402 rfl
  | succ m ih =>
    intro k h M ni nd nj T x10 x11 hk hT9 hTn
    have k334 : ∀ (h2 : Hp) (M2 : Mo) (ni nd nj T2 : Nat) x, T2 ≤ 30 * (k + 1) → Tn h2 M2 ni nd nj T2 → Go G mL_law 456 (fun v _ => v = some (.int 1)) h2 456 334 [some (.ref G.2.2.2.2.1), some (ga G 0), some (ga G 449), some (ga G 450), some (ga G 451), some (ga G 452), some (ga G 453), some (ga G 454), some (ga G 455), some (.int (nI k)), x, some (.int 1)] [] := by
      intro h2 M2 ni nd nj T2 x hT2 hTn2
      refine g_ild11 dL_law_334 ?_
      refine g_if_eq_f (tgt := 393) dL_law_336 (by decide) (by decide) ?_
      refine g_ald1 dL_law_339 ?_
      refine g_ald2 dL_law_340 ?_
      refine g_ald3 dL_law_341 ?_
      show Go _ _ _ _ _ _ 342 _ _
      refine g_ald4 dL_law_342 ?_
      refine g_ald6 dL_law_344 ?_
      refine g_ald7 dL_law_346 ?_
      refine g_callS6 (lq_areItems (h := h2) M2 ni nd nj T2 hTn2) mw_2_122 ok_L_areItems ⟨by decide, by decide⟩ (by omega) (by omega) (Nat.le_of_ble_eq_true rfl) dL_law_348 (dI_K ?_)
      refine g_if_eq_f (tgt := 393) dL_law_351 (by decide) (by decide) ?_
      refine g_ald1 dL_law_354 ?_
      show Go _ _ _ _ _ _ 355 _ _
      refine g_ald2 dL_law_355 ?_
      refine g_ald4 dL_law_356 ?_
      refine g_ald5 dL_law_358 ?_
      refine g_callS4 (lq_areDrives (h := h2) M2 ni nd nj T2 hTn2) mw_2_166 ok_L_areDrives ⟨by decide, by decide⟩ (by omega) (by omega) (Nat.le_of_ble_eq_true rfl) dL_law_360 (dI_K ?_)
      refine g_if_eq_f (tgt := 393) dL_law_363 (by decide) (by decide) ?_
      refine g_ald1 dL_law_366 ?_
      show Go _ _ _ _ _ _ 367 _ _
      refine g_ald2 dL_law_367 ?_
      refine g_ald6 dL_law_368 ?_
      refine g_ald7 dL_law_370 ?_
      refine g_callS4 (lq_areJobs (h := h2) M2 ni nd nj T2 hTn2) mw_2_208 ok_L_areJobs ⟨by decide, by decide⟩ (by omega) (by omega) (Nat.le_of_ble_eq_true rfl) dL_law_372 (dI_K ?_)
      refine g_if_eq_f (tgt := 393) dL_law_375 (by decide) (by decide) ?_
      refine g_ald1 dL_law_378 ?_
      show Go _ _ _ _ _ _ 379 _ _
      refine g_ald2 dL_law_379 ?_
      refine g_ald3 dL_law_380 ?_
      refine g_ald5 dL_law_381 ?_
      refine g_ald6 dL_law_383 ?_
      refine g_ald7 dL_law_385 ?_
      refine g_callS6 (lq_areCounts (h := h2) M2 ni nd nj T2 hTn2) mw_2_223 ok_L_areCounts ⟨by decide, by decide⟩ (by omega) (by omega) (Nat.le_of_ble_eq_true rfl) dL_law_387 (dI_K ?_)
      show Go _ _ _ _ _ _ 390 _ _
      refine g_if_ne_t (tgt := 395) dL_law_390 (by decide) (by decide) ?_
      refine g_iinc9 (by decide) dL_law_395 (nI_1 k) ?_
      refine g_goto (tgt := 79) dL_law_398 (by decide) ?_
      exact ih (k + 1) h2 M2 ni nd nj T2 _ _ (by omega) hT2 hTn2
    have k192 : ∀ x : Int32, Go G mL_law 456 (fun v _ => v = some (.int 1)) h 456 192 [some (.ref G.2.2.2.2.1), some (ga G 0), some (ga G 449), some (ga G 450), some (ga G 451), some (ga G 452), some (ga G 453), some (ga G 454), some (ga G 455), some (.int (nI k)), some (.int x), x11] [] := by
      intro x
      refine g_ald1 dL_law_192 ?_
      refine g_ald2 dL_law_193 ?_
      refine g_ald6 dL_law_194 ?_
      refine g_ald7 dL_law_196 ?_
      refine g_ild10 dL_law_198 ?_
      show Go _ _ _ _ _ _ 200 _ _
      refine g_callS5 (lq_holds (h := h) M ni nd nj T x hTn (by omega)) mw_3_195 ok_L_holds ⟨by decide, by decide⟩ (by omega) (by omega) (Nat.le_of_ble_eq_true rfl) dL_law_200 (rI_K ?_)
      rintro r h2 ⟨rfl, M2, hTn2⟩
      refine g_ist11 (by decide) dL_law_203 ?_
      refine g_goto (tgt := 334) dL_law_205 (by decide) ?_
      exact k334 h2 M2 ni nd nj T _ (by omega) hTn2
    have k208 : ∀ x : Int32, Go G mL_law 456 (fun v _ => v = some (.int 1)) h 456 208 [some (.ref G.2.2.2.2.1), some (ga G 0), some (ga G 449), some (ga G 450), some (ga G 451), some (ga G 452), some (ga G 453), some (ga G 454), some (ga G 455), some (.int (nI k)), some (.int x), x11] [] := by
      intro x
      refine g_ald1 dL_law_208 ?_
      refine g_ald2 dL_law_209 ?_
      refine g_ald3 dL_law_210 ?_
      refine g_ald5 dL_law_211 ?_
      refine g_ild10 dL_law_213 ?_
      show Go _ _ _ _ _ _ 215 _ _
      refine g_callS5 (lq_sets (h := h) M ni nd nj T x hTn) mw_3_206 ok_L_sets ⟨by decide, by decide⟩ (by omega) (by omega) (Nat.le_of_ble_eq_true rfl) dL_law_215 (rI_K ?_)
      rintro r h2 ⟨rfl, M2, hTn2⟩
      refine g_ist11 (by decide) dL_law_218 ?_
      refine g_goto (tgt := 334) dL_law_220 (by decide) ?_
      exact k334 h2 M2 ni nd nj T _ (by omega) hTn2
    have k223 : ∀ x : Int32, Go G mL_law 456 (fun v _ => v = some (.int 1)) h 456 223 [some (.ref G.2.2.2.2.1), some (ga G 0), some (ga G 449), some (ga G 450), some (ga G 451), some (ga G 452), some (ga G 453), some (ga G 454), some (ga G 455), some (.int (nI k)), some (.int x), x11] [] := by
      intro x
      refine g_ald1 dL_law_223 ?_
      refine g_ald2 dL_law_224 ?_
      refine g_ald3 dL_law_225 ?_
      refine g_ald6 dL_law_226 ?_
      refine g_ald7 dL_law_228 ?_
      show Go _ _ _ _ _ _ 230 _ _
      refine g_ild10 dL_law_230 ?_
      refine g_callS6 (lq_gives (h := h) M ni nd nj T x hTn) mw_3_162 ok_L_gives ⟨by decide, by decide⟩ (by omega) (by omega) (Nat.le_of_ble_eq_true rfl) dL_law_232 (rI_K ?_)
      rintro r h2 ⟨rfl, M2, nj2, hTn2⟩
      refine g_ist11 (by decide) dL_law_235 ?_
      refine g_goto (tgt := 334) dL_law_237 (by decide) ?_
      exact k334 h2 M2 ni nd nj2 T _ (by omega) hTn2
    have k240 : ∀ x : Int32, Go G mL_law 456 (fun v _ => v = some (.int 1)) h 456 240 [some (.ref G.2.2.2.2.1), some (ga G 0), some (ga G 449), some (ga G 450), some (ga G 451), some (ga G 452), some (ga G 453), some (ga G 454), some (ga G 455), some (.int (nI k)), some (.int x), x11] [] := by
      intro x
      refine g_ald1 dL_law_240 ?_
      refine g_ald2 dL_law_241 ?_
      refine g_ald3 dL_law_242 ?_
      refine g_ild10 dL_law_243 ?_
      refine g_callS4 (lq_adds (h := h) M ni nd nj T x hTn) mw_3_62 ok_L_adds ⟨by decide, by decide⟩ (by omega) (by omega) (Nat.le_of_ble_eq_true rfl) dL_law_245 (rI_K ?_)
      rintro r h2 ⟨rfl, M2, ni2, hTn2⟩
      show Go _ _ _ _ _ _ 248 _ _
      refine g_if_eq_f (tgt := 269) dL_law_248 (by decide) (by decide) ?_
      refine g_ald1 dL_law_251 ?_
      refine g_ald2 dL_law_252 ?_
      refine g_ald3 dL_law_253 ?_
      refine g_ild10 dL_law_254 ?_
      refine g_bipush (v := nI 11) dL_law_256 (by decide +kernel) ?_
      show Go _ _ _ _ _ _ 258 _ _
      refine g_ishr dL_law_258 ?_
      refine g_callS4 (lq_adds (h := h2) M2 ni2 nd nj T _ hTn2) mw_3_62 ok_L_adds ⟨by decide, by decide⟩ (by omega) (by omega) (Nat.le_of_ble_eq_true rfl) dL_law_259 (rI_K ?_)
      rintro r h3 ⟨rfl, M3, ni3, hTn3⟩
      refine g_if_eq_f (tgt := 269) dL_law_262 (by decide) (by decide) ?_
      refine g_iconst (v := nI 1) dL_law_265 (by decide +kernel) ?_
      refine g_goto (tgt := 270) dL_law_266 (by decide) ?_
      refine g_ist11 (by decide) dL_law_270 ?_
      show Go _ _ _ _ _ _ 272 _ _
      refine g_goto (tgt := 334) dL_law_272 (by decide) ?_
      exact k334 h3 M3 ni3 nd nj T _ (by omega) hTn3
    have k275 : ∀ x : Int32, Go G mL_law 456 (fun v _ => v = some (.int 1)) h 456 275 [some (.ref G.2.2.2.2.1), some (ga G 0), some (ga G 449), some (ga G 450), some (ga G 451), some (ga G 452), some (ga G 453), some (ga G 454), some (ga G 455), some (.int (nI k)), some (.int x), x11] [] := by
      intro x
      refine g_ald1 dL_law_275 ?_
      refine g_ald2 dL_law_276 ?_
      refine g_ald4 dL_law_277 ?_
      refine g_ald5 dL_law_279 ?_
      refine g_ild10 dL_law_281 ?_
      show Go _ _ _ _ _ _ 283 _ _
      refine g_callS5 (lq_builds (h := h) M ni nd nj T x hTn) mw_3_141 ok_L_builds ⟨by decide, by decide⟩ (by omega) (by omega) (Nat.le_of_ble_eq_true rfl) dL_law_283 (rI_K ?_)
      rintro r h2 ⟨rfl, M2, nd2, hTn2⟩
      refine g_ist11 (by decide) dL_law_286 ?_
      refine g_goto (tgt := 334) dL_law_288 (by decide) ?_
      exact k334 h2 M2 ni nd2 nj T _ (by omega) hTn2
    have k291 : ∀ x : Int32, Go G mL_law 456 (fun v _ => v = some (.int 1)) h 456 291 [some (.ref G.2.2.2.2.1), some (ga G 0), some (ga G 449), some (ga G 450), some (ga G 451), some (ga G 452), some (ga G 453), some (ga G 454), some (ga G 455), some (.int (nI k)), some (.int x), x11] [] := by
      intro x
      refine g_ald1 dL_law_291 ?_
      refine g_ald2 dL_law_292 ?_
      refine g_ald3 dL_law_293 ?_
      refine g_ald4 dL_law_294 ?_
      refine g_ald5 dL_law_296 ?_
      show Go _ _ _ _ _ _ 298 _ _
      refine g_ald6 dL_law_298 ?_
      refine g_ald7 dL_law_300 ?_
      refine g_ald8 dL_law_302 ?_
      refine g_iconst (v := nI 1) dL_law_304 (by decide +kernel) ?_
      refine g_ild10 dL_law_305 ?_
      refine g_ild10 dL_law_307 ?_
      show Go _ _ _ _ _ _ 309 _ _
      refine g_bipush (v := nI 8) dL_law_309 (by decide +kernel) ?_
      refine g_ishr dL_law_311 ?_
      refine g_iconst (v := nI 4) dL_law_312 (by decide +kernel) ?_
      refine g_callS2_12 (l_low (h := h) _ 4 (by omega) (by omega)) mw_2_118 ok_L_low ⟨by decide, by decide⟩ (by omega) (by omega) (Nat.le_of_ble_eq_true rfl) dL_law_313 (rI_K ?_)
      rintro r h ⟨rfl, p, hp, rfl⟩
      refine g_if_ne (tgt := 324) dL_law_316 (by decide) (fun c_316 => ?_) (fun c_316 => ?_)
      · skip
        refine g_iconst (v := nI 4) dL_law_324 (by decide +kernel) ?_
        show Go _ _ _ _ _ _ 325 _ _
        refine g_callS2_12 (l_low (h := h) x 4 (by omega) (by omega)) mw_2_118 ok_L_low ⟨by decide, by decide⟩ (by omega) (by omega) (Nat.le_of_ble_eq_true rfl) dL_law_325 (rI_K ?_)
        rintro r h ⟨rfl, q, hq, rfl⟩
        first | refine g_iadd_n dL_law_328 ?_ | refine g_iadd dL_law_328 ?_
        refine g_callS9 (l_passes (h := h) M ni nd nj T (1 + q) hTn (by omega) (by omega)) mw_3_234 ok_L_passes ⟨by decide, by decide⟩ (by omega) (by omega) (Nat.le_of_ble_eq_true rfl) dL_law_329 (rI_K ?_)
        rintro r h2 ⟨rfl, M2, hTn2⟩
        refine g_ist11 (by decide) dL_law_332 ?_
        exact k334 h2 M2 ni nd nj (T + (1 + q)) _ (by omega) hTn2
      · skip
        refine g_bipush (v := nI 30) dL_law_319 (by decide +kernel) ?_
        refine g_goto (tgt := 325) dL_law_321 (by decide) ?_
        show Go _ _ _ _ _ _ 325 _ _
        refine g_callS2_12 (l_low (h := h) x 30 (by omega) (by omega)) mw_2_118 ok_L_low ⟨by decide, by decide⟩ (by omega) (by omega) (Nat.le_of_ble_eq_true rfl) dL_law_325 (rI_K ?_)
        rintro r h ⟨rfl, q, hq, rfl⟩
        first | refine g_iadd_n dL_law_328 ?_ | refine g_iadd dL_law_328 ?_
        refine g_callS9 (l_passes (h := h) M ni nd nj T (1 + q) hTn (by omega) (by omega)) mw_3_234 ok_L_passes ⟨by decide, by decide⟩ (by omega) (by omega) (Nat.le_of_ble_eq_true rfl) dL_law_329 (rI_K ?_)
        rintro r h2 ⟨rfl, M2, hTn2⟩
        refine g_ist11 (by decide) dL_law_332 ?_
        exact k334 h2 M2 ni nd nj (T + (1 + q)) _ (by omega) hTn2
    have k128 : ∀ (q : Nat) (x : Int32), q < 12 → Go G mL_law 456 (fun v _ => v = some (.int 1)) h 456 128 [some (.ref G.2.2.2.2.1), some (ga G 0), some (ga G 449), some (ga G 450), some (ga G 451), some (ga G 452), some (ga G 453), some (ga G 454), some (ga G 455), some (.int (nI k)), some (.int x), x11] [.int (nI q)] := by
      intro q x hq
      obtain rfl | rfl | rfl | rfl | rfl | rfl | rfl | rfl | rfl | rfl | rfl | rfl : q = 0 ∨ q = 1 ∨ q = 2 ∨ q = 3 ∨ q = 4 ∨ q = 5 ∨ q = 6 ∨ q = 7 ∨ q = 8 ∨ q = 9 ∨ q = 10 ∨ q = 11 := by omega
      · skip
        refine g_tabIn (tgt := 192) (off := 64) dL_law_128 (by decide +kernel) (by decide +kernel) (by decide +kernel) (by decide) ?_
        exact k192 x
      · skip
        refine g_tabIn (tgt := 208) (off := 80) dL_law_128 (by decide +kernel) (by decide +kernel) (by decide +kernel) (by decide) ?_
        exact k208 x
      · skip
        refine g_tabIn (tgt := 223) (off := 95) dL_law_128 (by decide +kernel) (by decide +kernel) (by decide +kernel) (by decide) ?_
        exact k223 x
      · skip
        refine g_tabIn (tgt := 223) (off := 95) dL_law_128 (by decide +kernel) (by decide +kernel) (by decide +kernel) (by decide) ?_
        exact k223 x
      · skip
        refine g_tabIn (tgt := 223) (off := 95) dL_law_128 (by decide +kernel) (by decide +kernel) (by decide +kernel) (by decide) ?_
        exact k223 x
      · skip
        refine g_tabIn (tgt := 291) (off := 163) dL_law_128 (by decide +kernel) (by decide +kernel) (by decide +kernel) (by decide) ?_
        exact k291 x
      · skip
        refine g_tabIn (tgt := 291) (off := 163) dL_law_128 (by decide +kernel) (by decide +kernel) (by decide +kernel) (by decide) ?_
        exact k291 x
      · skip
        refine g_tabIn (tgt := 291) (off := 163) dL_law_128 (by decide +kernel) (by decide +kernel) (by decide +kernel) (by decide) ?_
        exact k291 x
      · skip
        refine g_tabIn (tgt := 291) (off := 163) dL_law_128 (by decide +kernel) (by decide +kernel) (by decide +kernel) (by decide) ?_
        exact k291 x
      · skip
        refine g_tabIn (tgt := 291) (off := 163) dL_law_128 (by decide +kernel) (by decide +kernel) (by decide +kernel) (by decide) ?_
        exact k291 x
      · skip
        refine g_tabIn (tgt := 240) (off := 112) dL_law_128 (by decide +kernel) (by decide +kernel) (by decide +kernel) (by decide) ?_
        exact k240 x
      · skip
        refine g_tabIn (tgt := 275) (off := 147) dL_law_128 (by decide +kernel) (by decide +kernel) (by decide +kernel) (by decide) ?_
        exact k275 x
    refine g_ild9 dL_law_79 ?_
    refine g_bipush (v := nI 48) dL_law_81 (by decide +kernel) ?_
    refine g_icmp_ge_f (tgt := 401) dL_law_83 (by decide) (nI_ge (by omega) (by omega)) ?_
    refine g_sld0 dL_law_86 ?_
    refine g_ild9 dL_law_87 ?_
    show Go _ _ _ _ _ _ 89 _ _
    refine g_callS2 (l_cell (h := h) hG k (by omega)) mw_2_114 ok_L_cell ⟨by decide, by decide⟩ (by omega) (by omega) (Nat.le_of_ble_eq_true rfl) dL_law_89 (rI_K ?_)
    rintro x h rfl
    refine g_ist10 (by decide) dL_law_92 ?_
    refine g_ild9 dL_law_94 ?_
    refine g_bipush (v := nI 7) dL_law_96 (by decide +kernel) ?_
    refine g_icmp_ge (tgt := 118) dL_law_98 (by decide) (fun c_98 => ?_) (fun c_98 => ?_)
    · skip
      refine g_ild10 dL_law_118 ?_
      show Go _ _ _ _ _ _ 120 _ _
      refine g_bipush (v := nI 27) dL_law_120 (by decide +kernel) ?_
      refine g_ishr dL_law_122 ?_
      refine g_bipush (v := nI 10) dL_law_123 (by decide +kernel) ?_
      refine g_callS2 (l_low (h := h) _ 10 (by omega) (by omega)) mw_2_118 ok_L_low ⟨by decide, by decide⟩ (by omega) (by omega) (Nat.le_of_ble_eq_true rfl) dL_law_125 (rI_K ?_)
      rintro r h ⟨rfl, q, hq, rfl⟩
      first | exact k128 10 x (by omega) | exact k128 11 x (by omega) | exact k128 q x (by omega)
    · skip
      refine g_ild9 dL_law_101 ?_
      refine g_iconst (v := nI 2) dL_law_103 (by decide +kernel) ?_
      show Go _ _ _ _ _ _ 104 _ _
      refine g_irem dL_law_104 (by decide) rfl ?_
      refine g_if_ne (tgt := 113) dL_law_105 (by decide) (fun c_105 => ?_) (fun c_105 => ?_)
      · skip
        refine g_bipush (v := nI 11) dL_law_113 (by decide +kernel) ?_
        refine g_goto (tgt := 128) dL_law_115 (by decide) ?_
        first | exact k128 10 x (by omega) | exact k128 11 x (by omega) | exact k128 q x (by omega)
      · skip
        refine g_bipush (v := nI 10) dL_law_108 (by decide +kernel) ?_
        refine g_goto (tgt := 128) dL_law_110 (by decide) ?_
        first | exact k128 10 x (by omega) | exact k128 11 x (by omega) | exact k128 q x (by omega)
theorem law_go (hG : G.2.2.2.2.2.1 ≤ 260) : Go G mL_law 456 (fun v _ => v = some (.int 1)) h 0 0 [some (.ref G.2.2.2.2.1), none, none, none, none, none, none, none, none, none, none, none] [] := by
  have k48 : ∀ h : Hp, Lw h ((fun _ _ => 0, fun _ => 0) : Mo) → Sh h → N0 h 1 → h.1 64 1 = 0 → Go G mL_law 456 (fun v _ => v = some (.int 1)) h 456 48 [some (.ref G.2.2.2.2.1), some (ga G 0), some (ga G 449), some (ga G 450), some (ga G 451), some (ga G 452), some (ga G 453), some (ga G 454), some (ga G 455), none, none, none] [] := by
    intro h0 hL hS hN hH
    have hK := KR.rf h0
    refine g_ald2 dL_law_48 ?_
    refine g_iconst (v := nI 2) dL_law_49 (by decide +kernel) ?_
    refine g_bipush (v := -5) dL_law_50 (by decide +kernel) ?_
    first | refine g_istr Rw.g rfl (by omega) rfl (by omega) dL_law_52 hL hK ?_ | refine g_istr Rw.t rfl (by omega) rfl (by omega) dL_law_52 hL hK ?_ | refine g_istr Rw.d rfl (by omega) rfl (by omega) dL_law_52 hL hK ?_ | refine g_istr Rw.a rfl (by omega) rfl (by omega) dL_law_52 hL hK ?_ | refine g_istr Rw.b rfl (by omega) rfl (by omega) dL_law_52 hL hK ?_ | refine g_istr Rw.c rfl (by omega) rfl (by omega) dL_law_52 hL hK ?_
    intro h hL hK
    refine g_ald2 dL_law_53 ?_
    show Go _ _ _ _ _ _ 54 _ _
    refine g_iconst (v := nI 3) dL_law_54 (by decide +kernel) ?_
    refine g_bipush (v := -5) dL_law_55 (by decide +kernel) ?_
    first | refine g_istr Rw.g rfl (by omega) rfl (by omega) dL_law_57 hL hK ?_ | refine g_istr Rw.t rfl (by omega) rfl (by omega) dL_law_57 hL hK ?_ | refine g_istr Rw.d rfl (by omega) rfl (by omega) dL_law_57 hL hK ?_ | refine g_istr Rw.a rfl (by omega) rfl (by omega) dL_law_57 hL hK ?_ | refine g_istr Rw.b rfl (by omega) rfl (by omega) dL_law_57 hL hK ?_ | refine g_istr Rw.c rfl (by omega) rfl (by omega) dL_law_57 hL hK ?_
    intro h hL hK
    refine g_ald5 dL_law_58 ?_
    refine g_bipush (v := nI 9) dL_law_60 (by decide +kernel) ?_
    refine g_ldc2d_v mw_4_108 dL_law_62 d_20 ?_
    show Go _ _ _ _ _ _ 65 _ _
    refine g_dstr rfl (by omega) rfl (by omega) dL_law_65 hL hK ?_
    intro h hL hK
    refine g_ald2 dL_law_66 ?_
    refine g_bipush (v := nI 7) dL_law_67 (by decide +kernel) ?_
    refine g_iconst (v := nI 1) dL_law_69 (by decide +kernel) ?_
    first | refine g_istr Rw.g rfl (by omega) rfl (by omega) dL_law_70 hL hK ?_ | refine g_istr Rw.t rfl (by omega) rfl (by omega) dL_law_70 hL hK ?_ | refine g_istr Rw.d rfl (by omega) rfl (by omega) dL_law_70 hL hK ?_ | refine g_istr Rw.a rfl (by omega) rfl (by omega) dL_law_70 hL hK ?_ | refine g_istr Rw.b rfl (by omega) rfl (by omega) dL_law_70 hL hK ?_ | refine g_istr Rw.c rfl (by omega) rfl (by omega) dL_law_70 hL hK ?_
    intro h hL hK
    refine g_ald2 dL_law_71 ?_
    show Go _ _ _ _ _ _ 72 _ _
    refine g_bipush (v := nI 8) dL_law_72 (by decide +kernel) ?_
    refine g_iconst (v := nI 2) dL_law_74 (by decide +kernel) ?_
    first | refine g_istr Rw.g rfl (by omega) rfl (by omega) dL_law_75 hL hK ?_ | refine g_istr Rw.t rfl (by omega) rfl (by omega) dL_law_75 hL hK ?_ | refine g_istr Rw.d rfl (by omega) rfl (by omega) dL_law_75 hL hK ?_ | refine g_istr Rw.a rfl (by omega) rfl (by omega) dL_law_75 hL hK ?_ | refine g_istr Rw.b rfl (by omega) rfl (by omega) dL_law_75 hL hK ?_ | refine g_istr Rw.c rfl (by omega) rfl (by omega) dL_law_75 hL hK ?_
    intro h hL hK
    have hL : Lw h M0 := hL
    have hTn : Tn h M0 0 0 0 0 := by
      obtain ⟨k1, k2, k3⟩ := hK
      refine tn0 hL (by unfold Sh St at hS ⊢; rw [k3]; exact hS) (N0.cg (fun a h0 ha => ⟨funext fun j => k1 a j (by omega), by rw [k2]⟩) hN) ((k1 64 1 (by omega)).trans hH)
    refine g_iconst (v := nI 0) dL_law_76 (by decide +kernel) ?_
    refine g_ist9 (by decide) dL_law_77 ?_
    exact law_loop hG 48 0 _ M0 0 0 0 0 _ _ (by omega) (by omega) hTn
  refine g_new cb9 mw_1_13 mw_1_14 mw_1_1 rfl (by omega) dL_law_0 ?_
  refine g_dup dL_law_3 rfl ?_
  refine g_callI0 (c_robotInit) mw_1_15 ok_X9_init ⟨by decide, by decide⟩ (by omega) (by omega) (Nat.le_of_ble_eq_true rfl) dL_law_4 (rV_K ?_)
  rintro h1 ⟨hS, hN, hH⟩
  refine g_ast1 (by decide) dL_law_7 ?_
  refine g_bipush (v := nI 18) dL_law_8 (by decide +kernel) ?_
  show Go _ _ _ _ _ _ 10 _ _
  refine g_newa_int mw_1_238 rfl rfl (by omega) dL_law_10 ?_
  refine g_ast2 (by decide) dL_law_12 ?_
  refine g_bipush (v := nI 48) dL_law_13 (by decide +kernel) ?_
  refine g_newa_int mw_1_238 rfl rfl (by omega) dL_law_15 ?_
  refine g_ast3 (by decide) dL_law_17 ?_
  refine g_bipush (v := nI 28) dL_law_18 (by decide +kernel) ?_
  show Go _ _ _ _ _ _ 20 _ _
  refine g_newa_int mw_1_238 rfl rfl (by omega) dL_law_20 ?_
  refine g_ast4 (by decide) dL_law_22 ?_
  refine g_bipush (v := nI 10) dL_law_24 (by decide +kernel) ?_
  refine g_newa_double mw_4_109 rfl rfl (by omega) dL_law_26 ?_
  refine g_ast5 (by decide) dL_law_28 ?_
  refine g_bipush (v := nI 60) dL_law_30 (by decide +kernel) ?_
  show Go _ _ _ _ _ _ 32 _ _
  refine g_newa_int mw_1_238 rfl rfl (by omega) dL_law_32 ?_
  refine g_ast6 (by decide) dL_law_34 ?_
  refine g_bipush (v := nI 60) dL_law_36 (by decide +kernel) ?_
  refine g_newa_int mw_1_238 rfl rfl (by omega) dL_law_38 ?_
  refine g_ast7 (by decide) dL_law_40 ?_
  refine g_bipush (v := nI 10) dL_law_42 (by decide +kernel) ?_
  show Go _ _ _ _ _ _ 44 _ _
  refine g_newa_int mw_1_238 rfl rfl (by omega) dL_law_44 ?_
  refine g_ast8 (by decide) dL_law_46 ?_
  exact k48 (hz h1) ⟨hz_i h1 449 (by omega) (by omega), hz_i h1 450 (by omega) (by omega), hz_i h1 451 (by omega) (by omega), hz_i h1 453 (by omega) (by omega), hz_i h1 454 (by omega) (by omega), hz_i h1 455 (by omega) (by omega), fun j => (hz_d h1 j).trans f2d_0.symm⟩ (hS.lo (hz_lo h1)) (hN.cg (fun a h0 ha => ⟨((hz_lo h1) a (by omega)).1, ((hz_lo h1) a (by omega)).2.1⟩)) ((congrFun ((hz_lo h1) 64 (by omega)).1 1).trans hH)
end P59
