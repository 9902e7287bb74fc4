/-! ===== THE LAW'S SIDE: its rows hold the model ===== -/
def Rw (k r : Nat) : Prop := (k = 449 ∧ r = 0) ∨ (k = 450 ∧ r = 1) ∨ (k = 451 ∧ r = 2) ∨ (k = 453 ∧ r = 3) ∨ (k = 454 ∧ r = 4) ∨ (k = 455 ∧ r = 5)
theorem Rw.g : Rw 449 0 := Or.inl ⟨rfl, rfl⟩
theorem Rw.t : Rw 450 1 := Or.inr (Or.inl ⟨rfl, rfl⟩)
theorem Rw.d : Rw 451 2 := Or.inr (Or.inr (Or.inl ⟨rfl, rfl⟩))
theorem Rw.a : Rw 453 3 := Or.inr (Or.inr (Or.inr (Or.inl ⟨rfl, rfl⟩)))
theorem Rw.b : Rw 454 4 := Or.inr (Or.inr (Or.inr (Or.inr (Or.inl ⟨rfl, rfl⟩))))
theorem Rw.c : Rw 455 5 := Or.inr (Or.inr (Or.inr (Or.inr (Or.inr ⟨rfl, rfl⟩))))
theorem Lw.get {h : Hp} {M : Mo} {k r : Nat} (hr : Rw k r) (L : Lw h M) : h.1 k = M.1 r := by
  obtain ⟨l0, l1, l2, l3, l4, l5, -⟩ := L
  rcases hr with ⟨rfl, rfl⟩ | ⟨rfl, rfl⟩ | ⟨rfl, rfl⟩ | ⟨rfl, rfl⟩ | ⟨rfl, rfl⟩ | ⟨rfl, rfl⟩ <;> assumption
theorem up_row {M : Mo} {a j x : Nat} {v : Int32} (h : x ≠ a) : (up M a j v).1 x = M.1 x := funext fun _ => up_ne (fun z => h z.1)
theorem wI_row {h : Hp} {a k b : Nat} {v : Int32} (hb : b ≠ a) : (wI h a k v).1 b = h.1 b := funext fun _ => wI_ne (by omega)
theorem row_at {h : Hp} {M : Mo} {k r j : Nat} {v : Int32} (e : h.1 k = M.1 r) : (wI h k j v).1 k = (up M r j v).1 r := by
  funext i
  by_cases c : i = j
  · subst c; rw [wI_at, up_at]
  · rw [wI_ne (by omega), up_ne (by omega), e]
theorem Lw.put {h : Hp} {M : Mo} {k r j : Nat} {v : Int32} (hr : Rw k r) (L : Lw h M) : Lw (wI h k j v) (up M r j v) := by
  have g := L.get hr
  obtain ⟨l0, l1, l2, l3, l4, l5, l6⟩ := L
  rcases hr with ⟨rfl, rfl⟩ | ⟨rfl, rfl⟩ | ⟨rfl, rfl⟩ | ⟨rfl, rfl⟩ | ⟨rfl, rfl⟩ | ⟨rfl, rfl⟩ <;> refine ⟨?_, ?_, ?_, ?_, ?_, ?_, l6⟩ <;> first | exact row_at g | (rw [wI_row (by omega), up_row (by omega)]; assumption)
theorem Lw.putD {h : Hp} {M : Mo} {j : Nat} {v : UInt32} (L : Lw h M) : Lw (wD h 452 j (FP.f2d v)) (uf M j v) := by
  obtain ⟨l0, l1, l2, l3, l4, l5, l6⟩ := L
  refine ⟨l0, l1, l2, l3, l4, l5, fun i => ?_⟩
  show (if _ then FP.f2d v else h.2.2.1 452 i) = FP.f2d (if i = j then v else M.2 i)
  by_cases c : i = j
  · rw [if_pos c, if_pos ⟨rfl, c⟩]
  · rw [if_neg c, if_neg (fun z => c z.2), l6 i]
theorem KR.rf (h : Hp) : KR h h := ⟨fun _ _ _ => rfl, rfl, rfl⟩
theorem KR.tr {h h1 h2 : Hp} (a : KR h h1) (b : KR h1 h2) : KR h h2 := ⟨fun x j hx => (b.1 x j hx).trans (a.1 x j hx), b.2.1.trans a.2.1, b.2.2.trans a.2.2⟩
theorem KR.put {h0 h : Hp} {k r j : Nat} {v : Int32} (hr : Rw k r) (K : KR h0 h) : KR h0 (wI h k j v) := by
  have hk : 449 ≤ k := by rcases hr with ⟨rfl, rfl⟩ | ⟨rfl, rfl⟩ | ⟨rfl, rfl⟩ | ⟨rfl, rfl⟩ | ⟨rfl, rfl⟩ | ⟨rfl, rfl⟩ <;> omega
  exact ⟨fun x i hx => (wI_ne (by omega)).trans (K.1 x i hx), K.2.1, K.2.2⟩
theorem KR.putD {h0 h : Hp} {k j : Nat} {v : UInt64} (K : KR h0 h) : KR h0 (wD h k j v) := K
section GL
variable {G : Gl} {M : Mt} {n1 : Nat} {R : Option Value → Hp → Prop} {h : Hp} {n pc : Nat} {ls : List (Option Value)} {st : List Value} {N : Mo} {h0 : Hp}
theorem g_ildr {r k j w : Nat} {x v : Int32} (hr : Rw k r) (hL : Lay k = .inr (0, w)) (hk : k < n) (hx : x = nI j) (hj : j < w) (d : decode M.2.1 pc = .ok (.iaload, 1)) (L : Lw h N) (hv : N.1 r j = v) (K : Go G M n1 R h n (pc + 1) ls (.int v :: st)) : Go G M n1 R h n pc ls (.int x :: ga G k :: st) := by
  refine g_iald hL hk hx hj d ?_
  rw [L.get hr, hv]
  exact K
theorem g_dldr {j w : Nat} {x : Int32} {v : UInt32} (hL : Lay 452 = .inr (2, w)) (hk : 452 < n) (hx : x = nI j) (hj : j < w) (d : decode M.2.1 pc = .ok (.daload, 1)) (L : Lw h N) (hv : N.2 j = v) (K : Go G M n1 R h n (pc + 1) ls (.double (FP.f2d v) :: st)) : Go G M n1 R h n pc ls (.int x :: ga G 452 :: st) := by
  refine g_dald hL hk hx hj d ?_
  rw [L.2.2.2.2.2.2 j, hv]
  exact K
theorem g_istr {r k j w : Nat} {x v : Int32} (hr : Rw k r) (hL : Lay k = .inr (0, w)) (hk : k < n) (hx : x = nI j) (hj : j < w) (d : decode M.2.1 pc = .ok (.iastore, 1)) (L : Lw h N) (K0 : KR h0 h) (K : ∀ h', Lw h' (up N r j v) → KR h0 h' → Go G M n1 R h' n (pc + 1) ls st) : Go G M n1 R h n pc ls (.int v :: .int x :: ga G k :: st) :=
  g_iast hL hk hx hj d (K _ (L.put hr) (K0.put hr))
theorem g_dstr {j w : Nat} {x : Int32} {v : UInt32} (hL : Lay 452 = .inr (2, w)) (hk : 452 < n) (hx : x = nI j) (hj : j < w) (d : decode M.2.1 pc = .ok (.dastore, 1)) (L : Lw h N) (K0 : KR h0 h) (K : ∀ h', Lw h' (uf N j v) → KR h0 h' → Go G M n1 R h' n (pc + 1) ls st) : Go G M n1 R h n pc ls (.double (FP.f2d v) :: .int x :: ga G 452 :: st) :=
  g_dast hL hk hx hj d (K _ L.putD K0.putD)
end GL
theorem nI_sub {a b : Nat} (h : b ≤ a) : nI a - nI b = nI (a - b) := by
  have e : nI a = nI (a - b) + nI b := by rw [nI_add, Nat.sub_add_cancel h]
  rw [e, Int32.add_sub_cancel]
section P32
variable {G : Gl} {h : Hp}
theorem l_away (a b : Nat) (ha : a < 24) (hb : b < 24) : Ct G mL_away [.int (nI a), .int (nI b)] h 456 456 (dI (nI (ad a b)) h) := by
  refine Ct.of rfl (by simp [Value.category, ga]) (Nat.le_of_ble_eq_true rfl) (Nat.le_refl _) ?_
  show Go _ _ _ _ _ _ _ [some (.int (nI a)), some (.int (nI b))] []
  refine g_ild0 dL_away_0 ?_
  refine g_ild1 dL_away_1 ?_
  refine g_icmp_le (tgt := 11) dL_away_2 (by decide) (fun c_2 => ?_) (fun c_2 => ?_)
  · skip
    have c := (nI_leI (by omega) (by omega)).mp c_2
    refine g_ild1 dL_away_11 ?_
    refine g_ild0 dL_away_12 ?_
    show Go _ _ _ _ _ _ 13 _ _
    refine g_isub_v dL_away_13 (v := nI (b - a)) (nI_sub (by omega)) ?_
    exact g_iret rfl dL_away_14 ⟨congrArg (fun z => some (Value.int (nI z))) (if_pos c).symm, rfl⟩
  · skip
    have c : ¬ a ≤ b := fun z => c_2 ((nI_leI (by omega) (by omega)).mpr z)
    refine g_ild0 dL_away_5 ?_
    refine g_ild1 dL_away_6 ?_
    refine g_isub_v dL_away_7 (v := nI (a - b)) (nI_sub (by omega)) ?_
    refine g_goto (tgt := 14) dL_away_8 (by decide) ?_
    show Go _ _ _ _ _ _ 14 _ _
    exact g_iret rfl dL_away_14 ⟨congrArg (fun z => some (Value.int (nI z))) (if_neg c).symm, rfl⟩
theorem l_rank (M : Mo) (x : Int32) (hL : Lw h M) : Ct G mL_rank [ga G 449, .int x] h 456 456 (dI (nI (rk M x)) h) := by
  refine Ct.of rfl (by simp [Value.category, ga]) (Nat.le_of_ble_eq_true rfl) (Nat.le_refl _) ?_
  show Go _ _ _ _ _ _ _ [some (ga G 449), some (.int x)] []
  refine g_ald0 dL_rank_0 ?_
  refine g_bipush (v := nI 6) dL_rank_1 (by decide +kernel) ?_
  first | refine g_ildr Rw.g rfl (by omega) rfl (by omega) dL_rank_3 hL rfl ?_ | refine g_ildr Rw.t rfl (by omega) rfl (by omega) dL_rank_3 hL rfl ?_ | refine g_ildr Rw.d rfl (by omega) rfl (by omega) dL_rank_3 hL rfl ?_ | refine g_ildr Rw.a rfl (by omega) rfl (by omega) dL_rank_3 hL rfl ?_ | refine g_ildr Rw.b rfl (by omega) rfl (by omega) dL_rank_3 hL rfl ?_ | refine g_ildr Rw.c rfl (by omega) rfl (by omega) dL_rank_3 hL rfl ?_
  refine g_ild1 dL_rank_4 ?_
  refine g_icmp_ne (tgt := 12) dL_rank_5 (by decide) (fun c_5 => ?_) (fun c_5 => ?_)
  · skip
    show Go _ _ _ _ _ _ 12 _ _
    refine g_ald0 dL_rank_12 ?_
    refine g_bipush (v := nI 7) dL_rank_13 (by decide +kernel) ?_
    first | refine g_ildr Rw.g rfl (by omega) rfl (by omega) dL_rank_15 hL rfl ?_ | refine g_ildr Rw.t rfl (by omega) rfl (by omega) dL_rank_15 hL rfl ?_ | refine g_ildr Rw.d rfl (by omega) rfl (by omega) dL_rank_15 hL rfl ?_ | refine g_ildr Rw.a rfl (by omega) rfl (by omega) dL_rank_15 hL rfl ?_ | refine g_ildr Rw.b rfl (by omega) rfl (by omega) dL_rank_15 hL rfl ?_ | refine g_ildr Rw.c rfl (by omega) rfl (by omega) dL_rank_15 hL rfl ?_
    refine g_ild1 dL_rank_16 ?_
    refine g_icmp_ne (tgt := 24) dL_rank_17 (by decide) (fun c_17 => ?_) (fun c_17 => ?_)
    · skip
      refine g_iconst (v := nI 2) dL_rank_24 (by decide +kernel) ?_
      show Go _ _ _ _ _ _ 25 _ _
      exact g_iret rfl dL_rank_25 ⟨congrArg (fun z => some (Value.int (nI z))) (by unfold rk; first | rw [if_pos c_5.symm] | rw [if_neg (fun z => c_5 z.symm), if_pos c_17.symm] | rw [if_neg (fun z => c_5 z.symm), if_neg (fun z => c_17 z.symm)]), rfl⟩
    · skip
      refine g_iconst (v := nI 1) dL_rank_20 (by decide +kernel) ?_
      refine g_goto (tgt := 25) dL_rank_21 (by decide) ?_
      exact g_iret rfl dL_rank_25 ⟨congrArg (fun z => some (Value.int (nI z))) (by unfold rk; first | rw [if_pos c_5.symm] | rw [if_neg (fun z => c_5 z.symm), if_pos c_17.symm] | rw [if_neg (fun z => c_5 z.symm), if_neg (fun z => c_17 z.symm)]), rfl⟩
  · skip
    refine g_iconst (v := nI 0) dL_rank_8 (by decide +kernel) ?_
    refine g_goto (tgt := 25) dL_rank_9 (by decide) ?_
    show Go _ _ _ _ _ _ 25 _ _
    exact g_iret rfl dL_rank_25 ⟨congrArg (fun z => some (Value.int (nI z))) (by unfold rk; first | rw [if_pos c_5.symm] | rw [if_neg (fun z => c_5 z.symm), if_pos c_17.symm] | rw [if_neg (fun z => c_5 z.symm), if_neg (fun z => c_17 z.symm)]), rfl⟩
theorem l_isDusty (M : Mo) (k : Nat) (hL : Lw h M) (hk : k < 4) (g1 : Gd (M.2 (2 * k))) (g2 : Gd (M.2 (2 * k + 1))) : Ct G mL_isDusty [ga G 452, .int (nI k)] h 456 456 (rB (dst M k) h) := by
  refine Ct.of rfl (by simp [Value.category, ga]) (Nat.le_of_ble_eq_true rfl) (Nat.le_refl _) ?_
  show Go _ _ _ _ _ _ _ [some (ga G 452), some (.int (nI k))] []
  refine g_ald0 dL_isDusty_0 ?_
  refine g_iconst (v := nI 2) dL_isDusty_1 (by decide +kernel) ?_
  refine g_ild1 dL_isDusty_2 ?_
  first | refine g_imul_n dL_isDusty_3 ?_ | refine g_imul dL_isDusty_3 ?_
  refine g_dldr rfl (by omega) rfl (by omega) dL_isDusty_4 hL rfl ?_
  show Go _ _ _ _ _ _ 5 _ _
  refine g_ald0 dL_isDusty_5 ?_
  refine g_iconst (v := nI 2) dL_isDusty_6 (by decide +kernel) ?_
  refine g_ild1 dL_isDusty_7 ?_
  first | refine g_imul_n dL_isDusty_8 ?_ | refine g_imul dL_isDusty_8 ?_
  refine g_iconst (v := nI 1) dL_isDusty_9 (by decide +kernel) ?_
  first | refine g_iadd_n dL_isDusty_10 ?_ | refine g_iadd dL_isDusty_10 ?_
  show Go _ _ _ _ _ _ 11 _ _
  refine g_dldr rfl (by omega) rfl (by omega) dL_isDusty_11 hL rfl ?_
  refine g_dcmp dL_isDusty_12 ?_
  rw [fl_dcmp g1 g2]
  refine g_if_le (tgt := 20) dL_isDusty_13 (by decide) (fun c_13 => ?_) (fun c_13 => ?_)
  · skip
    refine g_iconst (v := nI 0) dL_isDusty_20 (by decide +kernel) ?_
    exact g_zret rfl rfl dL_isDusty_21 ⟨by first | exact Or.inl ⟨rfl, Nat.lt_of_not_le (fun z => c_13 (cmpv_le.mpr z))⟩ | exact Or.inr ⟨rfl, fun z => absurd (cmpv_le.mp c_13) (Nat.not_le.mpr z)⟩, rfl⟩
  · skip
    refine g_iconst (v := nI 1) dL_isDusty_16 (by decide +kernel) ?_
    show Go _ _ _ _ _ _ 17 _ _
    refine g_goto (tgt := 21) dL_isDusty_17 (by decide) ?_
    exact g_zret rfl rfl dL_isDusty_21 ⟨by first | exact Or.inl ⟨rfl, Nat.lt_of_not_le (fun z => c_13 (cmpv_le.mpr z))⟩ | exact Or.inr ⟨rfl, fun z => absurd (cmpv_le.mp c_13) (Nat.not_le.mpr z)⟩, rfl⟩
theorem l_atHome (M : Mo) (x : Int32) (ni nd nj : Nat) (hL : Lw h M) (hz : Iz M ni nd nj) : Ct G mL_atHome [ga G 449, ga G 450, .int x] h 456 456 (rI (fun r h' => h' = h ∧ ((r = -5 ∧ ∀ i, i < ni → M.1 1 (6 * i + 1) ≠ x) ∨ ∃ i, i < ni ∧ r = nI i ∧ M.1 1 (6 * i + 1) = x))) := by
  obtain ⟨z1, z2, -⟩ := hz
  refine Ct.of rfl (by simp [Value.category, ga]) (Nat.le_of_ble_eq_true rfl) (Nat.le_refl _) ?_
  show Go _ _ _ _ _ _ _ [some (ga G 449), some (ga G 450), some (.int x), none, none] []
  have loop : ∀ m i r, m + i = ni → ((r = -5 ∧ ∀ q, q < i → M.1 1 (6 * q + 1) ≠ x) ∨ ∃ q, q < i ∧ r = nI q ∧ M.1 1 (6 * q + 1) = x) → Go G mL_atHome 456 (rI (fun r h' => h' = h ∧ ((r = -5 ∧ ∀ i, i < ni → M.1 1 (6 * i + 1) ≠ x) ∨ ∃ i, i < ni ∧ r = nI i ∧ M.1 1 (6 * i + 1) = x))) h 456 6 [some (ga G 449), some (ga G 450), some (.int x), some (.int r), some (.int (nI i))] [] := by
    intro m
    induction m with
    | zero =>
      intro i r hi hq
      obtain rfl : i = ni := by omega
      refine g_ild4 dL_atHome_6 ?_
      refine g_ald0 dL_atHome_8 ?_
      refine g_bipush (v := nI 9) dL_atHome_9 (by decide +kernel) ?_
      first | refine g_ildr Rw.g rfl (by omega) rfl (by omega) dL_atHome_11 hL (v := (nI i)) z1 ?_ | refine g_ildr Rw.t rfl (by omega) rfl (by omega) dL_atHome_11 hL (v := (nI i)) z1 ?_ | refine g_ildr Rw.d rfl (by omega) rfl (by omega) dL_atHome_11 hL (v := (nI i)) z1 ?_ | refine g_ildr Rw.a rfl (by omega) rfl (by omega) dL_atHome_11 hL (v := (nI i)) z1 ?_ | refine g_ildr Rw.b rfl (by omega) rfl (by omega) dL_atHome_11 hL (v := (nI i)) z1 ?_ | refine g_ildr Rw.c rfl (by omega) rfl (by omega) dL_atHome_11 hL (v := (nI i)) z1 ?_
      refine g_icmp_ge_t (tgt := 41) dL_atHome_12 (by decide) (nI_le (by omega) (by omega)) ?_
      show Go _ _ _ _ _ _ 41 _ _
      refine g_ild3 dL_atHome_41 ?_
      exact g_iret rfl dL_atHome_42 ⟨r, rfl, rfl, hq⟩
    | succ m ih =>
      intro i r hi hq
      refine g_ild4 dL_atHome_6 ?_
      refine g_ald0 dL_atHome_8 ?_
      refine g_bipush (v := nI 9) dL_atHome_9 (by decide +kernel) ?_
      first | refine g_ildr Rw.g rfl (by omega) rfl (by omega) dL_atHome_11 hL (v := (nI ni)) z1 ?_ | refine g_ildr Rw.t rfl (by omega) rfl (by omega) dL_atHome_11 hL (v := (nI ni)) z1 ?_ | refine g_ildr Rw.d rfl (by omega) rfl (by omega) dL_atHome_11 hL (v := (nI ni)) z1 ?_ | refine g_ildr Rw.a rfl (by omega) rfl (by omega) dL_atHome_11 hL (v := (nI ni)) z1 ?_ | refine g_ildr Rw.b rfl (by omega) rfl (by omega) dL_atHome_11 hL (v := (nI ni)) z1 ?_ | refine g_ildr Rw.c rfl (by omega) rfl (by omega) dL_atHome_11 hL (v := (nI ni)) z1 ?_
      refine g_icmp_ge_f (tgt := 41) dL_atHome_12 (by decide) (nI_ge (by omega) (by omega)) ?_
      show Go _ _ _ _ _ _ 15 _ _
      refine g_ald1 dL_atHome_15 ?_
      refine g_bipush (v := nI 6) dL_atHome_16 (by decide +kernel) ?_
      refine g_ild4 dL_atHome_18 ?_
      first | refine g_imul_n dL_atHome_20 ?_ | refine g_imul dL_atHome_20 ?_
      refine g_iconst (v := nI 1) dL_atHome_21 (by decide +kernel) ?_
      first | refine g_iadd_n dL_atHome_22 ?_ | refine g_iadd dL_atHome_22 ?_
      show Go _ _ _ _ _ _ 23 _ _
      first | refine g_ildr Rw.g rfl (by omega) rfl (by omega) dL_atHome_23 hL rfl ?_ | refine g_ildr Rw.t rfl (by omega) rfl (by omega) dL_atHome_23 hL rfl ?_ | refine g_ildr Rw.d rfl (by omega) rfl (by omega) dL_atHome_23 hL rfl ?_ | refine g_ildr Rw.a rfl (by omega) rfl (by omega) dL_atHome_23 hL rfl ?_ | refine g_ildr Rw.b rfl (by omega) rfl (by omega) dL_atHome_23 hL rfl ?_ | refine g_ildr Rw.c rfl (by omega) rfl (by omega) dL_atHome_23 hL rfl ?_
      refine g_ild2 dL_atHome_24 ?_
      refine g_icmp_ne (tgt := 33) dL_atHome_25 (by decide) (fun c_25 => ?_) (fun c_25 => ?_)
      · skip
        refine g_ild3 dL_atHome_33 ?_
        refine g_ist3 (by decide) dL_atHome_34 ?_
        refine g_iinc4 (by decide) dL_atHome_35 (nI_1 i) ?_
        show Go _ _ _ _ _ _ 38 _ _
        refine g_goto (tgt := 6) dL_atHome_38 (by decide) ?_
        first | exact ih (i + 1) _ (by omega) (Or.inr ⟨i, by omega, rfl, c_25⟩) | exact ih (i + 1) _ (by omega) (hq.elim (fun z => Or.inl ⟨z.1, fun q hq' => by rcases Nat.lt_or_ge q i with y | y; exact z.2 q y; rw [show q = i by omega]; exact c_25⟩) (fun ⟨q, y1, y2⟩ => Or.inr ⟨q, by omega, y2⟩))
      · skip
        refine g_ild4 dL_atHome_28 ?_
        refine g_goto (tgt := 34) dL_atHome_30 (by decide) ?_
        refine g_ist3 (by decide) dL_atHome_34 ?_
        refine g_iinc4 (by decide) dL_atHome_35 (nI_1 i) ?_
        refine g_goto (tgt := 6) dL_atHome_38 (by decide) ?_
        first | exact ih (i + 1) _ (by omega) (Or.inr ⟨i, by omega, rfl, c_25⟩) | exact ih (i + 1) _ (by omega) (hq.elim (fun z => Or.inl ⟨z.1, fun q hq' => by rcases Nat.lt_or_ge q i with y | y; exact z.2 q y; rw [show q = i by omega]; exact c_25⟩) (fun ⟨q, y1, y2⟩ => Or.inr ⟨q, by omega, y2⟩))
  refine g_bipush (v := -5) dL_atHome_0 (by decide +kernel) ?_
  refine g_ist3 (by decide) dL_atHome_2 ?_
  refine g_iconst (v := nI 0) dL_atHome_3 (by decide +kernel) ?_
  refine g_ist4 (by decide) dL_atHome_4 ?_
  exact loop ni 0 _ (by omega) (Or.inl ⟨rfl, fun q hq => absurd hq (Nat.not_lt_zero q)⟩)
end P32
