/-! ===== passes: the ticks of both sides ===== -/
theorem Rb.kr {h h' : Hp} {M : Mo} {ni nd nj : Nat} (hi : ni ≤ 8) (hd : nd ≤ 4) (hj : nj ≤ 10) (R : Rb h M ni nd nj) (K : KR h h') : Rb h' M ni nd nj := by
  obtain ⟨k1, k2, k3⟩ := K
  obtain ⟨s, n, hI, hD, hJ, ⟨w, w1, w2⟩, ⟨q, q1, q2⟩, hS⟩ := R
  refine ⟨?_, ?_, fun i hii => ?_, fun k hk => ?_, fun j hjj => ?_, ⟨w, w1, ?_⟩, ⟨q, q1, ?_⟩, ?_⟩
  · rw [k2]; simp (disch := omega) only [k1]; exact s
  · simp (disch := omega) only [k1]; exact n
  · rw [k2]; simp (disch := omega) only [k1]; exact hI i hii
  · rw [k2]; simp (disch := omega) only [k1]; exact hD k hk
  · simp (disch := omega) only [k1]; exact hJ j hjj
  · rw [k1 _ _ (by omega)]; exact w2
  · rw [k1 _ _ (by omega)]; exact q2
  · unfold Sh St at hS ⊢; rw [k3]; exact hS
theorem Lw.kl {h h' : Hp} {M : Mo} (L : Lw h M) (K : KL h h') : Lw h' M := by
  obtain ⟨l0, l1, l2, l3, l4, l5, l6⟩ := L
  have e : ∀ a, 449 ≤ a → h'.1 a = h.1 a := fun a ha => funext fun j => K.1 a j ha
  exact ⟨(e _ (by omega)).trans l0, (e _ (by omega)).trans l1, (e _ (by omega)).trans l2, (e _ (by omega)).trans l3, (e _ (by omega)).trans l4, (e _ (by omega)).trans l5, fun j => by rw [K.2]; exact l6 j⟩
/-- what holds between the law's turns -/
def Tn (h : Hp) (M : Mo) (ni nd nj T : Nat) : Prop := Lw h M ∧ Rb h M ni nd nj ∧ Inv M ni nd nj T ∧ Xn M ni nd nj
section P39
variable {G : Gl} {h : Hp}
theorem l_passes (M : Mo) (ni nd nj T n : Nat) (hT : Tn h M ni nd nj T) (hn : 1 ≤ n ∧ n ≤ 100) (hTn : T + n ≤ 1500) : Ct G mL_passes [ga G 0, ga G 449, ga G 450, ga G 451, ga G 452, ga G 453, ga G 454, ga G 455, .int (nI n)] h 456 456 (rI (fun r h' => r = 1 ∧ ∃ M', Tn h' M' ni nd nj (T + n))) := by
  obtain ⟨hL, hR, hI, hX⟩ := hT
  obtain ⟨⟨hi, hd, hj⟩, -⟩ := id hI.1
  refine Ct.of rfl (by simp [Value.category, ga]) (Nat.le_of_ble_eq_true rfl) (Nat.le_refl _) ?_
  show Go _ _ _ _ _ _ _ [some (ga G 0), some (ga G 449), some (ga G 450), some (ga G 451), some (ga G 452), some (ga G 453), some (ga G 454), some (ga G 455), some (.int (nI n)), none, none] []
  have loop : ∀ m i h1, m + i = n → Lw h1 (mTicks ni nd nj i M).1 → KR h h1 → Go G mL_passes 456 (rI (fun r h' => r = 1 ∧ ∃ M', Tn h' M' ni nd nj (T + n))) h1 456 6 [some (ga G 0), some (ga G 449), some (ga G 450), some (ga G 451), some (ga G 452), some (ga G 453), some (ga G 454), some (ga G 455), some (.int (nI n)), some (.int (mTicks ni nd nj i M).2), some (.int (nI i))] [] := by
    intro m
    induction m with
    | zero =>
      intro i h1 hin L1 K1
      obtain rfl : i = n := by omega
      have R1 := hR.kr hi hd hj K1
      refine g_ild10 dL_passes_6 ?_
      refine g_ild8 dL_passes_8 ?_
      refine g_icmp_ge_t (tgt := 38) dL_passes_10 (by decide) (nI_le (by omega) (by omega)) ?_
      refine g_ald0 dL_passes_38 ?_
      refine g_ild8 dL_passes_39 ?_
      show Go _ _ _ _ _ _ 41 _ _
      refine g_callV1 (c_tick (h := h1) M ni nd nj T i R1 hI hn hTn) mw_4_17 ok_X9_tick ⟨by decide, by decide⟩ (by first | assumption | exact lay_item (by omega) | exact lay_drive (by omega) | exact lay_job (by omega) | rfl) (by omega) rfl (by omega) (by omega) (Nat.le_of_ble_eq_true rfl) dL_passes_41 (rI_K ?_)
      rintro r h2 ⟨rfl, R2, K2⟩
      refine g_ild9 dL_passes_44 ?_
      refine g_icmp_ne_f (tgt := 63) dL_passes_46 (by decide) rfl ?_
      refine g_ald0 dL_passes_49 ?_
      refine g_iconst (v := nI 0) dL_passes_50 (by decide +kernel) ?_
      refine g_callV1 (c_tick_no (h := h2) 0 (by decide)) mw_4_17 ok_X9_tick ⟨by decide, by decide⟩ (by first | assumption | exact lay_item (by omega) | exact lay_drive (by omega) | exact lay_job (by omega) | rfl) (by omega) rfl (by omega) (by omega) (Nat.le_of_ble_eq_true rfl) dL_passes_51 (dI_K ?_)
      show Go _ _ _ _ _ _ 54 _ _
      refine g_bipush (v := -2) dL_passes_54 (by decide +kernel) ?_
      refine g_icmp_ne_f (tgt := 63) dL_passes_56 (by decide) rfl ?_
      refine g_iconst (v := nI 1) dL_passes_59 (by decide +kernel) ?_
      refine g_goto (tgt := 64) dL_passes_60 (by decide) ?_
      exact g_zret rfl rfl dL_passes_64 ⟨1, rfl, rfl, _, L1.kl K2, R2, inv_ticks hI i hTn, xn_ticks hI hX i hTn⟩
    | succ m ih =>
      intro i h1 hin L1 K1
      refine g_ild10 dL_passes_6 ?_
      refine g_ild8 dL_passes_8 ?_
      refine g_icmp_ge_f (tgt := 38) dL_passes_10 (by decide) (nI_ge (by omega) (by omega)) ?_
      refine g_ild9 dL_passes_13 ?_
      refine g_ald1 dL_passes_15 ?_
      show Go _ _ _ _ _ _ 16 _ _
      refine g_ald2 dL_passes_16 ?_
      refine g_ald3 dL_passes_17 ?_
      refine g_ald4 dL_passes_18 ?_
      refine g_ald5 dL_passes_20 ?_
      refine g_ald6 dL_passes_22 ?_
      refine g_ald7 dL_passes_24 ?_
      show Go _ _ _ _ _ _ 26 _ _
      refine g_callS7 (l_ticks (h := h1) _ ni nd nj (T + i) L1 (inv_ticks hI i (by omega)) (xt_ticks hI hX.1 i (by omega)) (by omega)) mw_3_237 ok_L_ticks ⟨by decide, by decide⟩ (by omega) (by omega) (Nat.le_of_ble_eq_true rfl) dL_passes_26 (rI_K ?_)
      rintro r h2 ⟨rfl, L2, K2⟩
      refine g_iadd_v dL_passes_29 (v := (mTicks ni nd nj (i + 1) M).2) rfl ?_
      refine g_ist9 (by decide) dL_passes_30 ?_
      refine g_iinc10 (by decide) dL_passes_32 (nI_1 i) ?_
      refine g_goto (tgt := 6) dL_passes_35 (by decide) ?_
      exact ih (i + 1) h2 (by omega) L2 (K1.tr K2)
  refine g_iconst (v := nI 0) dL_passes_0 (by decide +kernel) ?_
  refine g_ist9 (by decide) dL_passes_1 ?_
  refine g_iconst (v := nI 0) dL_passes_3 (by decide +kernel) ?_
  refine g_ist10 (by decide) dL_passes_4 ?_
  exact loop n 0 h (by omega) hL (KR.rf h)
end P39
