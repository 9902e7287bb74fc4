/-! ===== tick(count) ===== -/
section P31
variable {G : Gl} {h : Hp}
theorem c_tick_no (x : Int32) (hx : ¬ (1 ≤ x ∧ x ≤ 100)) : Ct G mX9_tick [ga G 0, .int x] h 456 456 (dI (-2) h) := by
  refine Ct.of rfl (by simp [Value.category, ga]) (Nat.le_of_ble_eq_true rfl) (Nat.le_refl _) ?_
  show Go _ _ _ _ _ _ _ [some (ga G 0), some (.int x), none, none] []
  refine g_ild1 dX9_tick_0 ?_
  refine g_iconst (v := nI 1) dX9_tick_1 (by decide +kernel) ?_
  refine g_bipush (v := nI 100) dX9_tick_2 (by decide +kernel) ?_
  refine g_callS3 (c_isFrom (h := h) x 1 100) mw_2_133 ok_X9_isFrom ⟨by decide, by decide⟩ (by omega) (by omega) (Nat.le_of_ble_eq_true rfl) dX9_tick_4 (dI_K ?_)
  rw [if_neg hx]
  refine g_if_ne_f (tgt := 13) dX9_tick_7 (by decide) (by decide) ?_
  show Go _ _ _ _ _ _ 10 _ _
  refine g_bipush (v := -2) dX9_tick_10 (by decide +kernel) ?_
  exact g_iret rfl dX9_tick_12 ⟨rfl, rfl⟩
theorem c_tick (M : Mo) (ni nd nj T n : Nat) (hR : Rb h M ni nd nj) (hI : Inv M ni nd nj T) (hn : 1 ≤ n ∧ n ≤ 100) (hT : T + n ≤ 1500) : Ct G mX9_tick [ga G 0, .int (nI n)] h 456 456 (rI (fun r h' => r = (mTicks ni nd nj n M).2 ∧ Rb h' (mTicks ni nd nj n M).1 ni nd nj ∧ KL h h')) := by
  obtain ⟨⟨hi, hd, hj⟩, -⟩ := id hI.1
  obtain ⟨⟨s5, s6, s7, s8, s9, s10, s11, s3, s4⟩, -, -, -, -, -, hH, hS⟩ := id hR
  refine Ct.of rfl (by simp [Value.category, ga]) (Nat.le_of_ble_eq_true rfl) (Nat.le_refl _) ?_
  show Go _ _ _ _ _ _ _ [some (ga G 0), some (.int (nI n)), none, none] []
  have loop : ∀ m i h1, m + i = n → Rb h1 (mTicks ni nd nj i M).1 ni nd nj → KL h h1 → Go G mX9_tick 456 (rI (fun r h' => r = (mTicks ni nd nj n M).2 ∧ Rb h' (mTicks ni nd nj n M).1 ni nd nj ∧ KL h h')) h1 456 46 [some (ga G 0), some (.int (nI n)), some (.int (mTicks ni nd nj i M).2), some (.int (nI i))] [] := by
    intro m
    induction m with
    | zero =>
      intro i h1 hin R1 K1
      obtain rfl : i = n := by omega
      refine g_ild3 dX9_tick_46 ?_
      refine g_ild1 dX9_tick_47 ?_
      refine g_icmp_ge_t (tgt := 67) dX9_tick_48 (by decide) (nI_le (by omega) (by omega)) ?_
      refine g_ild2 dX9_tick_67 ?_
      exact g_iret rfl dX9_tick_68 ⟨_, rfl, rfl, R1, K1⟩
    | succ m ih =>
      intro i h1 hin R1 K1
      obtain ⟨-, -, -, -, -, -, -, hS⟩ := id R1
      refine g_ild3 dX9_tick_46 ?_
      refine g_ild1 dX9_tick_47 ?_
      refine g_icmp_ge_f (tgt := 67) dX9_tick_48 (by decide) (nI_ge (by omega) (by omega)) ?_
      refine g_ild2 dX9_tick_51 ?_
      refine g_ald0 dX9_tick_52 ?_
      show Go _ _ _ _ _ _ 53 _ _
      refine g_getQ fb_9_0 mw_2_95 (by first | assumption | exact lay_item (by omega) | exact lay_drive (by omega) | exact lay_job (by omega) | rfl) (by omega) (sh_now hS) dX9_tick_53 ?_
      refine g_callV0 (c_passOneTick (h := h1) _ ni nd nj (T + i) R1 (inv_ticks hI i (by omega)) (by omega)) mw_4_21 ok_X6_passOneTick ⟨by decide, by decide⟩ (by first | assumption | exact lay_item (by omega) | exact lay_drive (by omega) | exact lay_job (by omega) | rfl) (by omega) rfl (by omega) (by omega) (Nat.le_of_ble_eq_true rfl) dX9_tick_56 (rI_K ?_)
      rintro r h2 ⟨rfl, R2, K2⟩
      refine g_iadd_v dX9_tick_59 (v := (mTicks ni nd nj (i + 1) M).2) rfl ?_
      refine g_ist2 (by decide) dX9_tick_60 ?_
      refine g_iinc3 (by decide) dX9_tick_61 (nI_1 i) ?_
      refine g_goto (tgt := 46) dX9_tick_64 (by decide) ?_
      exact ih (i + 1) h2 (by omega) R2 (K1.tr K2)
  refine g_ild1 dX9_tick_0 ?_
  refine g_iconst (v := nI 1) dX9_tick_1 (by decide +kernel) ?_
  refine g_bipush (v := nI 100) dX9_tick_2 (by decide +kernel) ?_
  refine g_callS3 (c_isFrom (h := h) (nI n) 1 100) mw_2_133 ok_X9_isFrom ⟨by decide, by decide⟩ (by omega) (by omega) (Nat.le_of_ble_eq_true rfl) dX9_tick_4 (dI_K ?_)
  rw [if_pos ⟨nI_le (a := 1) (by omega) (by omega), nI_le (b := 100) (by omega) (by omega)⟩]
  refine g_if_ne_t (tgt := 13) dX9_tick_7 (by decide) (by decide) ?_
  show Go _ _ _ _ _ _ 13 _ _
  refine g_ald0 dX9_tick_13 ?_
  refine g_getQ fb_9_0 mw_2_95 (by first | assumption | exact lay_item (by omega) | exact lay_drive (by omega) | exact lay_job (by omega) | rfl) (by omega) (sh_now hS) dX9_tick_14 ?_
  refine g_getI_a fb_6_5 mw_2_10 (by first | assumption | exact lay_item (by omega) | exact lay_drive (by omega) | exact lay_job (by omega) | rfl) (by omega) dX9_tick_17 (fun xx17 ee17 => ?_)
  obtain rfl : xx17 = (nI T) := ee17.symm.trans (s5.trans hI.2.2.2.2.2.1)
  refine g_ild1 dX9_tick_20 ?_
  refine g_iadd_v dX9_tick_21 (nI_add T n) ?_
  refine g_sipush (v := nI 10000) dX9_tick_22 (by decide +kernel) ?_
  show Go _ _ _ _ _ _ 25 _ _
  refine g_icmp_le_t (tgt := 31) dX9_tick_25 (by decide) (nI_le (b := 10000) (by omega) (by omega)) ?_
  refine g_ald0 dX9_tick_31 ?_
  refine g_getQ fb_9_1 mw_2_96 (by first | assumption | exact lay_item (by omega) | exact lay_drive (by omega) | exact lay_job (by omega) | rfl) (by omega) (sh_hist hS) dX9_tick_32 ?_
  refine g_ald0 dX9_tick_35 ?_
  refine g_getQ fb_9_0 mw_2_95 (by first | assumption | exact lay_item (by omega) | exact lay_drive (by omega) | exact lay_job (by omega) | rfl) (by omega) (sh_now hS) dX9_tick_36 ?_
  refine g_callV1 (c_record (h := h) hS (hR.cn hi hd hj hI.1.2.2.2.1) hH) mw_3_79 ok_X1_record ⟨by decide, by decide⟩ (by first | assumption | exact lay_item (by omega) | exact lay_drive (by omega) | exact lay_job (by omega) | rfl) (by omega) rfl (by omega) (by omega) (Nat.le_of_ble_eq_true rfl) dX9_tick_39 (rV_K ?_)
  intro h1 k1
  show Go _ _ _ _ _ _ 42 _ _
  refine g_iconst (v := nI 0) dX9_tick_42 (by decide +kernel) ?_
  refine g_ist2 (by decide) dX9_tick_43 ?_
  refine g_iconst (v := nI 0) dX9_tick_44 (by decide +kernel) ?_
  refine g_ist3 (by decide) dX9_tick_45 ?_
  exact loop n 0 h1 (by omega) (hR.kp hi hd hj k1) (KL.kp k1)
end P31
