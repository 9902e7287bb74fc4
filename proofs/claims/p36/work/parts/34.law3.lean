/-! ===== THE LAW'S JOB TO BEGIN ===== -/
def Ug (M : Mo) (j : Nat) : Prop := M.1 3 (6 * j) = 1 ∧ dst M (M.1 3 (6 * j + 1)).toNatClampNeg
theorem grp_u {M : Mo} {j : Nat} (h : Ug M j) : grp M j = 0 := if_pos h
theorem grp_n {M : Mo} {j : Nat} (h : ¬ Ug M j) : grp M j = 1 + rk M (M.1 3 (6 * j)) := if_neg h
theorem rk_l (M : Mo) (x : Int32) : rk M x ≤ 2 := by unfold rk; split; omega; split <;> omega
theorem rk_d : ∀ x y : Fin 3, (nI x.1 - nI y.1 < 0 ↔ x.1 < y.1) ∧ (nI x.1 - nI y.1 = 0 ↔ x.1 = y.1) := by decide
theorem rk_s {x y : Nat} (hx : x ≤ 2) (hy : y ≤ 2) : (nI x - nI y < 0 ↔ x < y) ∧ (nI x - nI y = 0 ↔ x = y) := rk_d ⟨x, by omega⟩ ⟨y, by omega⟩
section P34
variable {G : Gl} {h : Hp}
theorem l_canBegin (M : Mo) (ni nd nj j : Nat) (hL : Lw h M) (hz : Iz M ni nd nj) (hI : IS M ni nd nj) (hj : j < nj) : Ct G mL_canBegin [ga G 449, ga G 450, ga G 452, ga G 453, ga G 454, .int (nI j)] h 456 456 (rB (M.1 4 (6 * j + 3) ≤ M.1 0 0 ∧ CB M ni nd j) h) := by
  obtain ⟨⟨hi, hd, hj10⟩, hp, hH, hC, hf, hu, hJb, hsl⟩ := id hI
  refine Ct.of rfl (by simp [Value.category, ga]) (Nat.le_of_ble_eq_true rfl) (Nat.le_refl _) ?_
  show Go _ _ _ _ _ _ _ [some (ga G 449), some (ga G 450), some (ga G 452), some (ga G 453), some (ga G 454), some (.int (nI j)), none] []
  rcases hJb j hj with ⟨hk, i, hi9, ht⟩ | ⟨hk, k, hk4, ht⟩ | ⟨hk, ⟨i, hi9, ht⟩, s, hs, hsl⟩
  · skip
    refine g_ald4 dL_canBegin_0 ?_
    refine g_bipush (v := nI 6) dL_canBegin_2 (by decide +kernel) ?_
    refine g_ild5 dL_canBegin_4 ?_
    first | refine g_imul_n dL_canBegin_6 ?_ | refine g_imul dL_canBegin_6 ?_
    refine g_iconst (v := nI 3) dL_canBegin_7 (by decide +kernel) ?_
    show Go _ _ _ _ _ _ 8 _ _
    first | refine g_iadd_n dL_canBegin_8 ?_ | refine g_iadd dL_canBegin_8 ?_
    first | refine g_ildr Rw.g rfl (by omega) rfl (by omega) dL_canBegin_9 hL rfl ?_ | refine g_ildr Rw.t rfl (by omega) rfl (by omega) dL_canBegin_9 hL rfl ?_ | refine g_ildr Rw.d rfl (by omega) rfl (by omega) dL_canBegin_9 hL rfl ?_ | refine g_ildr Rw.a rfl (by omega) rfl (by omega) dL_canBegin_9 hL rfl ?_ | refine g_ildr Rw.b rfl (by omega) rfl (by omega) dL_canBegin_9 hL rfl ?_ | refine g_ildr Rw.c rfl (by omega) rfl (by omega) dL_canBegin_9 hL rfl ?_
    refine g_ald0 dL_canBegin_10 ?_
    refine g_iconst (v := nI 0) dL_canBegin_11 (by decide +kernel) ?_
    first | refine g_ildr Rw.g rfl (by omega) rfl (by omega) dL_canBegin_12 hL rfl ?_ | refine g_ildr Rw.t rfl (by omega) rfl (by omega) dL_canBegin_12 hL rfl ?_ | refine g_ildr Rw.d rfl (by omega) rfl (by omega) dL_canBegin_12 hL rfl ?_ | refine g_ildr Rw.a rfl (by omega) rfl (by omega) dL_canBegin_12 hL rfl ?_ | refine g_ildr Rw.b rfl (by omega) rfl (by omega) dL_canBegin_12 hL rfl ?_ | refine g_ildr Rw.c rfl (by omega) rfl (by omega) dL_canBegin_12 hL rfl ?_
    refine g_icmp_le (tgt := 18) dL_canBegin_13 (by decide) (fun c_13 => ?_) (fun c_13 => ?_)
    · skip
      show Go _ _ _ _ _ _ 18 _ _
      refine g_ald3 dL_canBegin_18 ?_
      refine g_bipush (v := nI 6) dL_canBegin_19 (by decide +kernel) ?_
      refine g_ild5 dL_canBegin_21 ?_
      first | refine g_imul_n dL_canBegin_23 ?_ | refine g_imul dL_canBegin_23 ?_
      first | refine g_ildr Rw.g rfl (by omega) rfl (by omega) dL_canBegin_24 hL (v := (0 : Int32)) hk ?_ | refine g_ildr Rw.t rfl (by omega) rfl (by omega) dL_canBegin_24 hL (v := (0 : Int32)) hk ?_ | refine g_ildr Rw.d rfl (by omega) rfl (by omega) dL_canBegin_24 hL (v := (0 : Int32)) hk ?_ | refine g_ildr Rw.a rfl (by omega) rfl (by omega) dL_canBegin_24 hL (v := (0 : Int32)) hk ?_ | refine g_ildr Rw.b rfl (by omega) rfl (by omega) dL_canBegin_24 hL (v := (0 : Int32)) hk ?_ | refine g_ildr Rw.c rfl (by omega) rfl (by omega) dL_canBegin_24 hL (v := (0 : Int32)) hk ?_
      refine g_iconst (v := nI 2) dL_canBegin_25 (by decide +kernel) ?_
      show Go _ _ _ _ _ _ 26 _ _
      refine g_icmp_ne_t (tgt := 46) dL_canBegin_26 (by decide) (by decide) ?_
      refine g_bipush (v := -5) dL_canBegin_46 (by decide +kernel) ?_
      refine g_ist6 (by decide) dL_canBegin_48 ?_
      refine g_ald3 dL_canBegin_50 ?_
      refine g_bipush (v := nI 6) dL_canBegin_51 (by decide +kernel) ?_
      refine g_ild5 dL_canBegin_53 ?_
      show Go _ _ _ _ _ _ 55 _ _
      first | refine g_imul_n dL_canBegin_55 ?_ | refine g_imul dL_canBegin_55 ?_
      first | refine g_ildr Rw.g rfl (by omega) rfl (by omega) dL_canBegin_56 hL (v := (0 : Int32)) hk ?_ | refine g_ildr Rw.t rfl (by omega) rfl (by omega) dL_canBegin_56 hL (v := (0 : Int32)) hk ?_ | refine g_ildr Rw.d rfl (by omega) rfl (by omega) dL_canBegin_56 hL (v := (0 : Int32)) hk ?_ | refine g_ildr Rw.a rfl (by omega) rfl (by omega) dL_canBegin_56 hL (v := (0 : Int32)) hk ?_ | refine g_ildr Rw.b rfl (by omega) rfl (by omega) dL_canBegin_56 hL (v := (0 : Int32)) hk ?_ | refine g_ildr Rw.c rfl (by omega) rfl (by omega) dL_canBegin_56 hL (v := (0 : Int32)) hk ?_
      refine g_if_ne_f (tgt := 76) dL_canBegin_57 (by decide) rfl ?_
      refine g_ald0 dL_canBegin_60 ?_
      refine g_ald2 dL_canBegin_61 ?_
      refine g_callS2 (l_drive (h := h) M ni nd nj hL hz hf) mw_3_47 ok_L_drive ⟨by decide, by decide⟩ (by omega) (by omega) (Nat.le_of_ble_eq_true rfl) dL_canBegin_62 (rI_K ?_)
      rintro r h ⟨rfl, hM⟩
      show Go _ _ _ _ _ _ 65 _ _
      refine g_if_lt (tgt := 72) dL_canBegin_65 (by decide) (fun c_65 => ?_) (fun c_65 => ?_)
      · skip
        have hl : r = -5 := hM.elim (fun z => z.1) (fun ⟨k, q1, q2, _⟩ => by rw [q2] at c_65; exact absurd c_65 (Int32.not_lt.mpr (nI_pos' (by omega))))
        refine g_iconst (v := nI 0) dL_canBegin_72 (by decide +kernel) ?_
        refine g_goto (tgt := 127) dL_canBegin_73 (by decide) ?_
        exact g_zret rfl rfl dL_canBegin_127 ⟨Or.inr ⟨rfl, fun z => by obtain ⟨k, q1, q2⟩ := z.2.1 hk; rcases hM with ⟨-, q⟩ | ⟨k', q3, q4, -⟩; exact q k q1 q2; exact absurd (q4.symm.trans hl) (nI_n5 (by omega))⟩, rfl⟩
      · skip
        have hl : r ≠ -5 := fun z => c_65 (by rw [z]; decide)
        refine g_iconst (v := nI 1) dL_canBegin_68 (by decide +kernel) ?_
        refine g_goto (tgt := 127) dL_canBegin_69 (by decide) ?_
        show Go _ _ _ _ _ _ 127 _ _
        exact g_zret rfl rfl dL_canBegin_127 ⟨Or.inl ⟨rfl, c_13, fun _ => by rcases hM with ⟨q, -⟩ | ⟨k, q1, -, q2, -⟩; exact absurd q hl; exact ⟨k, q1, q2⟩, fun z => absurd (hk.symm.trans z) (by decide), fun z => absurd (hk.symm.trans z) (by decide)⟩, rfl⟩
    · skip
      refine g_iconst (v := nI 0) dL_canBegin_16 (by decide +kernel) ?_
      exact g_zret rfl rfl dL_canBegin_17 ⟨Or.inr ⟨rfl, fun z => c_13 z.1⟩, rfl⟩
  · skip
    refine g_ald4 dL_canBegin_0 ?_
    refine g_bipush (v := nI 6) dL_canBegin_2 (by decide +kernel) ?_
    refine g_ild5 dL_canBegin_4 ?_
    first | refine g_imul_n dL_canBegin_6 ?_ | refine g_imul dL_canBegin_6 ?_
    refine g_iconst (v := nI 3) dL_canBegin_7 (by decide +kernel) ?_
    show Go _ _ _ _ _ _ 8 _ _
    first | refine g_iadd_n dL_canBegin_8 ?_ | refine g_iadd dL_canBegin_8 ?_
    first | refine g_ildr Rw.g rfl (by omega) rfl (by omega) dL_canBegin_9 hL rfl ?_ | refine g_ildr Rw.t rfl (by omega) rfl (by omega) dL_canBegin_9 hL rfl ?_ | refine g_ildr Rw.d rfl (by omega) rfl (by omega) dL_canBegin_9 hL rfl ?_ | refine g_ildr Rw.a rfl (by omega) rfl (by omega) dL_canBegin_9 hL rfl ?_ | refine g_ildr Rw.b rfl (by omega) rfl (by omega) dL_canBegin_9 hL rfl ?_ | refine g_ildr Rw.c rfl (by omega) rfl (by omega) dL_canBegin_9 hL rfl ?_
    refine g_ald0 dL_canBegin_10 ?_
    refine g_iconst (v := nI 0) dL_canBegin_11 (by decide +kernel) ?_
    first | refine g_ildr Rw.g rfl (by omega) rfl (by omega) dL_canBegin_12 hL rfl ?_ | refine g_ildr Rw.t rfl (by omega) rfl (by omega) dL_canBegin_12 hL rfl ?_ | refine g_ildr Rw.d rfl (by omega) rfl (by omega) dL_canBegin_12 hL rfl ?_ | refine g_ildr Rw.a rfl (by omega) rfl (by omega) dL_canBegin_12 hL rfl ?_ | refine g_ildr Rw.b rfl (by omega) rfl (by omega) dL_canBegin_12 hL rfl ?_ | refine g_ildr Rw.c rfl (by omega) rfl (by omega) dL_canBegin_12 hL rfl ?_
    refine g_icmp_le (tgt := 18) dL_canBegin_13 (by decide) (fun c_13 => ?_) (fun c_13 => ?_)
    · skip
      show Go _ _ _ _ _ _ 18 _ _
      refine g_ald3 dL_canBegin_18 ?_
      refine g_bipush (v := nI 6) dL_canBegin_19 (by decide +kernel) ?_
      refine g_ild5 dL_canBegin_21 ?_
      first | refine g_imul_n dL_canBegin_23 ?_ | refine g_imul dL_canBegin_23 ?_
      first | refine g_ildr Rw.g rfl (by omega) rfl (by omega) dL_canBegin_24 hL (v := (1 : Int32)) hk ?_ | refine g_ildr Rw.t rfl (by omega) rfl (by omega) dL_canBegin_24 hL (v := (1 : Int32)) hk ?_ | refine g_ildr Rw.d rfl (by omega) rfl (by omega) dL_canBegin_24 hL (v := (1 : Int32)) hk ?_ | refine g_ildr Rw.a rfl (by omega) rfl (by omega) dL_canBegin_24 hL (v := (1 : Int32)) hk ?_ | refine g_ildr Rw.b rfl (by omega) rfl (by omega) dL_canBegin_24 hL (v := (1 : Int32)) hk ?_ | refine g_ildr Rw.c rfl (by omega) rfl (by omega) dL_canBegin_24 hL (v := (1 : Int32)) hk ?_
      refine g_iconst (v := nI 2) dL_canBegin_25 (by decide +kernel) ?_
      show Go _ _ _ _ _ _ 26 _ _
      refine g_icmp_ne_t (tgt := 46) dL_canBegin_26 (by decide) (by decide) ?_
      refine g_bipush (v := -5) dL_canBegin_46 (by decide +kernel) ?_
      refine g_ist6 (by decide) dL_canBegin_48 ?_
      refine g_ald3 dL_canBegin_50 ?_
      refine g_bipush (v := nI 6) dL_canBegin_51 (by decide +kernel) ?_
      refine g_ild5 dL_canBegin_53 ?_
      show Go _ _ _ _ _ _ 55 _ _
      first | refine g_imul_n dL_canBegin_55 ?_ | refine g_imul dL_canBegin_55 ?_
      first | refine g_ildr Rw.g rfl (by omega) rfl (by omega) dL_canBegin_56 hL (v := (1 : Int32)) hk ?_ | refine g_ildr Rw.t rfl (by omega) rfl (by omega) dL_canBegin_56 hL (v := (1 : Int32)) hk ?_ | refine g_ildr Rw.d rfl (by omega) rfl (by omega) dL_canBegin_56 hL (v := (1 : Int32)) hk ?_ | refine g_ildr Rw.a rfl (by omega) rfl (by omega) dL_canBegin_56 hL (v := (1 : Int32)) hk ?_ | refine g_ildr Rw.b rfl (by omega) rfl (by omega) dL_canBegin_56 hL (v := (1 : Int32)) hk ?_ | refine g_ildr Rw.c rfl (by omega) rfl (by omega) dL_canBegin_56 hL (v := (1 : Int32)) hk ?_
      refine g_if_ne_t (tgt := 76) dL_canBegin_57 (by decide) (by decide) ?_
      refine g_ald3 dL_canBegin_76 ?_
      refine g_bipush (v := nI 6) dL_canBegin_77 (by decide +kernel) ?_
      refine g_ild5 dL_canBegin_79 ?_
      show Go _ _ _ _ _ _ 81 _ _
      first | refine g_imul_n dL_canBegin_81 ?_ | refine g_imul dL_canBegin_81 ?_
      first | refine g_ildr Rw.g rfl (by omega) rfl (by omega) dL_canBegin_82 hL (v := (1 : Int32)) hk ?_ | refine g_ildr Rw.t rfl (by omega) rfl (by omega) dL_canBegin_82 hL (v := (1 : Int32)) hk ?_ | refine g_ildr Rw.d rfl (by omega) rfl (by omega) dL_canBegin_82 hL (v := (1 : Int32)) hk ?_ | refine g_ildr Rw.a rfl (by omega) rfl (by omega) dL_canBegin_82 hL (v := (1 : Int32)) hk ?_ | refine g_ildr Rw.b rfl (by omega) rfl (by omega) dL_canBegin_82 hL (v := (1 : Int32)) hk ?_ | refine g_ildr Rw.c rfl (by omega) rfl (by omega) dL_canBegin_82 hL (v := (1 : Int32)) hk ?_
      refine g_iconst (v := nI 1) dL_canBegin_83 (by decide +kernel) ?_
      refine g_icmp_ne_f (tgt := 103) dL_canBegin_84 (by decide) (by decide) ?_
      refine g_ald0 dL_canBegin_87 ?_
      refine g_ald1 dL_canBegin_88 ?_
      show Go _ _ _ _ _ _ 89 _ _
      refine g_callS2 (l_cleaner (h := h) M ni nd nj hL hz hH hp) mw_3_50 ok_L_cleaner ⟨by decide, by decide⟩ (by omega) (by omega) (Nat.le_of_ble_eq_true rfl) dL_canBegin_89 (rI_K ?_)
      rintro r h ⟨rfl, hM⟩
      refine g_if_lt (tgt := 99) dL_canBegin_92 (by decide) (fun c_92 => ?_) (fun c_92 => ?_)
      · skip
        have hl : r = -5 := hM.elim (fun z => z.1) (fun ⟨k, q1, q2, _⟩ => by rw [q2] at c_92; exact absurd c_92 (Int32.not_lt.mpr (nI_pos' (by omega))))
        refine g_iconst (v := nI 0) dL_canBegin_99 (by decide +kernel) ?_
        refine g_goto (tgt := 127) dL_canBegin_100 (by decide) ?_
        exact g_zret rfl rfl dL_canBegin_127 ⟨Or.inr ⟨rfl, fun z => by obtain ⟨k, q1, q2⟩ := z.2.2.1 hk; rcases hM with ⟨-, q⟩ | ⟨k', q3, q4, -⟩; exact q k q1 q2; exact absurd (q4.symm.trans hl) (nI_n5 (by omega))⟩, rfl⟩
      · skip
        have hl : r ≠ -5 := fun z => c_92 (by rw [z]; decide)
        refine g_iconst (v := nI 1) dL_canBegin_95 (by decide +kernel) ?_
        show Go _ _ _ _ _ _ 96 _ _
        refine g_goto (tgt := 127) dL_canBegin_96 (by decide) ?_
        exact g_zret rfl rfl dL_canBegin_127 ⟨Or.inl ⟨rfl, c_13, fun z => absurd (hk.symm.trans z) (by decide), fun _ => by rcases hM with ⟨q, -⟩ | ⟨k, q1, -, q2, -⟩; exact absurd q hl; exact ⟨k, q1, q2⟩, fun z => absurd (hk.symm.trans z) (by decide)⟩, rfl⟩
    · skip
      refine g_iconst (v := nI 0) dL_canBegin_16 (by decide +kernel) ?_
      exact g_zret rfl rfl dL_canBegin_17 ⟨Or.inr ⟨rfl, fun z => c_13 z.1⟩, rfl⟩
  · skip
    refine g_ald4 dL_canBegin_0 ?_
    refine g_bipush (v := nI 6) dL_canBegin_2 (by decide +kernel) ?_
    refine g_ild5 dL_canBegin_4 ?_
    first | refine g_imul_n dL_canBegin_6 ?_ | refine g_imul dL_canBegin_6 ?_
    refine g_iconst (v := nI 3) dL_canBegin_7 (by decide +kernel) ?_
    show Go _ _ _ _ _ _ 8 _ _
    first | refine g_iadd_n dL_canBegin_8 ?_ | refine g_iadd dL_canBegin_8 ?_
    first | refine g_ildr Rw.g rfl (by omega) rfl (by omega) dL_canBegin_9 hL rfl ?_ | refine g_ildr Rw.t rfl (by omega) rfl (by omega) dL_canBegin_9 hL rfl ?_ | refine g_ildr Rw.d rfl (by omega) rfl (by omega) dL_canBegin_9 hL rfl ?_ | refine g_ildr Rw.a rfl (by omega) rfl (by omega) dL_canBegin_9 hL rfl ?_ | refine g_ildr Rw.b rfl (by omega) rfl (by omega) dL_canBegin_9 hL rfl ?_ | refine g_ildr Rw.c rfl (by omega) rfl (by omega) dL_canBegin_9 hL rfl ?_
    refine g_ald0 dL_canBegin_10 ?_
    refine g_iconst (v := nI 0) dL_canBegin_11 (by decide +kernel) ?_
    first | refine g_ildr Rw.g rfl (by omega) rfl (by omega) dL_canBegin_12 hL rfl ?_ | refine g_ildr Rw.t rfl (by omega) rfl (by omega) dL_canBegin_12 hL rfl ?_ | refine g_ildr Rw.d rfl (by omega) rfl (by omega) dL_canBegin_12 hL rfl ?_ | refine g_ildr Rw.a rfl (by omega) rfl (by omega) dL_canBegin_12 hL rfl ?_ | refine g_ildr Rw.b rfl (by omega) rfl (by omega) dL_canBegin_12 hL rfl ?_ | refine g_ildr Rw.c rfl (by omega) rfl (by omega) dL_canBegin_12 hL rfl ?_
    refine g_icmp_le (tgt := 18) dL_canBegin_13 (by decide) (fun c_13 => ?_) (fun c_13 => ?_)
    · skip
      show Go _ _ _ _ _ _ 18 _ _
      refine g_ald3 dL_canBegin_18 ?_
      refine g_bipush (v := nI 6) dL_canBegin_19 (by decide +kernel) ?_
      refine g_ild5 dL_canBegin_21 ?_
      first | refine g_imul_n dL_canBegin_23 ?_ | refine g_imul dL_canBegin_23 ?_
      first | refine g_ildr Rw.g rfl (by omega) rfl (by omega) dL_canBegin_24 hL (v := (2 : Int32)) hk ?_ | refine g_ildr Rw.t rfl (by omega) rfl (by omega) dL_canBegin_24 hL (v := (2 : Int32)) hk ?_ | refine g_ildr Rw.d rfl (by omega) rfl (by omega) dL_canBegin_24 hL (v := (2 : Int32)) hk ?_ | refine g_ildr Rw.a rfl (by omega) rfl (by omega) dL_canBegin_24 hL (v := (2 : Int32)) hk ?_ | refine g_ildr Rw.b rfl (by omega) rfl (by omega) dL_canBegin_24 hL (v := (2 : Int32)) hk ?_ | refine g_ildr Rw.c rfl (by omega) rfl (by omega) dL_canBegin_24 hL (v := (2 : Int32)) hk ?_
      refine g_iconst (v := nI 2) dL_canBegin_25 (by decide +kernel) ?_
      show Go _ _ _ _ _ _ 26 _ _
      refine g_icmp_ne_f (tgt := 46) dL_canBegin_26 (by decide) (by decide) ?_
      refine g_ald0 dL_canBegin_29 ?_
      refine g_ald1 dL_canBegin_30 ?_
      refine g_ald3 dL_canBegin_31 ?_
      refine g_bipush (v := nI 6) dL_canBegin_32 (by decide +kernel) ?_
      refine g_ild5 dL_canBegin_34 ?_
      show Go _ _ _ _ _ _ 36 _ _
      first | refine g_imul_n dL_canBegin_36 ?_ | refine g_imul dL_canBegin_36 ?_
      refine g_iconst (v := nI 2) dL_canBegin_37 (by decide +kernel) ?_
      first | refine g_iadd_n dL_canBegin_38 ?_ | refine g_iadd dL_canBegin_38 ?_
      first | refine g_ildr Rw.g rfl (by omega) rfl (by omega) dL_canBegin_39 hL rfl ?_ | refine g_ildr Rw.t rfl (by omega) rfl (by omega) dL_canBegin_39 hL rfl ?_ | refine g_ildr Rw.d rfl (by omega) rfl (by omega) dL_canBegin_39 hL rfl ?_ | refine g_ildr Rw.a rfl (by omega) rfl (by omega) dL_canBegin_39 hL rfl ?_ | refine g_ildr Rw.b rfl (by omega) rfl (by omega) dL_canBegin_39 hL rfl ?_ | refine g_ildr Rw.c rfl (by omega) rfl (by omega) dL_canBegin_39 hL rfl ?_
      refine g_callS3 (l_atHome (h := h) M _ ni nd nj hL hz) mw_3_44 ok_L_atHome ⟨by decide, by decide⟩ (by omega) (by omega) (Nat.le_of_ble_eq_true rfl) dL_canBegin_40 (rI_K ?_)
      rintro r h ⟨rfl, hM⟩
      refine g_goto (tgt := 48) dL_canBegin_43 (by decide) ?_
      show Go _ _ _ _ _ _ 48 _ _
      refine g_ist6 (by decide) dL_canBegin_48 ?_
      refine g_ald3 dL_canBegin_50 ?_
      refine g_bipush (v := nI 6) dL_canBegin_51 (by decide +kernel) ?_
      refine g_ild5 dL_canBegin_53 ?_
      first | refine g_imul_n dL_canBegin_55 ?_ | refine g_imul dL_canBegin_55 ?_
      first | refine g_ildr Rw.g rfl (by omega) rfl (by omega) dL_canBegin_56 hL (v := (2 : Int32)) hk ?_ | refine g_ildr Rw.t rfl (by omega) rfl (by omega) dL_canBegin_56 hL (v := (2 : Int32)) hk ?_ | refine g_ildr Rw.d rfl (by omega) rfl (by omega) dL_canBegin_56 hL (v := (2 : Int32)) hk ?_ | refine g_ildr Rw.a rfl (by omega) rfl (by omega) dL_canBegin_56 hL (v := (2 : Int32)) hk ?_ | refine g_ildr Rw.b rfl (by omega) rfl (by omega) dL_canBegin_56 hL (v := (2 : Int32)) hk ?_ | refine g_ildr Rw.c rfl (by omega) rfl (by omega) dL_canBegin_56 hL (v := (2 : Int32)) hk ?_
      show Go _ _ _ _ _ _ 57 _ _
      refine g_if_ne_t (tgt := 76) dL_canBegin_57 (by decide) (by decide) ?_
      refine g_ald3 dL_canBegin_76 ?_
      refine g_bipush (v := nI 6) dL_canBegin_77 (by decide +kernel) ?_
      refine g_ild5 dL_canBegin_79 ?_
      first | refine g_imul_n dL_canBegin_81 ?_ | refine g_imul dL_canBegin_81 ?_
      first | refine g_ildr Rw.g rfl (by omega) rfl (by omega) dL_canBegin_82 hL (v := (2 : Int32)) hk ?_ | refine g_ildr Rw.t rfl (by omega) rfl (by omega) dL_canBegin_82 hL (v := (2 : Int32)) hk ?_ | refine g_ildr Rw.d rfl (by omega) rfl (by omega) dL_canBegin_82 hL (v := (2 : Int32)) hk ?_ | refine g_ildr Rw.a rfl (by omega) rfl (by omega) dL_canBegin_82 hL (v := (2 : Int32)) hk ?_ | refine g_ildr Rw.b rfl (by omega) rfl (by omega) dL_canBegin_82 hL (v := (2 : Int32)) hk ?_ | refine g_ildr Rw.c rfl (by omega) rfl (by omega) dL_canBegin_82 hL (v := (2 : Int32)) hk ?_
      show Go _ _ _ _ _ _ 83 _ _
      refine g_iconst (v := nI 1) dL_canBegin_83 (by decide +kernel) ?_
      refine g_icmp_ne_t (tgt := 103) dL_canBegin_84 (by decide) (by decide) ?_
      refine g_ild6 dL_canBegin_103 ?_
      refine g_if_lt (tgt := 122) dL_canBegin_105 (by decide) (fun c_105 => ?_) (fun c_105 => ?_)
      · skip
        have hl : r = -5 := hM.elim (fun z => z.1) (fun ⟨k, q1, q2, _⟩ => by rw [q2] at c_105; exact absurd c_105 (Int32.not_lt.mpr (nI_pos' (by omega))))
        refine g_iconst (v := nI 1) dL_canBegin_122 (by decide +kernel) ?_
        refine g_goto (tgt := 127) dL_canBegin_123 (by decide) ?_
        show Go _ _ _ _ _ _ 127 _ _
        exact g_zret rfl rfl dL_canBegin_127 ⟨Or.inl ⟨rfl, c_13, fun z => absurd (hk.symm.trans z) (by decide), fun z => absurd (hk.symm.trans z) (by decide), fun _ i2 hi2 q2 => by rcases hM with ⟨-, q⟩ | ⟨k', q3, q4, -⟩; exact absurd q2 (q i2 hi2); exact absurd (q4.symm.trans hl) (nI_n5 (by omega))⟩, rfl⟩
      · skip
        have hl : r ≠ -5 := fun z => c_105 (by rw [z]; decide)
        refine g_ild6 dL_canBegin_108 ?_
        refine g_ald3 dL_canBegin_110 ?_
        refine g_bipush (v := nI 6) dL_canBegin_111 (by decide +kernel) ?_
        refine g_ild5 dL_canBegin_113 ?_
        first | refine g_imul_n dL_canBegin_115 ?_ | refine g_imul dL_canBegin_115 ?_
        show Go _ _ _ _ _ _ 116 _ _
        refine g_iconst (v := nI 1) dL_canBegin_116 (by decide +kernel) ?_
        first | refine g_iadd_n dL_canBegin_117 ?_ | refine g_iadd dL_canBegin_117 ?_
        first | refine g_ildr Rw.g rfl (by omega) rfl (by omega) dL_canBegin_118 hL rfl ?_ | refine g_ildr Rw.t rfl (by omega) rfl (by omega) dL_canBegin_118 hL rfl ?_ | refine g_ildr Rw.d rfl (by omega) rfl (by omega) dL_canBegin_118 hL rfl ?_ | refine g_ildr Rw.a rfl (by omega) rfl (by omega) dL_canBegin_118 hL rfl ?_ | refine g_ildr Rw.b rfl (by omega) rfl (by omega) dL_canBegin_118 hL rfl ?_ | refine g_ildr Rw.c rfl (by omega) rfl (by omega) dL_canBegin_118 hL rfl ?_
        refine g_icmp_ne (tgt := 126) dL_canBegin_119 (by decide) (fun c_119 => ?_) (fun c_119 => ?_)
        · skip
          refine g_iconst (v := nI 0) dL_canBegin_126 (by decide +kernel) ?_
          exact g_zret rfl rfl dL_canBegin_127 ⟨Or.inr ⟨rfl, fun z => by rcases hM with ⟨q, -⟩ | ⟨k', q3, q4, q5⟩; exact absurd q hl; exact c_119 (q4.trans (z.2.2.2 hk k' q3 q5))⟩, rfl⟩
        · skip
          show Go _ _ _ _ _ _ 122 _ _
          refine g_iconst (v := nI 1) dL_canBegin_122 (by decide +kernel) ?_
          refine g_goto (tgt := 127) dL_canBegin_123 (by decide) ?_
          exact g_zret rfl rfl dL_canBegin_127 ⟨Or.inl ⟨rfl, c_13, fun z => absurd (hk.symm.trans z) (by decide), fun z => absurd (hk.symm.trans z) (by decide), fun _ i2 hi2 q2 => by rcases hM with ⟨q, -⟩ | ⟨k', q3, q4, q5⟩; exact absurd q hl; rw [hu i2 k' hi2 q3 (q2.trans q5.symm), ← q4]; exact c_119⟩, rfl⟩
    · skip
      refine g_iconst (v := nI 0) dL_canBegin_16 (by decide +kernel) ?_
      exact g_zret rfl rfl dL_canBegin_17 ⟨Or.inr ⟨rfl, fun z => c_13 z.1⟩, rfl⟩
theorem l_isAhead (M : Mo) (ni nd nj i b : Nat) (hL : Lw h M) (hI : IS M ni nd nj) (hi : i < nj) (hb : b < nj) : Ct G mL_isAhead [ga G 449, ga G 452, ga G 453, .int (nI i), .int (nI b)] h 456 456 (rB (grp M i < grp M b ∨ (grp M i = grp M b ∧ i < b)) h) := by
  obtain ⟨⟨hi8, hd, hj10⟩, hp, hH, hC, hf, hu, hJb, hsl⟩ := id hI
  refine Ct.of rfl (by simp [Value.category, ga]) (Nat.le_of_ble_eq_true rfl) (Nat.le_refl _) ?_
  show Go _ _ _ _ _ _ _ [some (ga G 449), some (ga G 452), some (ga G 453), some (.int (nI i)), some (.int (nI b)), none, none, none] []
  have dr : ∀ j, j < nj → M.1 3 (6 * j) = 1 → ∃ k, k < nd ∧ M.1 3 (6 * j + 1) = nI k ∧ (dst M k ↔ Ug M j) := by
    intro j hj z
    rcases hJb j hj with ⟨q, -⟩ | ⟨-, k, k1, k2⟩ | ⟨q, -⟩
    · rw [q] at z; exact absurd z (by decide)
    · exact ⟨k, k1, k2, by unfold Ug; rw [k2, nI_clamp (by omega)]; exact ⟨fun y => ⟨z, y⟩, fun y => y.2⟩⟩
    · rw [q] at z; exact absurd z (by decide)
  have k64 : ∀ r5 r6 : Int32, ((r5 = 1 ∧ Ug M i) ∨ (r5 = 0 ∧ ¬ Ug M i)) → ((r6 = 1 ∧ Ug M b) ∨ (r6 = 0 ∧ ¬ Ug M b)) → Go G mL_isAhead 456 (rB (grp M i < grp M b ∨ (grp M i = grp M b ∧ i < b)) h) h 456 66 [some (ga G 449), some (ga G 452), some (ga G 453), some (.int (nI i)), some (.int (nI b)), some (.int r5), some (.int r6), none] [] := by
    rintro r5 r6 (⟨rfl, u5⟩ | ⟨rfl, u5⟩) (⟨rfl, u6⟩ | ⟨rfl, u6⟩)
    · rw [grp_u u5, grp_u u6]
      refine g_ild5 dL_isAhead_66 ?_
      refine g_ild6 dL_isAhead_68 ?_
      refine g_icmp_eq_t (tgt := 76) dL_isAhead_70 (by decide) rfl ?_
      refine g_ild5 dL_isAhead_76 ?_
      refine g_if_eq_f (tgt := 85) dL_isAhead_78 (by decide) (by decide) ?_
      show Go _ _ _ _ _ _ 81 _ _
      refine g_iconst (v := nI 0) dL_isAhead_81 (by decide +kernel) ?_
      refine g_goto (tgt := 107) dL_isAhead_82 (by decide) ?_
      refine g_ist7 (by decide) dL_isAhead_107 ?_
      refine g_ild7 dL_isAhead_109 ?_
      refine g_if_lt_f (tgt := 125) dL_isAhead_111 (by decide) (by decide) ?_
      refine g_ild7 dL_isAhead_114 ?_
      show Go _ _ _ _ _ _ 116 _ _
      refine g_if_ne_f (tgt := 129) dL_isAhead_116 (by decide) (by decide) ?_
      refine g_ild3 dL_isAhead_119 ?_
      refine g_ild4 dL_isAhead_120 ?_
      refine g_icmp_ge (tgt := 129) dL_isAhead_122 (by decide) (fun c_122 => ?_) (fun c_122 => ?_)
      · skip
        have c : ¬ i < b := fun z => absurd (nI_lt z (by omega)) (Int32.not_lt.mpr c_122)
        refine g_iconst (v := nI 0) dL_isAhead_129 (by decide +kernel) ?_
        exact g_zret rfl rfl dL_isAhead_130 ⟨by first | exact Or.inl ⟨rfl, Or.inr ⟨rfl, c⟩⟩ | exact Or.inr ⟨rfl, fun z => by omega⟩, rfl⟩
      · skip
        have c : i < b := (nI_ltI (by omega) (by omega)).mp (Int32.not_le.mp c_122)
        show Go _ _ _ _ _ _ 125 _ _
        refine g_iconst (v := nI 1) dL_isAhead_125 (by decide +kernel) ?_
        refine g_goto (tgt := 130) dL_isAhead_126 (by decide) ?_
        exact g_zret rfl rfl dL_isAhead_130 ⟨by first | exact Or.inl ⟨rfl, Or.inr ⟨rfl, c⟩⟩ | exact Or.inr ⟨rfl, fun z => by omega⟩, rfl⟩
    · rw [grp_u u5, grp_n u6]
      refine g_ild5 dL_isAhead_66 ?_
      refine g_ild6 dL_isAhead_68 ?_
      refine g_icmp_eq_f (tgt := 76) dL_isAhead_70 (by decide) (by decide) ?_
      refine g_ild5 dL_isAhead_73 ?_
      exact g_zret rfl rfl dL_isAhead_75 ⟨Or.inl ⟨rfl, Or.inl (by omega)⟩, rfl⟩
    · rw [grp_n u5, grp_u u6]
      refine g_ild5 dL_isAhead_66 ?_
      refine g_ild6 dL_isAhead_68 ?_
      refine g_icmp_eq_f (tgt := 76) dL_isAhead_70 (by decide) (by decide) ?_
      refine g_ild5 dL_isAhead_73 ?_
      exact g_zret rfl rfl dL_isAhead_75 ⟨Or.inr ⟨rfl, fun z => by omega⟩, rfl⟩
    · rw [grp_n u5, grp_n u6]
      obtain ⟨t1, t2⟩ := rk_s (rk_l M (M.1 3 (6 * i))) (rk_l M (M.1 3 (6 * b)))
      refine g_ild5 dL_isAhead_66 ?_
      refine g_ild6 dL_isAhead_68 ?_
      refine g_icmp_eq_t (tgt := 76) dL_isAhead_70 (by decide) rfl ?_
      refine g_ild5 dL_isAhead_76 ?_
      refine g_if_eq_t (tgt := 85) dL_isAhead_78 (by decide) rfl ?_
      show Go _ _ _ _ _ _ 85 _ _
      refine g_ald0 dL_isAhead_85 ?_
      refine g_ald2 dL_isAhead_86 ?_
      refine g_bipush (v := nI 6) dL_isAhead_87 (by decide +kernel) ?_
      refine g_ild3 dL_isAhead_89 ?_
      first | refine g_imul_n dL_isAhead_90 ?_ | refine g_imul dL_isAhead_90 ?_
      first | refine g_ildr Rw.g rfl (by omega) rfl (by omega) dL_isAhead_91 hL rfl ?_ | refine g_ildr Rw.t rfl (by omega) rfl (by omega) dL_isAhead_91 hL rfl ?_ | refine g_ildr Rw.d rfl (by omega) rfl (by omega) dL_isAhead_91 hL rfl ?_ | refine g_ildr Rw.a rfl (by omega) rfl (by omega) dL_isAhead_91 hL rfl ?_ | refine g_ildr Rw.b rfl (by omega) rfl (by omega) dL_isAhead_91 hL rfl ?_ | refine g_ildr Rw.c rfl (by omega) rfl (by omega) dL_isAhead_91 hL rfl ?_
      show Go _ _ _ _ _ _ 92 _ _
      refine g_callS2 (l_rank (h := h) M _ hL) mw_3_59 ok_L_rank ⟨by decide, by decide⟩ (by omega) (by omega) (Nat.le_of_ble_eq_true rfl) dL_isAhead_92 (dI_K ?_)
      refine g_ald0 dL_isAhead_95 ?_
      refine g_ald2 dL_isAhead_96 ?_
      refine g_bipush (v := nI 6) dL_isAhead_97 (by decide +kernel) ?_
      refine g_ild4 dL_isAhead_99 ?_
      first | refine g_imul_n dL_isAhead_101 ?_ | refine g_imul dL_isAhead_101 ?_
      show Go _ _ _ _ _ _ 102 _ _
      first | refine g_ildr Rw.g rfl (by omega) rfl (by omega) dL_isAhead_102 hL rfl ?_ | refine g_ildr Rw.t rfl (by omega) rfl (by omega) dL_isAhead_102 hL rfl ?_ | refine g_ildr Rw.d rfl (by omega) rfl (by omega) dL_isAhead_102 hL rfl ?_ | refine g_ildr Rw.a rfl (by omega) rfl (by omega) dL_isAhead_102 hL rfl ?_ | refine g_ildr Rw.b rfl (by omega) rfl (by omega) dL_isAhead_102 hL rfl ?_ | refine g_ildr Rw.c rfl (by omega) rfl (by omega) dL_isAhead_102 hL rfl ?_
      refine g_callS2 (l_rank (h := h) M _ hL) mw_3_59 ok_L_rank ⟨by decide, by decide⟩ (by omega) (by omega) (Nat.le_of_ble_eq_true rfl) dL_isAhead_103 (dI_K ?_)
      refine g_isub dL_isAhead_106 ?_
      refine g_ist7 (by decide) dL_isAhead_107 ?_
      refine g_ild7 dL_isAhead_109 ?_
      refine g_if_lt (tgt := 125) dL_isAhead_111 (by decide) (fun c_111 => ?_) (fun c_111 => ?_)
      · skip
        have c := t1.mp c_111
        show Go _ _ _ _ _ _ 125 _ _
        refine g_iconst (v := nI 1) dL_isAhead_125 (by decide +kernel) ?_
        refine g_goto (tgt := 130) dL_isAhead_126 (by decide) ?_
        exact g_zret rfl rfl dL_isAhead_130 ⟨by first | exact Or.inl ⟨rfl, by omega⟩ | exact Or.inr ⟨rfl, by omega⟩, rfl⟩
      · skip
        have c : ¬ rk M (M.1 3 (6 * i)) < rk M (M.1 3 (6 * b)) := fun z => c_111 (t1.mpr z)
        refine g_ild7 dL_isAhead_114 ?_
        refine g_if_ne (tgt := 129) dL_isAhead_116 (by decide) (fun c_116 => ?_) (fun c_116 => ?_)
        · skip
          have c2 : ¬ rk M (M.1 3 (6 * i)) = rk M (M.1 3 (6 * b)) := fun z => c_116 (t2.mpr z)
          refine g_iconst (v := nI 0) dL_isAhead_129 (by decide +kernel) ?_
          show Go _ _ _ _ _ _ 130 _ _
          exact g_zret rfl rfl dL_isAhead_130 ⟨by first | exact Or.inl ⟨rfl, by omega⟩ | exact Or.inr ⟨rfl, by omega⟩, rfl⟩
        · skip
          have c2 := t2.mp c_116
          refine g_ild3 dL_isAhead_119 ?_
          refine g_ild4 dL_isAhead_120 ?_
          refine g_icmp_ge (tgt := 129) dL_isAhead_122 (by decide) (fun c_122 => ?_) (fun c_122 => ?_)
          · skip
            have c3 : ¬ i < b := fun z => absurd (nI_lt z (by omega)) (Int32.not_lt.mpr c_122)
            refine g_iconst (v := nI 0) dL_isAhead_129 (by decide +kernel) ?_
            exact g_zret rfl rfl dL_isAhead_130 ⟨by first | exact Or.inl ⟨rfl, by omega⟩ | exact Or.inr ⟨rfl, by omega⟩, rfl⟩
          · skip
            have c3 : i < b := (nI_ltI (by omega) (by omega)).mp (Int32.not_le.mp c_122)
            show Go _ _ _ _ _ _ 125 _ _
            refine g_iconst (v := nI 1) dL_isAhead_125 (by decide +kernel) ?_
            refine g_goto (tgt := 130) dL_isAhead_126 (by decide) ?_
            exact g_zret rfl rfl dL_isAhead_130 ⟨by first | exact Or.inl ⟨rfl, by omega⟩ | exact Or.inr ⟨rfl, by omega⟩, rfl⟩
  have k30 : ∀ r5 : Int32, ((r5 = 1 ∧ Ug M i) ∨ (r5 = 0 ∧ ¬ Ug M i)) → Go G mL_isAhead 456 (rB (grp M i < grp M b ∨ (grp M i = grp M b ∧ i < b)) h) h 456 32 [some (ga G 449), some (ga G 452), some (ga G 453), some (.int (nI i)), some (.int (nI b)), some (.int r5), none, none] [] := by
    intro r5 h5
    by_cases z : M.1 3 (6 * b) = 1
    · obtain ⟨k, k1, k2, k3⟩ := dr b hb z
      refine g_ald2 dL_isAhead_32 ?_
      refine g_bipush (v := nI 6) dL_isAhead_33 (by decide +kernel) ?_
      refine g_ild4 dL_isAhead_35 ?_
      first | refine g_imul_n dL_isAhead_37 ?_ | refine g_imul dL_isAhead_37 ?_
      first | refine g_ildr Rw.g rfl (by omega) rfl (by omega) dL_isAhead_38 hL (v := (1 : Int32)) z ?_ | refine g_ildr Rw.t rfl (by omega) rfl (by omega) dL_isAhead_38 hL (v := (1 : Int32)) z ?_ | refine g_ildr Rw.d rfl (by omega) rfl (by omega) dL_isAhead_38 hL (v := (1 : Int32)) z ?_ | refine g_ildr Rw.a rfl (by omega) rfl (by omega) dL_isAhead_38 hL (v := (1 : Int32)) z ?_ | refine g_ildr Rw.b rfl (by omega) rfl (by omega) dL_isAhead_38 hL (v := (1 : Int32)) z ?_ | refine g_ildr Rw.c rfl (by omega) rfl (by omega) dL_isAhead_38 hL (v := (1 : Int32)) z ?_
      show Go _ _ _ _ _ _ 39 _ _
      refine g_iconst (v := nI 1) dL_isAhead_39 (by decide +kernel) ?_
      refine g_icmp_ne_f (tgt := 63) dL_isAhead_40 (by decide) (by decide) ?_
      refine g_ald1 dL_isAhead_43 ?_
      refine g_ald2 dL_isAhead_44 ?_
      refine g_bipush (v := nI 6) dL_isAhead_45 (by decide +kernel) ?_
      refine g_ild4 dL_isAhead_47 ?_
      show Go _ _ _ _ _ _ 49 _ _
      first | refine g_imul_n dL_isAhead_49 ?_ | refine g_imul dL_isAhead_49 ?_
      refine g_iconst (v := nI 1) dL_isAhead_50 (by decide +kernel) ?_
      first | refine g_iadd_n dL_isAhead_51 ?_ | refine g_iadd dL_isAhead_51 ?_
      first | refine g_ildr Rw.g rfl (by omega) rfl (by omega) dL_isAhead_52 hL (v := (nI k)) k2 ?_ | refine g_ildr Rw.t rfl (by omega) rfl (by omega) dL_isAhead_52 hL (v := (nI k)) k2 ?_ | refine g_ildr Rw.d rfl (by omega) rfl (by omega) dL_isAhead_52 hL (v := (nI k)) k2 ?_ | refine g_ildr Rw.a rfl (by omega) rfl (by omega) dL_isAhead_52 hL (v := (nI k)) k2 ?_ | refine g_ildr Rw.b rfl (by omega) rfl (by omega) dL_isAhead_52 hL (v := (nI k)) k2 ?_ | refine g_ildr Rw.c rfl (by omega) rfl (by omega) dL_isAhead_52 hL (v := (nI k)) k2 ?_
      refine g_callS2 (l_isDusty (h := h) M k hL (by omega) (hf.1 k k1).1 (hf.1 k k1).2) mw_2_185 ok_L_isDusty ⟨by decide, by decide⟩ (by omega) (by omega) (Nat.le_of_ble_eq_true rfl) dL_isAhead_53 (rB_K ?_)
      intro rd hd2
      refine g_if_eq (tgt := 63) dL_isAhead_56 (by decide) (fun c_56 => ?_) (fun c_56 => ?_)
      · skip
        show Go _ _ _ _ _ _ 63 _ _
        refine g_iconst (v := nI 0) dL_isAhead_63 (by decide +kernel) ?_
        refine g_ist6 (by decide) dL_isAhead_64 ?_
        first | exact k64 _ _ h5 (Or.inl ⟨rfl, k3.mp (hd2.resolve_right (fun y => c_56 y.1)).2⟩) | exact k64 _ _ h5 (Or.inr ⟨rfl, fun y => (hd2.resolve_left (fun y => absurd (y.1.symm.trans c_56) (by decide))).2 (k3.mpr y)⟩)
      · skip
        refine g_iconst (v := nI 1) dL_isAhead_59 (by decide +kernel) ?_
        refine g_goto (tgt := 64) dL_isAhead_60 (by decide) ?_
        refine g_ist6 (by decide) dL_isAhead_64 ?_
        first | exact k64 _ _ h5 (Or.inl ⟨rfl, k3.mp (hd2.resolve_right (fun y => c_56 y.1)).2⟩) | exact k64 _ _ h5 (Or.inr ⟨rfl, fun y => (hd2.resolve_left (fun y => absurd (y.1.symm.trans c_56) (by decide))).2 (k3.mpr y)⟩)
    · skip
      refine g_ald2 dL_isAhead_32 ?_
      refine g_bipush (v := nI 6) dL_isAhead_33 (by decide +kernel) ?_
      refine g_ild4 dL_isAhead_35 ?_
      first | refine g_imul_n dL_isAhead_37 ?_ | refine g_imul dL_isAhead_37 ?_
      first | refine g_ildr Rw.g rfl (by omega) rfl (by omega) dL_isAhead_38 hL rfl ?_ | refine g_ildr Rw.t rfl (by omega) rfl (by omega) dL_isAhead_38 hL rfl ?_ | refine g_ildr Rw.d rfl (by omega) rfl (by omega) dL_isAhead_38 hL rfl ?_ | refine g_ildr Rw.a rfl (by omega) rfl (by omega) dL_isAhead_38 hL rfl ?_ | refine g_ildr Rw.b rfl (by omega) rfl (by omega) dL_isAhead_38 hL rfl ?_ | refine g_ildr Rw.c rfl (by omega) rfl (by omega) dL_isAhead_38 hL rfl ?_
      show Go _ _ _ _ _ _ 39 _ _
      refine g_iconst (v := nI 1) dL_isAhead_39 (by decide +kernel) ?_
      refine g_icmp_ne_t (tgt := 63) dL_isAhead_40 (by decide) z ?_
      refine g_iconst (v := nI 0) dL_isAhead_63 (by decide +kernel) ?_
      refine g_ist6 (by decide) dL_isAhead_64 ?_
      exact k64 _ _ h5 (Or.inr ⟨rfl, fun y => z y.1⟩)
  by_cases z : M.1 3 (6 * i) = 1
  · obtain ⟨k, k1, k2, k3⟩ := dr i hi z
    refine g_ald2 dL_isAhead_0 ?_
    refine g_bipush (v := nI 6) dL_isAhead_1 (by decide +kernel) ?_
    refine g_ild3 dL_isAhead_3 ?_
    first | refine g_imul_n dL_isAhead_4 ?_ | refine g_imul dL_isAhead_4 ?_
    first | refine g_ildr Rw.g rfl (by omega) rfl (by omega) dL_isAhead_5 hL (v := (1 : Int32)) z ?_ | refine g_ildr Rw.t rfl (by omega) rfl (by omega) dL_isAhead_5 hL (v := (1 : Int32)) z ?_ | refine g_ildr Rw.d rfl (by omega) rfl (by omega) dL_isAhead_5 hL (v := (1 : Int32)) z ?_ | refine g_ildr Rw.a rfl (by omega) rfl (by omega) dL_isAhead_5 hL (v := (1 : Int32)) z ?_ | refine g_ildr Rw.b rfl (by omega) rfl (by omega) dL_isAhead_5 hL (v := (1 : Int32)) z ?_ | refine g_ildr Rw.c rfl (by omega) rfl (by omega) dL_isAhead_5 hL (v := (1 : Int32)) z ?_
    show Go _ _ _ _ _ _ 6 _ _
    refine g_iconst (v := nI 1) dL_isAhead_6 (by decide +kernel) ?_
    refine g_icmp_ne_f (tgt := 29) dL_isAhead_7 (by decide) (by decide) ?_
    refine g_ald1 dL_isAhead_10 ?_
    refine g_ald2 dL_isAhead_11 ?_
    refine g_bipush (v := nI 6) dL_isAhead_12 (by decide +kernel) ?_
    refine g_ild3 dL_isAhead_14 ?_
    show Go _ _ _ _ _ _ 15 _ _
    first | refine g_imul_n dL_isAhead_15 ?_ | refine g_imul dL_isAhead_15 ?_
    refine g_iconst (v := nI 1) dL_isAhead_16 (by decide +kernel) ?_
    first | refine g_iadd_n dL_isAhead_17 ?_ | refine g_iadd dL_isAhead_17 ?_
    first | refine g_ildr Rw.g rfl (by omega) rfl (by omega) dL_isAhead_18 hL (v := (nI k)) k2 ?_ | refine g_ildr Rw.t rfl (by omega) rfl (by omega) dL_isAhead_18 hL (v := (nI k)) k2 ?_ | refine g_ildr Rw.d rfl (by omega) rfl (by omega) dL_isAhead_18 hL (v := (nI k)) k2 ?_ | refine g_ildr Rw.a rfl (by omega) rfl (by omega) dL_isAhead_18 hL (v := (nI k)) k2 ?_ | refine g_ildr Rw.b rfl (by omega) rfl (by omega) dL_isAhead_18 hL (v := (nI k)) k2 ?_ | refine g_ildr Rw.c rfl (by omega) rfl (by omega) dL_isAhead_18 hL (v := (nI k)) k2 ?_
    refine g_callS2 (l_isDusty (h := h) M k hL (by omega) (hf.1 k k1).1 (hf.1 k k1).2) mw_2_185 ok_L_isDusty ⟨by decide, by decide⟩ (by omega) (by omega) (Nat.le_of_ble_eq_true rfl) dL_isAhead_19 (rB_K ?_)
    intro rd hd2
    refine g_if_eq (tgt := 29) dL_isAhead_22 (by decide) (fun c_22 => ?_) (fun c_22 => ?_)
    · skip
      show Go _ _ _ _ _ _ 29 _ _
      refine g_iconst (v := nI 0) dL_isAhead_29 (by decide +kernel) ?_
      refine g_ist5 (by decide) dL_isAhead_30 ?_
      first | exact k30 _ (Or.inl ⟨rfl, k3.mp (hd2.resolve_right (fun y => c_22 y.1)).2⟩) | exact k30 _ (Or.inr ⟨rfl, fun y => (hd2.resolve_left (fun y => absurd (y.1.symm.trans c_22) (by decide))).2 (k3.mpr y)⟩)
    · skip
      refine g_iconst (v := nI 1) dL_isAhead_25 (by decide +kernel) ?_
      refine g_goto (tgt := 30) dL_isAhead_26 (by decide) ?_
      refine g_ist5 (by decide) dL_isAhead_30 ?_
      first | exact k30 _ (Or.inl ⟨rfl, k3.mp (hd2.resolve_right (fun y => c_22 y.1)).2⟩) | exact k30 _ (Or.inr ⟨rfl, fun y => (hd2.resolve_left (fun y => absurd (y.1.symm.trans c_22) (by decide))).2 (k3.mpr y)⟩)
  · skip
    refine g_ald2 dL_isAhead_0 ?_
    refine g_bipush (v := nI 6) dL_isAhead_1 (by decide +kernel) ?_
    refine g_ild3 dL_isAhead_3 ?_
    first | refine g_imul_n dL_isAhead_4 ?_ | refine g_imul dL_isAhead_4 ?_
    first | refine g_ildr Rw.g rfl (by omega) rfl (by omega) dL_isAhead_5 hL rfl ?_ | refine g_ildr Rw.t rfl (by omega) rfl (by omega) dL_isAhead_5 hL rfl ?_ | refine g_ildr Rw.d rfl (by omega) rfl (by omega) dL_isAhead_5 hL rfl ?_ | refine g_ildr Rw.a rfl (by omega) rfl (by omega) dL_isAhead_5 hL rfl ?_ | refine g_ildr Rw.b rfl (by omega) rfl (by omega) dL_isAhead_5 hL rfl ?_ | refine g_ildr Rw.c rfl (by omega) rfl (by omega) dL_isAhead_5 hL rfl ?_
    show Go _ _ _ _ _ _ 6 _ _
    refine g_iconst (v := nI 1) dL_isAhead_6 (by decide +kernel) ?_
    refine g_icmp_ne_t (tgt := 29) dL_isAhead_7 (by decide) z ?_
    refine g_iconst (v := nI 0) dL_isAhead_29 (by decide +kernel) ?_
    refine g_ist5 (by decide) dL_isAhead_30 ?_
    exact k30 _ (Or.inr ⟨rfl, fun y => z y.1⟩)
theorem l_first (M : Mo) (ni nd nj : Nat) (hL : Lw h M) (hz : Iz M ni nd nj) (hI : IS M ni nd nj) : Ct G mL_first [ga G 449, ga G 450, ga G 452, ga G 453, ga G 454] h 456 456 (rI (fun r h' => h' = h ∧ IsMin (OKj M ni nd) (grp M) nj r)) := by
  obtain ⟨⟨hi8, hd, hj10⟩, -⟩ := id hI
  obtain ⟨-, -, -, -, z3, -⟩ := id hz
  refine Ct.of rfl (by simp [Value.category, ga]) (Nat.le_of_ble_eq_true rfl) (Nat.le_refl _) ?_
  show Go _ _ _ _ _ _ _ [some (ga G 449), some (ga G 450), some (ga G 452), some (ga G 453), some (ga G 454), none, none] []
  have loop : ∀ m i r, m + i = nj → IsMin (OKj M ni nd) (grp M) i r → Go G mL_first 456 (rI (fun r h' => h' = h ∧ IsMin (OKj M ni nd) (grp M) nj r)) h 456 7 [some (ga G 449), some (ga G 450), some (ga G 452), some (ga G 453), some (ga G 454), some (.int r), some (.int (nI i))] [] := by
    intro m
    induction m with
    | zero =>
      intro i r hi hq
      obtain rfl : i = nj := by omega
      refine g_ild6 dL_first_7 ?_
      refine g_ald0 dL_first_9 ?_
      refine g_bipush (v := nI 11) dL_first_10 (by decide +kernel) ?_
      first | refine g_ildr Rw.g rfl (by omega) rfl (by omega) dL_first_12 hL (v := (nI i)) z3 ?_ | refine g_ildr Rw.t rfl (by omega) rfl (by omega) dL_first_12 hL (v := (nI i)) z3 ?_ | refine g_ildr Rw.d rfl (by omega) rfl (by omega) dL_first_12 hL (v := (nI i)) z3 ?_ | refine g_ildr Rw.a rfl (by omega) rfl (by omega) dL_first_12 hL (v := (nI i)) z3 ?_ | refine g_ildr Rw.b rfl (by omega) rfl (by omega) dL_first_12 hL (v := (nI i)) z3 ?_ | refine g_ildr Rw.c rfl (by omega) rfl (by omega) dL_first_12 hL (v := (nI i)) z3 ?_
      refine g_icmp_ge_t (tgt := 75) dL_first_13 (by decide) (nI_le (by omega) (by omega)) ?_
      show Go _ _ _ _ _ _ 75 _ _
      refine g_ild5 dL_first_75 ?_
      exact g_iret rfl dL_first_77 ⟨r, rfl, rfl, hq⟩
    | succ m ih =>
      intro i r hi hq
      rcases id hq with ⟨rfl, -⟩ | ⟨b, b1, rfl, -⟩
      · skip
        refine g_ild6 dL_first_7 ?_
        refine g_ald0 dL_first_9 ?_
        refine g_bipush (v := nI 11) dL_first_10 (by decide +kernel) ?_
        first | refine g_ildr Rw.g rfl (by omega) rfl (by omega) dL_first_12 hL (v := (nI nj)) z3 ?_ | refine g_ildr Rw.t rfl (by omega) rfl (by omega) dL_first_12 hL (v := (nI nj)) z3 ?_ | refine g_ildr Rw.d rfl (by omega) rfl (by omega) dL_first_12 hL (v := (nI nj)) z3 ?_ | refine g_ildr Rw.a rfl (by omega) rfl (by omega) dL_first_12 hL (v := (nI nj)) z3 ?_ | refine g_ildr Rw.b rfl (by omega) rfl (by omega) dL_first_12 hL (v := (nI nj)) z3 ?_ | refine g_ildr Rw.c rfl (by omega) rfl (by omega) dL_first_12 hL (v := (nI nj)) z3 ?_
        refine g_icmp_ge_f (tgt := 75) dL_first_13 (by decide) (nI_ge (by omega) (by omega)) ?_
        show Go _ _ _ _ _ _ 16 _ _
        refine g_ald3 dL_first_16 ?_
        refine g_bipush (v := nI 6) dL_first_17 (by decide +kernel) ?_
        refine g_ild6 dL_first_19 ?_
        first | refine g_imul_n dL_first_21 ?_ | refine g_imul dL_first_21 ?_
        refine g_iconst (v := nI 3) dL_first_22 (by decide +kernel) ?_
        first | refine g_iadd_n dL_first_23 ?_ | refine g_iadd dL_first_23 ?_
        show Go _ _ _ _ _ _ 24 _ _
        first | refine g_ildr Rw.g rfl (by omega) rfl (by omega) dL_first_24 hL rfl ?_ | refine g_ildr Rw.t rfl (by omega) rfl (by omega) dL_first_24 hL rfl ?_ | refine g_ildr Rw.d rfl (by omega) rfl (by omega) dL_first_24 hL rfl ?_ | refine g_ildr Rw.a rfl (by omega) rfl (by omega) dL_first_24 hL rfl ?_ | refine g_ildr Rw.b rfl (by omega) rfl (by omega) dL_first_24 hL rfl ?_ | refine g_ildr Rw.c rfl (by omega) rfl (by omega) dL_first_24 hL rfl ?_
        refine g_if_ne (tgt := 65) dL_first_25 (by decide) (fun c_25 => ?_) (fun c_25 => ?_)
        · skip
          refine g_ild5 dL_first_65 ?_
          refine g_ist5 (by decide) dL_first_67 ?_
          refine g_iinc6 (by decide) dL_first_69 (nI_1 i) ?_
          refine g_goto (tgt := 7) dL_first_72 (by decide) ?_
          first | exact ih (i + 1) _ (by omega) (hq.take ⟨c_25, (hc.resolve_right (fun y => c_39 y.1)).2⟩ (Or.inl rfl) (by omega)) | exact ih (i + 1) _ (by omega) (hq.skip (fun y => c_25 y.1)) | exact ih (i + 1) _ (by omega) (hq.skip (fun y => (hc.resolve_left (fun z => absurd (z.1.symm.trans c_39) (by decide))).2 y.2))
        · skip
          show Go _ _ _ _ _ _ 28 _ _
          refine g_ald0 dL_first_28 ?_
          refine g_ald1 dL_first_29 ?_
          refine g_ald2 dL_first_30 ?_
          refine g_ald3 dL_first_31 ?_
          refine g_ald4 dL_first_32 ?_
          refine g_ild6 dL_first_34 ?_
          show Go _ _ _ _ _ _ 36 _ _
          refine g_callS6 (l_canBegin (h := h) M ni nd nj i hL hz hI (by omega)) mw_3_41 ok_L_canBegin ⟨by decide, by decide⟩ (by omega) (by omega) (Nat.le_of_ble_eq_true rfl) dL_first_36 (rB_K ?_)
          intro rc hc
          refine g_if_eq (tgt := 65) dL_first_39 (by decide) (fun c_39 => ?_) (fun c_39 => ?_)
          · skip
            refine g_ild5 dL_first_65 ?_
            refine g_ist5 (by decide) dL_first_67 ?_
            refine g_iinc6 (by decide) dL_first_69 (nI_1 i) ?_
            refine g_goto (tgt := 7) dL_first_72 (by decide) ?_
            first | exact ih (i + 1) _ (by omega) (hq.take ⟨c_25, (hc.resolve_right (fun y => c_39 y.1)).2⟩ (Or.inl rfl) (by omega)) | exact ih (i + 1) _ (by omega) (hq.skip (fun y => c_25 y.1)) | exact ih (i + 1) _ (by omega) (hq.skip (fun y => (hc.resolve_left (fun z => absurd (z.1.symm.trans c_39) (by decide))).2 y.2))
          · skip
            show Go _ _ _ _ _ _ 42 _ _
            refine g_ild5 dL_first_42 ?_
            refine g_if_lt_t (tgt := 60) dL_first_44 (by decide) (by decide) ?_
            refine g_ild6 dL_first_60 ?_
            refine g_goto (tgt := 67) dL_first_62 (by decide) ?_
            refine g_ist5 (by decide) dL_first_67 ?_
            refine g_iinc6 (by decide) dL_first_69 (nI_1 i) ?_
            show Go _ _ _ _ _ _ 72 _ _
            refine g_goto (tgt := 7) dL_first_72 (by decide) ?_
            first | exact ih (i + 1) _ (by omega) (hq.take ⟨c_25, (hc.resolve_right (fun y => c_39 y.1)).2⟩ (Or.inl rfl) (by omega)) | exact ih (i + 1) _ (by omega) (hq.skip (fun y => c_25 y.1)) | exact ih (i + 1) _ (by omega) (hq.skip (fun y => (hc.resolve_left (fun z => absurd (z.1.symm.trans c_39) (by decide))).2 y.2))
      · skip
        refine g_ild6 dL_first_7 ?_
        refine g_ald0 dL_first_9 ?_
        refine g_bipush (v := nI 11) dL_first_10 (by decide +kernel) ?_
        first | refine g_ildr Rw.g rfl (by omega) rfl (by omega) dL_first_12 hL (v := (nI nj)) z3 ?_ | refine g_ildr Rw.t rfl (by omega) rfl (by omega) dL_first_12 hL (v := (nI nj)) z3 ?_ | refine g_ildr Rw.d rfl (by omega) rfl (by omega) dL_first_12 hL (v := (nI nj)) z3 ?_ | refine g_ildr Rw.a rfl (by omega) rfl (by omega) dL_first_12 hL (v := (nI nj)) z3 ?_ | refine g_ildr Rw.b rfl (by omega) rfl (by omega) dL_first_12 hL (v := (nI nj)) z3 ?_ | refine g_ildr Rw.c rfl (by omega) rfl (by omega) dL_first_12 hL (v := (nI nj)) z3 ?_
        refine g_icmp_ge_f (tgt := 75) dL_first_13 (by decide) (nI_ge (by omega) (by omega)) ?_
        show Go _ _ _ _ _ _ 16 _ _
        refine g_ald3 dL_first_16 ?_
        refine g_bipush (v := nI 6) dL_first_17 (by decide +kernel) ?_
        refine g_ild6 dL_first_19 ?_
        first | refine g_imul_n dL_first_21 ?_ | refine g_imul dL_first_21 ?_
        refine g_iconst (v := nI 3) dL_first_22 (by decide +kernel) ?_
        first | refine g_iadd_n dL_first_23 ?_ | refine g_iadd dL_first_23 ?_
        show Go _ _ _ _ _ _ 24 _ _
        first | refine g_ildr Rw.g rfl (by omega) rfl (by omega) dL_first_24 hL rfl ?_ | refine g_ildr Rw.t rfl (by omega) rfl (by omega) dL_first_24 hL rfl ?_ | refine g_ildr Rw.d rfl (by omega) rfl (by omega) dL_first_24 hL rfl ?_ | refine g_ildr Rw.a rfl (by omega) rfl (by omega) dL_first_24 hL rfl ?_ | refine g_ildr Rw.b rfl (by omega) rfl (by omega) dL_first_24 hL rfl ?_ | refine g_ildr Rw.c rfl (by omega) rfl (by omega) dL_first_24 hL rfl ?_
        refine g_if_ne (tgt := 65) dL_first_25 (by decide) (fun c_25 => ?_) (fun c_25 => ?_)
        · skip
          refine g_ild5 dL_first_65 ?_
          refine g_ist5 (by decide) dL_first_67 ?_
          refine g_iinc6 (by decide) dL_first_69 (nI_1 i) ?_
          refine g_goto (tgt := 7) dL_first_72 (by decide) ?_
          first | exact ih (i + 1) _ (by omega) (hq.take ⟨c_25, (hc.resolve_right (fun y => c_39 y.1)).2⟩ (Or.inr ⟨b, rfl, b1, by omega⟩) (by omega)) | exact ih (i + 1) _ (by omega) (hq.stay ⟨b, rfl, b1, by omega⟩ (by omega)) | exact ih (i + 1) _ (by omega) (hq.skip (fun y => c_25 y.1)) | exact ih (i + 1) _ (by omega) (hq.skip (fun y => (hc.resolve_left (fun z => absurd (z.1.symm.trans c_39) (by decide))).2 y.2))
        · skip
          show Go _ _ _ _ _ _ 28 _ _
          refine g_ald0 dL_first_28 ?_
          refine g_ald1 dL_first_29 ?_
          refine g_ald2 dL_first_30 ?_
          refine g_ald3 dL_first_31 ?_
          refine g_ald4 dL_first_32 ?_
          refine g_ild6 dL_first_34 ?_
          show Go _ _ _ _ _ _ 36 _ _
          refine g_callS6 (l_canBegin (h := h) M ni nd nj i hL hz hI (by omega)) mw_3_41 ok_L_canBegin ⟨by decide, by decide⟩ (by omega) (by omega) (Nat.le_of_ble_eq_true rfl) dL_first_36 (rB_K ?_)
          intro rc hc
          refine g_if_eq (tgt := 65) dL_first_39 (by decide) (fun c_39 => ?_) (fun c_39 => ?_)
          · skip
            refine g_ild5 dL_first_65 ?_
            refine g_ist5 (by decide) dL_first_67 ?_
            refine g_iinc6 (by decide) dL_first_69 (nI_1 i) ?_
            refine g_goto (tgt := 7) dL_first_72 (by decide) ?_
            first | exact ih (i + 1) _ (by omega) (hq.take ⟨c_25, (hc.resolve_right (fun y => c_39 y.1)).2⟩ (Or.inr ⟨b, rfl, b1, by omega⟩) (by omega)) | exact ih (i + 1) _ (by omega) (hq.stay ⟨b, rfl, b1, by omega⟩ (by omega)) | exact ih (i + 1) _ (by omega) (hq.skip (fun y => c_25 y.1)) | exact ih (i + 1) _ (by omega) (hq.skip (fun y => (hc.resolve_left (fun z => absurd (z.1.symm.trans c_39) (by decide))).2 y.2))
          · skip
            show Go _ _ _ _ _ _ 42 _ _
            refine g_ild5 dL_first_42 ?_
            refine g_if_lt_f (tgt := 60) dL_first_44 (by decide) (Int32.not_lt.mpr (nI_pos' (by omega))) ?_
            refine g_ald0 dL_first_47 ?_
            refine g_ald2 dL_first_48 ?_
            refine g_ald3 dL_first_49 ?_
            refine g_ild6 dL_first_50 ?_
            show Go _ _ _ _ _ _ 52 _ _
            refine g_ild5 dL_first_52 ?_
            refine g_callS5 (l_isAhead (h := h) M ni nd nj i b hL hI (by omega) (by omega)) mw_3_56 ok_L_isAhead ⟨by decide, by decide⟩ (by omega) (by omega) (Nat.le_of_ble_eq_true rfl) dL_first_54 (rB_K ?_)
            intro ra ha
            refine g_if_eq (tgt := 65) dL_first_57 (by decide) (fun c_57 => ?_) (fun c_57 => ?_)
            · skip
              have hn := (ha.resolve_left (fun z => absurd (z.1.symm.trans c_57) (by decide))).2
              refine g_ild5 dL_first_65 ?_
              refine g_ist5 (by decide) dL_first_67 ?_
              refine g_iinc6 (by decide) dL_first_69 (nI_1 i) ?_
              show Go _ _ _ _ _ _ 72 _ _
              refine g_goto (tgt := 7) dL_first_72 (by decide) ?_
              first | exact ih (i + 1) _ (by omega) (hq.take ⟨c_25, (hc.resolve_right (fun y => c_39 y.1)).2⟩ (Or.inr ⟨b, rfl, b1, by omega⟩) (by omega)) | exact ih (i + 1) _ (by omega) (hq.stay ⟨b, rfl, b1, by omega⟩ (by omega)) | exact ih (i + 1) _ (by omega) (hq.skip (fun y => c_25 y.1)) | exact ih (i + 1) _ (by omega) (hq.skip (fun y => (hc.resolve_left (fun z => absurd (z.1.symm.trans c_39) (by decide))).2 y.2))
            · skip
              have hn := (ha.resolve_right (fun y => c_57 y.1)).2
              refine g_ild6 dL_first_60 ?_
              refine g_goto (tgt := 67) dL_first_62 (by decide) ?_
              refine g_ist5 (by decide) dL_first_67 ?_
              refine g_iinc6 (by decide) dL_first_69 (nI_1 i) ?_
              refine g_goto (tgt := 7) dL_first_72 (by decide) ?_
              first | exact ih (i + 1) _ (by omega) (hq.take ⟨c_25, (hc.resolve_right (fun y => c_39 y.1)).2⟩ (Or.inr ⟨b, rfl, b1, by omega⟩) (by omega)) | exact ih (i + 1) _ (by omega) (hq.stay ⟨b, rfl, b1, by omega⟩ (by omega)) | exact ih (i + 1) _ (by omega) (hq.skip (fun y => c_25 y.1)) | exact ih (i + 1) _ (by omega) (hq.skip (fun y => (hc.resolve_left (fun z => absurd (z.1.symm.trans c_39) (by decide))).2 y.2))
  refine g_bipush (v := -5) dL_first_0 (by decide +kernel) ?_
  refine g_ist5 (by decide) dL_first_2 ?_
  refine g_iconst (v := nI 0) dL_first_4 (by decide +kernel) ?_
  refine g_ist6 (by decide) dL_first_5 ?_
  exact loop nj 0 _ (by omega) (IsMin.zero _ _)
end P34
