/-! ===== THE LAW'S STEPS ===== -/
section P35
variable {G : Gl} {h : Hp}
theorem l_puts_take (M : Mo) (it k : Nat) (hL : Lw h M) (ht : it < 8) (hk : k < 4) : Ct G mL_puts [ga G 449, ga G 450, ga G 451, .int (nI it), .int (nI 1), .int (-5)] h 456 456 (rI (fun r h' => r = 1 ∧ Lw h' (mTake M it) ∧ KR h h')) := by
  have hK := KR.rf h
  refine Ct.of rfl (by simp [Value.category, ga]) (Nat.le_of_ble_eq_true rfl) (Nat.le_refl _) ?_
  show Go _ _ _ _ _ _ _ [some (ga G 449), some (ga G 450), some (ga G 451), some (.int (nI it)), some (.int (nI 1)), some (.int (-5))] []
  refine g_ald1 dL_puts_0 ?_
  refine g_bipush (v := nI 6) dL_puts_1 (by decide +kernel) ?_
  refine g_ild3 dL_puts_3 ?_
  first | refine g_imul_n dL_puts_4 ?_ | refine g_imul dL_puts_4 ?_
  refine g_iconst (v := nI 2) dL_puts_5 (by decide +kernel) ?_
  show Go _ _ _ _ _ _ 6 _ _
  first | refine g_iadd_n dL_puts_6 ?_ | refine g_iadd dL_puts_6 ?_
  refine g_ild4 dL_puts_7 ?_
  first | refine g_istr Rw.g rfl (by omega) rfl (by omega) dL_puts_9 hL hK ?_ | refine g_istr Rw.t rfl (by omega) rfl (by omega) dL_puts_9 hL hK ?_ | refine g_istr Rw.d rfl (by omega) rfl (by omega) dL_puts_9 hL hK ?_ | refine g_istr Rw.a rfl (by omega) rfl (by omega) dL_puts_9 hL hK ?_ | refine g_istr Rw.b rfl (by omega) rfl (by omega) dL_puts_9 hL hK ?_ | refine g_istr Rw.c rfl (by omega) rfl (by omega) dL_puts_9 hL hK ?_
  intro h hL hK
  refine g_ald0 dL_puts_10 ?_
  refine g_iconst (v := nI 2) dL_puts_11 (by decide +kernel) ?_
  refine g_ild4 dL_puts_12 ?_
  show Go _ _ _ _ _ _ 14 _ _
  refine g_iconst (v := nI 1) dL_puts_14 (by decide +kernel) ?_
  refine g_icmp_ne_f (tgt := 22) dL_puts_15 (by decide) (by decide) ?_
  refine g_ild3 dL_puts_18 ?_
  refine g_goto (tgt := 24) dL_puts_19 (by decide) ?_
  first | refine g_istr Rw.g rfl (by omega) rfl (by omega) dL_puts_24 hL hK ?_ | refine g_istr Rw.t rfl (by omega) rfl (by omega) dL_puts_24 hL hK ?_ | refine g_istr Rw.d rfl (by omega) rfl (by omega) dL_puts_24 hL hK ?_ | refine g_istr Rw.a rfl (by omega) rfl (by omega) dL_puts_24 hL hK ?_ | refine g_istr Rw.b rfl (by omega) rfl (by omega) dL_puts_24 hL hK ?_ | refine g_istr Rw.c rfl (by omega) rfl (by omega) dL_puts_24 hL hK ?_
  intro h hL hK
  refine g_ild5 dL_puts_25 ?_
  show Go _ _ _ _ _ _ 27 _ _
  refine g_if_lt_t (tgt := 52) dL_puts_27 (by decide) (by decide) ?_
  refine g_iconst (v := nI 1) dL_puts_52 (by decide +kernel) ?_
  exact g_zret rfl rfl dL_puts_53 ⟨1, rfl, rfl, hL, hK⟩
theorem l_puts_home (M : Mo) (it k : Nat) (hL : Lw h M) (ht : it < 8) (hk : k < 4) : Ct G mL_puts [ga G 449, ga G 450, ga G 451, .int (nI it), .int (nI 0), .int (-5)] h 456 456 (rI (fun r h' => r = 1 ∧ Lw h' (mHome M it) ∧ KR h h')) := by
  have hK := KR.rf h
  refine Ct.of rfl (by simp [Value.category, ga]) (Nat.le_of_ble_eq_true rfl) (Nat.le_refl _) ?_
  show Go _ _ _ _ _ _ _ [some (ga G 449), some (ga G 450), some (ga G 451), some (.int (nI it)), some (.int (nI 0)), some (.int (-5))] []
  refine g_ald1 dL_puts_0 ?_
  refine g_bipush (v := nI 6) dL_puts_1 (by decide +kernel) ?_
  refine g_ild3 dL_puts_3 ?_
  first | refine g_imul_n dL_puts_4 ?_ | refine g_imul dL_puts_4 ?_
  refine g_iconst (v := nI 2) dL_puts_5 (by decide +kernel) ?_
  show Go _ _ _ _ _ _ 6 _ _
  first | refine g_iadd_n dL_puts_6 ?_ | refine g_iadd dL_puts_6 ?_
  refine g_ild4 dL_puts_7 ?_
  first | refine g_istr Rw.g rfl (by omega) rfl (by omega) dL_puts_9 hL hK ?_ | refine g_istr Rw.t rfl (by omega) rfl (by omega) dL_puts_9 hL hK ?_ | refine g_istr Rw.d rfl (by omega) rfl (by omega) dL_puts_9 hL hK ?_ | refine g_istr Rw.a rfl (by omega) rfl (by omega) dL_puts_9 hL hK ?_ | refine g_istr Rw.b rfl (by omega) rfl (by omega) dL_puts_9 hL hK ?_ | refine g_istr Rw.c rfl (by omega) rfl (by omega) dL_puts_9 hL hK ?_
  intro h hL hK
  refine g_ald0 dL_puts_10 ?_
  refine g_iconst (v := nI 2) dL_puts_11 (by decide +kernel) ?_
  refine g_ild4 dL_puts_12 ?_
  show Go _ _ _ _ _ _ 14 _ _
  refine g_iconst (v := nI 1) dL_puts_14 (by decide +kernel) ?_
  refine g_icmp_ne_t (tgt := 22) dL_puts_15 (by decide) (by decide) ?_
  refine g_bipush (v := -5) dL_puts_22 (by decide +kernel) ?_
  first | refine g_istr Rw.g rfl (by omega) rfl (by omega) dL_puts_24 hL hK ?_ | refine g_istr Rw.t rfl (by omega) rfl (by omega) dL_puts_24 hL hK ?_ | refine g_istr Rw.d rfl (by omega) rfl (by omega) dL_puts_24 hL hK ?_ | refine g_istr Rw.a rfl (by omega) rfl (by omega) dL_puts_24 hL hK ?_ | refine g_istr Rw.b rfl (by omega) rfl (by omega) dL_puts_24 hL hK ?_ | refine g_istr Rw.c rfl (by omega) rfl (by omega) dL_puts_24 hL hK ?_
  intro h hL hK
  refine g_ild5 dL_puts_25 ?_
  refine g_if_lt_t (tgt := 52) dL_puts_27 (by decide) (by decide) ?_
  show Go _ _ _ _ _ _ 52 _ _
  refine g_iconst (v := nI 1) dL_puts_52 (by decide +kernel) ?_
  exact g_zret rfl rfl dL_puts_53 ⟨1, rfl, rfl, hL, hK⟩
theorem l_puts_load (M : Mo) (it k : Nat) (hL : Lw h M) (ht : it < 8) (hk : k < 4) : Ct G mL_puts [ga G 449, ga G 450, ga G 451, .int (nI it), .int (nI 2), .int (nI k)] h 456 456 (rI (fun r h' => r = 1 ∧ Lw h' (mLoad M it k) ∧ KR h h')) := by
  have hK := KR.rf h
  refine Ct.of rfl (by simp [Value.category, ga]) (Nat.le_of_ble_eq_true rfl) (Nat.le_refl _) ?_
  show Go _ _ _ _ _ _ _ [some (ga G 449), some (ga G 450), some (ga G 451), some (.int (nI it)), some (.int (nI 2)), some (.int (nI k))] []
  refine g_ald1 dL_puts_0 ?_
  refine g_bipush (v := nI 6) dL_puts_1 (by decide +kernel) ?_
  refine g_ild3 dL_puts_3 ?_
  first | refine g_imul_n dL_puts_4 ?_ | refine g_imul dL_puts_4 ?_
  refine g_iconst (v := nI 2) dL_puts_5 (by decide +kernel) ?_
  show Go _ _ _ _ _ _ 6 _ _
  first | refine g_iadd_n dL_puts_6 ?_ | refine g_iadd dL_puts_6 ?_
  refine g_ild4 dL_puts_7 ?_
  first | refine g_istr Rw.g rfl (by omega) rfl (by omega) dL_puts_9 hL hK ?_ | refine g_istr Rw.t rfl (by omega) rfl (by omega) dL_puts_9 hL hK ?_ | refine g_istr Rw.d rfl (by omega) rfl (by omega) dL_puts_9 hL hK ?_ | refine g_istr Rw.a rfl (by omega) rfl (by omega) dL_puts_9 hL hK ?_ | refine g_istr Rw.b rfl (by omega) rfl (by omega) dL_puts_9 hL hK ?_ | refine g_istr Rw.c rfl (by omega) rfl (by omega) dL_puts_9 hL hK ?_
  intro h hL hK
  refine g_ald0 dL_puts_10 ?_
  refine g_iconst (v := nI 2) dL_puts_11 (by decide +kernel) ?_
  refine g_ild4 dL_puts_12 ?_
  show Go _ _ _ _ _ _ 14 _ _
  refine g_iconst (v := nI 1) dL_puts_14 (by decide +kernel) ?_
  refine g_icmp_ne_t (tgt := 22) dL_puts_15 (by decide) (by decide) ?_
  refine g_bipush (v := -5) dL_puts_22 (by decide +kernel) ?_
  first | refine g_istr Rw.g rfl (by omega) rfl (by omega) dL_puts_24 hL hK ?_ | refine g_istr Rw.t rfl (by omega) rfl (by omega) dL_puts_24 hL hK ?_ | refine g_istr Rw.d rfl (by omega) rfl (by omega) dL_puts_24 hL hK ?_ | refine g_istr Rw.a rfl (by omega) rfl (by omega) dL_puts_24 hL hK ?_ | refine g_istr Rw.b rfl (by omega) rfl (by omega) dL_puts_24 hL hK ?_ | refine g_istr Rw.c rfl (by omega) rfl (by omega) dL_puts_24 hL hK ?_
  intro h hL hK
  refine g_ild5 dL_puts_25 ?_
  refine g_if_lt_f (tgt := 52) dL_puts_27 (by decide) (Int32.not_lt.mpr (nI_pos' (by omega))) ?_
  show Go _ _ _ _ _ _ 30 _ _
  refine g_ald2 dL_puts_30 ?_
  refine g_bipush (v := nI 7) dL_puts_31 (by decide +kernel) ?_
  refine g_ild5 dL_puts_33 ?_
  first | refine g_imul_n dL_puts_35 ?_ | refine g_imul dL_puts_35 ?_
  refine g_bipush (v := nI 6) dL_puts_36 (by decide +kernel) ?_
  first | refine g_iadd_n dL_puts_38 ?_ | refine g_iadd dL_puts_38 ?_
  show Go _ _ _ _ _ _ 39 _ _
  refine g_ild4 dL_puts_39 ?_
  refine g_iconst (v := nI 2) dL_puts_41 (by decide +kernel) ?_
  refine g_icmp_ne_f (tgt := 49) dL_puts_42 (by decide) (by decide) ?_
  refine g_ild3 dL_puts_45 ?_
  refine g_goto (tgt := 51) dL_puts_46 (by decide) ?_
  first | refine g_istr Rw.g rfl (by omega) rfl (by omega) dL_puts_51 hL hK ?_ | refine g_istr Rw.t rfl (by omega) rfl (by omega) dL_puts_51 hL hK ?_ | refine g_istr Rw.d rfl (by omega) rfl (by omega) dL_puts_51 hL hK ?_ | refine g_istr Rw.a rfl (by omega) rfl (by omega) dL_puts_51 hL hK ?_ | refine g_istr Rw.b rfl (by omega) rfl (by omega) dL_puts_51 hL hK ?_ | refine g_istr Rw.c rfl (by omega) rfl (by omega) dL_puts_51 hL hK ?_
  intro h hL hK
  show Go _ _ _ _ _ _ 52 _ _
  refine g_iconst (v := nI 1) dL_puts_52 (by decide +kernel) ?_
  exact g_zret rfl rfl dL_puts_53 ⟨1, rfl, rfl, hL, hK⟩
theorem l_puts_unload (M : Mo) (it k : Nat) (hL : Lw h M) (ht : it < 8) (hk : k < 4) : Ct G mL_puts [ga G 449, ga G 450, ga G 451, .int (nI it), .int (nI 1), .int (nI k)] h 456 456 (rI (fun r h' => r = 1 ∧ Lw h' (mUnload M it k) ∧ KR h h')) := by
  have hK := KR.rf h
  refine Ct.of rfl (by simp [Value.category, ga]) (Nat.le_of_ble_eq_true rfl) (Nat.le_refl _) ?_
  show Go _ _ _ _ _ _ _ [some (ga G 449), some (ga G 450), some (ga G 451), some (.int (nI it)), some (.int (nI 1)), some (.int (nI k))] []
  refine g_ald1 dL_puts_0 ?_
  refine g_bipush (v := nI 6) dL_puts_1 (by decide +kernel) ?_
  refine g_ild3 dL_puts_3 ?_
  first | refine g_imul_n dL_puts_4 ?_ | refine g_imul dL_puts_4 ?_
  refine g_iconst (v := nI 2) dL_puts_5 (by decide +kernel) ?_
  show Go _ _ _ _ _ _ 6 _ _
  first | refine g_iadd_n dL_puts_6 ?_ | refine g_iadd dL_puts_6 ?_
  refine g_ild4 dL_puts_7 ?_
  first | refine g_istr Rw.g rfl (by omega) rfl (by omega) dL_puts_9 hL hK ?_ | refine g_istr Rw.t rfl (by omega) rfl (by omega) dL_puts_9 hL hK ?_ | refine g_istr Rw.d rfl (by omega) rfl (by omega) dL_puts_9 hL hK ?_ | refine g_istr Rw.a rfl (by omega) rfl (by omega) dL_puts_9 hL hK ?_ | refine g_istr Rw.b rfl (by omega) rfl (by omega) dL_puts_9 hL hK ?_ | refine g_istr Rw.c rfl (by omega) rfl (by omega) dL_puts_9 hL hK ?_
  intro h hL hK
  refine g_ald0 dL_puts_10 ?_
  refine g_iconst (v := nI 2) dL_puts_11 (by decide +kernel) ?_
  refine g_ild4 dL_puts_12 ?_
  show Go _ _ _ _ _ _ 14 _ _
  refine g_iconst (v := nI 1) dL_puts_14 (by decide +kernel) ?_
  refine g_icmp_ne_f (tgt := 22) dL_puts_15 (by decide) (by decide) ?_
  refine g_ild3 dL_puts_18 ?_
  refine g_goto (tgt := 24) dL_puts_19 (by decide) ?_
  first | refine g_istr Rw.g rfl (by omega) rfl (by omega) dL_puts_24 hL hK ?_ | refine g_istr Rw.t rfl (by omega) rfl (by omega) dL_puts_24 hL hK ?_ | refine g_istr Rw.d rfl (by omega) rfl (by omega) dL_puts_24 hL hK ?_ | refine g_istr Rw.a rfl (by omega) rfl (by omega) dL_puts_24 hL hK ?_ | refine g_istr Rw.b rfl (by omega) rfl (by omega) dL_puts_24 hL hK ?_ | refine g_istr Rw.c rfl (by omega) rfl (by omega) dL_puts_24 hL hK ?_
  intro h hL hK
  refine g_ild5 dL_puts_25 ?_
  show Go _ _ _ _ _ _ 27 _ _
  refine g_if_lt_f (tgt := 52) dL_puts_27 (by decide) (Int32.not_lt.mpr (nI_pos' (by omega))) ?_
  refine g_ald2 dL_puts_30 ?_
  refine g_bipush (v := nI 7) dL_puts_31 (by decide +kernel) ?_
  refine g_ild5 dL_puts_33 ?_
  first | refine g_imul_n dL_puts_35 ?_ | refine g_imul dL_puts_35 ?_
  refine g_bipush (v := nI 6) dL_puts_36 (by decide +kernel) ?_
  show Go _ _ _ _ _ _ 38 _ _
  first | refine g_iadd_n dL_puts_38 ?_ | refine g_iadd dL_puts_38 ?_
  refine g_ild4 dL_puts_39 ?_
  refine g_iconst (v := nI 2) dL_puts_41 (by decide +kernel) ?_
  refine g_icmp_ne_t (tgt := 49) dL_puts_42 (by decide) (by decide) ?_
  refine g_bipush (v := -5) dL_puts_49 (by decide +kernel) ?_
  first | refine g_istr Rw.g rfl (by omega) rfl (by omega) dL_puts_51 hL hK ?_ | refine g_istr Rw.t rfl (by omega) rfl (by omega) dL_puts_51 hL hK ?_ | refine g_istr Rw.d rfl (by omega) rfl (by omega) dL_puts_51 hL hK ?_ | refine g_istr Rw.a rfl (by omega) rfl (by omega) dL_puts_51 hL hK ?_ | refine g_istr Rw.b rfl (by omega) rfl (by omega) dL_puts_51 hL hK ?_ | refine g_istr Rw.c rfl (by omega) rfl (by omega) dL_puts_51 hL hK ?_
  intro h hL hK
  show Go _ _ _ _ _ _ 52 _ _
  refine g_iconst (v := nI 1) dL_puts_52 (by decide +kernel) ?_
  exact g_zret rfl rfl dL_puts_53 ⟨1, rfl, rfl, hL, hK⟩
/-- the law's going -/
theorem l_isThere (M : Mo) (ni nd nj j s : Nat) (hL : Lw h M) (hI : IS M ni nd nj) (hh : Ihd M ni) (hs : s < 24) (hj : j < nj) (h3 : M.1 0 3 = nI j) : Ct G mL_isThere [ga G 449, ga G 450, ga G 452, ga G 454, .int (nI s)] h 456 456 (rI (fun r h' => r = (mGo M j s).2 ∧ Lw h' (mGo M j s).1 ∧ KR h h')) := by
  obtain ⟨⟨hi8, hd, hj10⟩, hp, hH, hC, hf, hu, hJb, hsl⟩ := id hI
  have hK := KR.rf h
  have hg8 := hf.2.1
  have hg9 := hf.2.2
  obtain ⟨hcG, hc0⟩ := cost_Gd (M := M) hs hp
  have hx := fl_add hg8 hcG
  obtain ⟨c1, c2, c3⟩ := cost_l (ad s (pl M)) (ad_lt hs hp.1)
  have hal := ad_lt hs hp.1
  refine Ct.of rfl (by simp [Value.category, ga]) (Nat.le_of_ble_eq_true rfl) (Nat.le_refl _) ?_
  show Go _ _ _ _ _ _ _ [some (ga G 449), some (ga G 450), some (ga G 452), some (ga G 454), some (.int (nI s)), none, none, none] []
  have k39 : Go G mL_isThere 456 (rI (fun r h' => r = (mGo M j s).2 ∧ Lw h' (mGo M j s).1 ∧ KR h h')) h 456 39 [some (ga G 449), some (ga G 450), some (ga G 452), some (ga G 454), some (.int (nI s)), some (.int (nI (ad s (pl M)))), none, none] [.float (ldf M)] := by
    by_cases h0 : ad s (pl M) = 0
    · have e : mGo M j s = (M, 1) := if_pos h0
      rw [e]
      refine g_fst6 (by decide) dL_isThere_39 ?_
      refine g_ald2 dL_isThere_41 ?_
      refine g_bipush (v := nI 8) dL_isThere_42 (by decide +kernel) ?_
      refine g_dldr rfl (by omega) rfl (by omega) dL_isThere_44 hL rfl ?_
      refine g_d2f dL_isThere_45 (by rw [fl_rt hg8]; exact fl_n32 hg8) (fl_rt hg8) ?_
      show Go _ _ _ _ _ _ 46 _ _
      refine g_ild5 dL_isThere_46 ?_
      refine g_i2f dL_isThere_48 ?_
      refine g_fld6 dL_isThere_49 ?_
      refine g_fmul dL_isThere_51 (fl_n32 hcG) ?_
      refine g_fadd dL_isThere_52 (fl_n32 hx) ?_
      refine g_fst7 (by decide) dL_isThere_53 ?_
      show Go _ _ _ _ _ _ 55 _ _
      refine g_ild5 dL_isThere_55 ?_
      refine g_if_le_t (tgt := 95) dL_isThere_57 (by decide) (by rw [h0]; decide) ?_
      refine g_ild5 dL_isThere_95 ?_
      refine g_if_le_t (tgt := 121) dL_isThere_97 (by decide) (by rw [h0]; decide) ?_
      refine g_iconst (v := nI 1) dL_isThere_121 (by decide +kernel) ?_
      exact g_zret rfl rfl dL_isThere_122 ⟨1, rfl, rfl, hL, hK⟩
    · have hn : ¬ nI (ad s (pl M)) ≤ 0 := fun z => h0 (by have := (nI_leI (a := ad s (pl M)) (b := 0) (by omega) (by omega)).mp z; omega)
      by_cases hc : (M.2 9).toNat < (FP.fadd (M.2 8) (cost M s)).toNat
      · have e : mGo M j s = (mPlea M j, 0) := by unfold mGo; rw [if_neg h0, if_pos hc]
        rw [e]
        refine g_fst6 (by decide) dL_isThere_39 ?_
        refine g_ald2 dL_isThere_41 ?_
        refine g_bipush (v := nI 8) dL_isThere_42 (by decide +kernel) ?_
        refine g_dldr rfl (by omega) rfl (by omega) dL_isThere_44 hL rfl ?_
        refine g_d2f dL_isThere_45 (by rw [fl_rt hg8]; exact fl_n32 hg8) (fl_rt hg8) ?_
        show Go _ _ _ _ _ _ 46 _ _
        refine g_ild5 dL_isThere_46 ?_
        refine g_i2f dL_isThere_48 ?_
        refine g_fld6 dL_isThere_49 ?_
        refine g_fmul dL_isThere_51 (fl_n32 hcG) ?_
        refine g_fadd dL_isThere_52 (fl_n32 hx) ?_
        refine g_fst7 (by decide) dL_isThere_53 ?_
        show Go _ _ _ _ _ _ 55 _ _
        refine g_ild5 dL_isThere_55 ?_
        refine g_if_le_f (tgt := 95) dL_isThere_57 (by decide) hn ?_
        refine g_fld7 dL_isThere_60 ?_
        refine g_f2d dL_isThere_62 (fl_n64 hx) ?_
        refine g_ald2 dL_isThere_63 ?_
        refine g_bipush (v := nI 9) dL_isThere_64 (by decide +kernel) ?_
        show Go _ _ _ _ _ _ 66 _ _
        refine g_dldr rfl (by omega) rfl (by omega) dL_isThere_66 hL rfl ?_
        refine g_dcmp dL_isThere_67 ?_
        rw [show FP.fadd (M.2 8) (FP.fmul (FP.i2f (nI (ad s (pl M)))) (ldf M)) = FP.fadd (M.2 8) (cost M s) from rfl, fl_dcmp hx hg9]
        refine g_if_le_f (tgt := 95) dL_isThere_68 (by decide) (Int32.not_le.mpr (Int32.not_le.mp (fun z => absurd (cmpv_le.mp z) (by omega)))) ?_
        refine g_ald0 dL_isThere_71 ?_
        refine g_bipush (v := nI 15) dL_isThere_72 (by decide +kernel) ?_
        refine g_dup2 dL_isThere_74 rfl rfl ?_
        show Go _ _ _ _ _ _ 75 _ _
        first | refine g_ildr Rw.g rfl (by omega) rfl (by omega) dL_isThere_75 hL rfl ?_ | refine g_ildr Rw.t rfl (by omega) rfl (by omega) dL_isThere_75 hL rfl ?_ | refine g_ildr Rw.d rfl (by omega) rfl (by omega) dL_isThere_75 hL rfl ?_ | refine g_ildr Rw.a rfl (by omega) rfl (by omega) dL_isThere_75 hL rfl ?_ | refine g_ildr Rw.b rfl (by omega) rfl (by omega) dL_isThere_75 hL rfl ?_ | refine g_ildr Rw.c rfl (by omega) rfl (by omega) dL_isThere_75 hL rfl ?_
        refine g_iconst (v := nI 1) dL_isThere_76 (by decide +kernel) ?_
        refine g_iadd dL_isThere_77 ?_
        first | refine g_istr Rw.g rfl (by omega) rfl (by omega) dL_isThere_78 hL hK ?_ | refine g_istr Rw.t rfl (by omega) rfl (by omega) dL_isThere_78 hL hK ?_ | refine g_istr Rw.d rfl (by omega) rfl (by omega) dL_isThere_78 hL hK ?_ | refine g_istr Rw.a rfl (by omega) rfl (by omega) dL_isThere_78 hL hK ?_ | refine g_istr Rw.b rfl (by omega) rfl (by omega) dL_isThere_78 hL hK ?_ | refine g_istr Rw.c rfl (by omega) rfl (by omega) dL_isThere_78 hL hK ?_
        intro h hL hK
        refine g_ald3 dL_isThere_79 ?_
        refine g_bipush (v := nI 6) dL_isThere_80 (by decide +kernel) ?_
        show Go _ _ _ _ _ _ 82 _ _
        refine g_ald0 dL_isThere_82 ?_
        refine g_iconst (v := nI 3) dL_isThere_83 (by decide +kernel) ?_
        first | refine g_ildr Rw.g rfl (by omega) rfl (by omega) dL_isThere_84 hL (v := (nI j)) (by simp (disch := omega) only [up_ne]; exact h3) ?_ | refine g_ildr Rw.t rfl (by omega) rfl (by omega) dL_isThere_84 hL (v := (nI j)) (by simp (disch := omega) only [up_ne]; exact h3) ?_ | refine g_ildr Rw.d rfl (by omega) rfl (by omega) dL_isThere_84 hL (v := (nI j)) (by simp (disch := omega) only [up_ne]; exact h3) ?_ | refine g_ildr Rw.a rfl (by omega) rfl (by omega) dL_isThere_84 hL (v := (nI j)) (by simp (disch := omega) only [up_ne]; exact h3) ?_ | refine g_ildr Rw.b rfl (by omega) rfl (by omega) dL_isThere_84 hL (v := (nI j)) (by simp (disch := omega) only [up_ne]; exact h3) ?_ | refine g_ildr Rw.c rfl (by omega) rfl (by omega) dL_isThere_84 hL (v := (nI j)) (by simp (disch := omega) only [up_ne]; exact h3) ?_
        first | refine g_imul_n dL_isThere_85 ?_ | refine g_imul dL_isThere_85 ?_
        refine g_iconst (v := nI 2) dL_isThere_86 (by decide +kernel) ?_
        first | refine g_iadd_n dL_isThere_87 ?_ | refine g_iadd dL_isThere_87 ?_
        show Go _ _ _ _ _ _ 88 _ _
        refine g_dup2 dL_isThere_88 rfl rfl ?_
        first | refine g_ildr Rw.g rfl (by omega) rfl (by omega) dL_isThere_89 hL (v := (M.1 4 (6 * j + 2))) (by simp (disch := omega) only [up_ne]) ?_ | refine g_ildr Rw.t rfl (by omega) rfl (by omega) dL_isThere_89 hL (v := (M.1 4 (6 * j + 2))) (by simp (disch := omega) only [up_ne]) ?_ | refine g_ildr Rw.d rfl (by omega) rfl (by omega) dL_isThere_89 hL (v := (M.1 4 (6 * j + 2))) (by simp (disch := omega) only [up_ne]) ?_ | refine g_ildr Rw.a rfl (by omega) rfl (by omega) dL_isThere_89 hL (v := (M.1 4 (6 * j + 2))) (by simp (disch := omega) only [up_ne]) ?_ | refine g_ildr Rw.b rfl (by omega) rfl (by omega) dL_isThere_89 hL (v := (M.1 4 (6 * j + 2))) (by simp (disch := omega) only [up_ne]) ?_ | refine g_ildr Rw.c rfl (by omega) rfl (by omega) dL_isThere_89 hL (v := (M.1 4 (6 * j + 2))) (by simp (disch := omega) only [up_ne]) ?_
        refine g_iconst (v := nI 1) dL_isThere_90 (by decide +kernel) ?_
        refine g_iadd dL_isThere_91 ?_
        first | refine g_istr Rw.g rfl (by omega) rfl (by omega) dL_isThere_92 hL hK ?_ | refine g_istr Rw.t rfl (by omega) rfl (by omega) dL_isThere_92 hL hK ?_ | refine g_istr Rw.d rfl (by omega) rfl (by omega) dL_isThere_92 hL hK ?_ | refine g_istr Rw.a rfl (by omega) rfl (by omega) dL_isThere_92 hL hK ?_ | refine g_istr Rw.b rfl (by omega) rfl (by omega) dL_isThere_92 hL hK ?_ | refine g_istr Rw.c rfl (by omega) rfl (by omega) dL_isThere_92 hL hK ?_
        intro h hL hK
        refine g_iconst (v := nI 0) dL_isThere_93 (by decide +kernel) ?_
        show Go _ _ _ _ _ _ 94 _ _
        exact g_zret rfl rfl dL_isThere_94 ⟨0, rfl, rfl, hL, hK⟩
      · have e : mGo M j s = (mWent M s, 1) := by unfold mGo; rw [if_neg h0, if_neg hc]
        rw [e]
        refine g_fst6 (by decide) dL_isThere_39 ?_
        refine g_ald2 dL_isThere_41 ?_
        refine g_bipush (v := nI 8) dL_isThere_42 (by decide +kernel) ?_
        refine g_dldr rfl (by omega) rfl (by omega) dL_isThere_44 hL rfl ?_
        refine g_d2f dL_isThere_45 (by rw [fl_rt hg8]; exact fl_n32 hg8) (fl_rt hg8) ?_
        show Go _ _ _ _ _ _ 46 _ _
        refine g_ild5 dL_isThere_46 ?_
        refine g_i2f dL_isThere_48 ?_
        refine g_fld6 dL_isThere_49 ?_
        refine g_fmul dL_isThere_51 (fl_n32 hcG) ?_
        refine g_fadd dL_isThere_52 (fl_n32 hx) ?_
        refine g_fst7 (by decide) dL_isThere_53 ?_
        show Go _ _ _ _ _ _ 55 _ _
        refine g_ild5 dL_isThere_55 ?_
        refine g_if_le_f (tgt := 95) dL_isThere_57 (by decide) hn ?_
        refine g_fld7 dL_isThere_60 ?_
        refine g_f2d dL_isThere_62 (fl_n64 hx) ?_
        refine g_ald2 dL_isThere_63 ?_
        refine g_bipush (v := nI 9) dL_isThere_64 (by decide +kernel) ?_
        show Go _ _ _ _ _ _ 66 _ _
        refine g_dldr rfl (by omega) rfl (by omega) dL_isThere_66 hL rfl ?_
        refine g_dcmp dL_isThere_67 ?_
        rw [show FP.fadd (M.2 8) (FP.fmul (FP.i2f (nI (ad s (pl M)))) (ldf M)) = FP.fadd (M.2 8) (cost M s) from rfl, fl_dcmp hx hg9]
        refine g_if_le_t (tgt := 95) dL_isThere_68 (by decide) (cmpv_le.mpr (by omega)) ?_
        refine g_ild5 dL_isThere_95 ?_
        refine g_if_le_f (tgt := 121) dL_isThere_97 (by decide) hn ?_
        refine g_ald2 dL_isThere_100 ?_
        show Go _ _ _ _ _ _ 101 _ _
        refine g_bipush (v := nI 8) dL_isThere_101 (by decide +kernel) ?_
        refine g_fld7 dL_isThere_103 ?_
        refine g_f2d dL_isThere_105 (fl_n64 hx) ?_
        refine g_dstr rfl (by omega) rfl (by omega) dL_isThere_106 hL hK ?_
        intro h hL hK
        refine g_ald0 dL_isThere_107 ?_
        refine g_iconst (v := nI 1) dL_isThere_108 (by decide +kernel) ?_
        show Go _ _ _ _ _ _ 109 _ _
        refine g_ild4 dL_isThere_109 ?_
        first | refine g_istr Rw.g rfl (by omega) rfl (by omega) dL_isThere_111 hL hK ?_ | refine g_istr Rw.t rfl (by omega) rfl (by omega) dL_isThere_111 hL hK ?_ | refine g_istr Rw.d rfl (by omega) rfl (by omega) dL_isThere_111 hL hK ?_ | refine g_istr Rw.a rfl (by omega) rfl (by omega) dL_isThere_111 hL hK ?_ | refine g_istr Rw.b rfl (by omega) rfl (by omega) dL_isThere_111 hL hK ?_ | refine g_istr Rw.c rfl (by omega) rfl (by omega) dL_isThere_111 hL hK ?_
        intro h hL hK
        refine g_ald0 dL_isThere_112 ?_
        refine g_bipush (v := nI 16) dL_isThere_113 (by decide +kernel) ?_
        refine g_dup2 dL_isThere_115 rfl rfl ?_
        first | refine g_ildr Rw.g rfl (by omega) rfl (by omega) dL_isThere_116 hL (v := (M.1 0 16)) (by simp (disch := omega) only [up_ne, uf_i]) ?_ | refine g_ildr Rw.t rfl (by omega) rfl (by omega) dL_isThere_116 hL (v := (M.1 0 16)) (by simp (disch := omega) only [up_ne, uf_i]) ?_ | refine g_ildr Rw.d rfl (by omega) rfl (by omega) dL_isThere_116 hL (v := (M.1 0 16)) (by simp (disch := omega) only [up_ne, uf_i]) ?_ | refine g_ildr Rw.a rfl (by omega) rfl (by omega) dL_isThere_116 hL (v := (M.1 0 16)) (by simp (disch := omega) only [up_ne, uf_i]) ?_ | refine g_ildr Rw.b rfl (by omega) rfl (by omega) dL_isThere_116 hL (v := (M.1 0 16)) (by simp (disch := omega) only [up_ne, uf_i]) ?_ | refine g_ildr Rw.c rfl (by omega) rfl (by omega) dL_isThere_116 hL (v := (M.1 0 16)) (by simp (disch := omega) only [up_ne, uf_i]) ?_
        show Go _ _ _ _ _ _ 117 _ _
        refine g_ild5 dL_isThere_117 ?_
        refine g_iadd dL_isThere_119 ?_
        first | refine g_istr Rw.g rfl (by omega) rfl (by omega) dL_isThere_120 hL hK ?_ | refine g_istr Rw.t rfl (by omega) rfl (by omega) dL_isThere_120 hL hK ?_ | refine g_istr Rw.d rfl (by omega) rfl (by omega) dL_isThere_120 hL hK ?_ | refine g_istr Rw.a rfl (by omega) rfl (by omega) dL_isThere_120 hL hK ?_ | refine g_istr Rw.b rfl (by omega) rfl (by omega) dL_isThere_120 hL hK ?_ | refine g_istr Rw.c rfl (by omega) rfl (by omega) dL_isThere_120 hL hK ?_
        intro h hL hK
        refine g_iconst (v := nI 1) dL_isThere_121 (by decide +kernel) ?_
        exact g_zret rfl rfl dL_isThere_122 ⟨1, rfl, rfl, hL, hK⟩
  rcases hh with h5 | ⟨i, hi, h5⟩
  · have hl : ldf M = 1056964608 := by unfold ldf; rw [if_pos (by rw [h5]; decide)]
    rw [hl] at k39
    refine g_ald0 dL_isThere_0 ?_
    refine g_iconst (v := nI 1) dL_isThere_1 (by decide +kernel) ?_
    first | refine g_ildr Rw.g rfl (by omega) rfl (by omega) dL_isThere_2 hL (v := (nI (pl M))) hp.2 ?_ | refine g_ildr Rw.t rfl (by omega) rfl (by omega) dL_isThere_2 hL (v := (nI (pl M))) hp.2 ?_ | refine g_ildr Rw.d rfl (by omega) rfl (by omega) dL_isThere_2 hL (v := (nI (pl M))) hp.2 ?_ | refine g_ildr Rw.a rfl (by omega) rfl (by omega) dL_isThere_2 hL (v := (nI (pl M))) hp.2 ?_ | refine g_ildr Rw.b rfl (by omega) rfl (by omega) dL_isThere_2 hL (v := (nI (pl M))) hp.2 ?_ | refine g_ildr Rw.c rfl (by omega) rfl (by omega) dL_isThere_2 hL (v := (nI (pl M))) hp.2 ?_
    refine g_ild4 dL_isThere_3 ?_
    refine g_callS2 (l_away (h := h) _ _ hp.1 hs) mw_3_53 ok_L_away ⟨by decide, by decide⟩ (by omega) (by omega) (Nat.le_of_ble_eq_true rfl) dL_isThere_5 (dI_K ?_)
    rw [ad_sy (pl M) s]
    show Go _ _ _ _ _ _ 8 _ _
    refine g_ist5 (by decide) dL_isThere_8 ?_
    refine g_ald0 dL_isThere_10 ?_
    refine g_iconst (v := nI 2) dL_isThere_11 (by decide +kernel) ?_
    first | refine g_ildr Rw.g rfl (by omega) rfl (by omega) dL_isThere_12 hL (v := (-5)) h5 ?_ | refine g_ildr Rw.t rfl (by omega) rfl (by omega) dL_isThere_12 hL (v := (-5)) h5 ?_ | refine g_ildr Rw.d rfl (by omega) rfl (by omega) dL_isThere_12 hL (v := (-5)) h5 ?_ | refine g_ildr Rw.a rfl (by omega) rfl (by omega) dL_isThere_12 hL (v := (-5)) h5 ?_ | refine g_ildr Rw.b rfl (by omega) rfl (by omega) dL_isThere_12 hL (v := (-5)) h5 ?_ | refine g_ildr Rw.c rfl (by omega) rfl (by omega) dL_isThere_12 hL (v := (-5)) h5 ?_
    refine g_if_ge_f (tgt := 21) dL_isThere_13 (by decide) (by decide) ?_
    refine g_ldcf mw_4_6 dL_isThere_16 ?_
    show Go _ _ _ _ _ _ 18 _ _
    refine g_goto (tgt := 39) dL_isThere_18 (by decide) ?_
    exact k39
  · have hl0 : ¬ M.1 0 2 < 0 := by rw [h5]; exact nI_pos (by omega)
    have hl1 : (M.1 0 2).toNatClampNeg = i := by rw [h5]; exact nI_clamp (by omega)
    have la : ¬ M.1 1 (6 * i) = 1 → ldf M = 1065353216 := fun z => by unfold ldf; rw [if_neg hl0, hl1, if_neg z]
    have lb : M.1 1 (6 * i) = 1 → ldf M = 1069547520 := fun z => by unfold ldf; rw [if_neg hl0, hl1, if_pos z]
    refine g_ald0 dL_isThere_0 ?_
    refine g_iconst (v := nI 1) dL_isThere_1 (by decide +kernel) ?_
    first | refine g_ildr Rw.g rfl (by omega) rfl (by omega) dL_isThere_2 hL (v := (nI (pl M))) hp.2 ?_ | refine g_ildr Rw.t rfl (by omega) rfl (by omega) dL_isThere_2 hL (v := (nI (pl M))) hp.2 ?_ | refine g_ildr Rw.d rfl (by omega) rfl (by omega) dL_isThere_2 hL (v := (nI (pl M))) hp.2 ?_ | refine g_ildr Rw.a rfl (by omega) rfl (by omega) dL_isThere_2 hL (v := (nI (pl M))) hp.2 ?_ | refine g_ildr Rw.b rfl (by omega) rfl (by omega) dL_isThere_2 hL (v := (nI (pl M))) hp.2 ?_ | refine g_ildr Rw.c rfl (by omega) rfl (by omega) dL_isThere_2 hL (v := (nI (pl M))) hp.2 ?_
    refine g_ild4 dL_isThere_3 ?_
    refine g_callS2 (l_away (h := h) _ _ hp.1 hs) mw_3_53 ok_L_away ⟨by decide, by decide⟩ (by omega) (by omega) (Nat.le_of_ble_eq_true rfl) dL_isThere_5 (dI_K ?_)
    rw [ad_sy (pl M) s]
    show Go _ _ _ _ _ _ 8 _ _
    refine g_ist5 (by decide) dL_isThere_8 ?_
    refine g_ald0 dL_isThere_10 ?_
    refine g_iconst (v := nI 2) dL_isThere_11 (by decide +kernel) ?_
    first | refine g_ildr Rw.g rfl (by omega) rfl (by omega) dL_isThere_12 hL (v := (nI i)) h5 ?_ | refine g_ildr Rw.t rfl (by omega) rfl (by omega) dL_isThere_12 hL (v := (nI i)) h5 ?_ | refine g_ildr Rw.d rfl (by omega) rfl (by omega) dL_isThere_12 hL (v := (nI i)) h5 ?_ | refine g_ildr Rw.a rfl (by omega) rfl (by omega) dL_isThere_12 hL (v := (nI i)) h5 ?_ | refine g_ildr Rw.b rfl (by omega) rfl (by omega) dL_isThere_12 hL (v := (nI i)) h5 ?_ | refine g_ildr Rw.c rfl (by omega) rfl (by omega) dL_isThere_12 hL (v := (nI i)) h5 ?_
    refine g_if_ge_t (tgt := 21) dL_isThere_13 (by decide) (Int32.not_lt.mp (nI_pos (by omega))) ?_
    refine g_ald1 dL_isThere_21 ?_
    show Go _ _ _ _ _ _ 22 _ _
    refine g_bipush (v := nI 6) dL_isThere_22 (by decide +kernel) ?_
    refine g_ald0 dL_isThere_24 ?_
    refine g_iconst (v := nI 2) dL_isThere_25 (by decide +kernel) ?_
    first | refine g_ildr Rw.g rfl (by omega) rfl (by omega) dL_isThere_26 hL (v := (nI i)) h5 ?_ | refine g_ildr Rw.t rfl (by omega) rfl (by omega) dL_isThere_26 hL (v := (nI i)) h5 ?_ | refine g_ildr Rw.d rfl (by omega) rfl (by omega) dL_isThere_26 hL (v := (nI i)) h5 ?_ | refine g_ildr Rw.a rfl (by omega) rfl (by omega) dL_isThere_26 hL (v := (nI i)) h5 ?_ | refine g_ildr Rw.b rfl (by omega) rfl (by omega) dL_isThere_26 hL (v := (nI i)) h5 ?_ | refine g_ildr Rw.c rfl (by omega) rfl (by omega) dL_isThere_26 hL (v := (nI i)) h5 ?_
    first | refine g_imul_n dL_isThere_27 ?_ | refine g_imul dL_isThere_27 ?_
    first | refine g_ildr Rw.g rfl (by omega) rfl (by omega) dL_isThere_28 hL rfl ?_ | refine g_ildr Rw.t rfl (by omega) rfl (by omega) dL_isThere_28 hL rfl ?_ | refine g_ildr Rw.d rfl (by omega) rfl (by omega) dL_isThere_28 hL rfl ?_ | refine g_ildr Rw.a rfl (by omega) rfl (by omega) dL_isThere_28 hL rfl ?_ | refine g_ildr Rw.b rfl (by omega) rfl (by omega) dL_isThere_28 hL rfl ?_ | refine g_ildr Rw.c rfl (by omega) rfl (by omega) dL_isThere_28 hL rfl ?_
    show Go _ _ _ _ _ _ 29 _ _
    refine g_iconst (v := nI 1) dL_isThere_29 (by decide +kernel) ?_
    refine g_icmp_ne (tgt := 38) dL_isThere_30 (by decide) (fun c_30 => ?_) (fun c_30 => ?_)
    · skip
      rw [la c_30] at k39
      refine g_fconst1 dL_isThere_38 ?_
      exact k39
    · skip
      rw [lb c_30] at k39
      refine g_ldcf mw_4_7 dL_isThere_33 ?_
      refine g_goto (tgt := 39) dL_isThere_35 (by decide) ?_
      exact k39
end P35
