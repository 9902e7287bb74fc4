/-! ===== WHICH JOB BEGINS, WHAT A WAY COSTS ===== -/
def pl (M : Mo) : Nat := (M.1 0 1).toNatClampNeg
def Ip (M : Mo) : Prop := pl M < 24 ∧ M.1 0 1 = nI (pl M)
def Ihd (M : Mo) (ni : Nat) : Prop := M.1 0 2 = -5 ∨ ∃ i, i < ni ∧ M.1 0 2 = nI i
def ldf (M : Mo) : UInt32 := if M.1 0 2 < 0 then 1056964608 else if M.1 1 (6 * (M.1 0 2).toNatClampNeg) = 1 then 1069547520 else 1065353216
def cost (M : Mo) (s : Nat) : UInt32 := FP.fmul (FP.i2f (nI (ad s (pl M)))) (ldf M)
theorem cost_l : ∀ f, f < 24 → ((FP.fmul (FP.i2f (nI f)) 1056964608).toNat ≤ 2139095040 ∧ ((FP.fmul (FP.i2f (nI f)) 1056964608).toNat = 0 ↔ f = 0)) ∧ ((FP.fmul (FP.i2f (nI f)) 1069547520).toNat ≤ 2139095040 ∧ ((FP.fmul (FP.i2f (nI f)) 1069547520).toNat = 0 ↔ f = 0)) ∧ ((FP.fmul (FP.i2f (nI f)) 1065353216).toNat ≤ 2139095040 ∧ ((FP.fmul (FP.i2f (nI f)) 1065353216).toNat = 0 ↔ f = 0)) := by decide +kernel
theorem ad_lt {a b : Nat} (ha : a < 24) (hb : b < 24) : ad a b < 24 := by unfold ad; split <;> omega
theorem ad_sy (a b : Nat) : ad a b = ad b a := by unfold ad; split <;> split <;> omega
theorem cost_Gd {M : Mo} {s : Nat} (hs : s < 24) (hp : Ip M) : Gd (cost M s) ∧ ((cost M s).toNat = 0 ↔ ad s (pl M) = 0) := by
  obtain ⟨a, b, c⟩ := cost_l (ad s (pl M)) (ad_lt hs hp.1)
  unfold cost ldf Gd
  split
  · exact a
  · split
    · exact b
    · exact c
theorem Gd0 : Gd 0 := Nat.zero_le _
section P19
variable {G : Gl} {h : Hp}
theorem c_costTo (M : Mo) (ni nd nj s : Nat) (hR : Rb h M ni nd nj) (hi9 : ni ≤ 18) (hp : Ip M) (hh : Ihd M ni) (hC : Icl M ni) (hs : s < 24) : Ct G mX6_costTo [ga G 1, .int (nI s)] h 456 456 (dF (cost M s) h) := by
  obtain ⟨⟨-, hpl, hhd, -⟩, ⟨hn, -⟩, hI, -, -, -, -, hS⟩ := hR
  obtain ⟨c1, c2, c3⟩ := cost_l (ad s (pl M)) (ad_lt hs hp.1)
  refine Ct.of rfl (by simp [Value.category, ga]) (Nat.le_of_ble_eq_true rfl) (Nat.le_refl _) ?_
  show Go _ _ _ _ _ _ _ [some (ga G 1), some (.int (nI s)), none, none] []
  rcases hh with h5 | ⟨i, hi, h5⟩
  · have hl : ldf M = 1056964608 := by unfold ldf; rw [if_pos (by rw [h5]; decide)]
    refine g_ald0 dX6_costTo_0 ?_
    refine g_getQ fb_6_0 mw_2_0 (by first | rfl | assumption | (exact lay_item (by omega)) | (exact lay_drive (by omega)) | (exact lay_job (by omega))) (by omega) (sh_store hS) dX6_costTo_1 ?_
    refine g_ald0 dX6_costTo_4 ?_
    refine g_getI_a fb_6_7 mw_2_13 (by first | rfl | assumption | (exact lay_item (by omega)) | (exact lay_drive (by omega)) | (exact lay_job (by omega))) (by omega) dX6_costTo_5 (fun xx5 ee5 => ?_)
    obtain rfl : xx5 = (-5) := ee5.symm.trans (hhd.trans h5)
    refine g_callV1 (c_itemAt_n (h := h) (-5) ni hn (Or.inl (by decide))) mw_3_177 ok_X7_itemAt ⟨by decide, by decide⟩ (by first | rfl | assumption | (exact lay_item (by omega)) | (exact lay_drive (by omega)) | (exact lay_job (by omega))) (by omega) rfl (by omega) (by omega) (Nat.le_of_ble_eq_true rfl) dX6_costTo_8 (dQ_Kn ?_)
    show Go _ _ _ _ _ _ 11 _ _
    refine g_zst2 (by decide) dX6_costTo_11 ?_
    refine g_zld2 dX6_costTo_12 ?_
    refine g_ifnonnullN dX6_costTo_13 ?_
    refine g_ldcf mw_4_54 dX6_costTo_16 ?_
    refine g_goto (tgt := 34) dX6_costTo_18 (by decide) ?_
    refine g_fst3 (by decide) dX6_costTo_34 ?_
    show Go _ _ _ _ _ _ 35 _ _
    refine g_ild1 dX6_costTo_35 ?_
    refine g_ald0 dX6_costTo_36 ?_
    refine g_getI_a fb_6_6 mw_2_11 (by first | rfl | assumption | (exact lay_item (by omega)) | (exact lay_drive (by omega)) | (exact lay_job (by omega))) (by omega) dX6_costTo_37 (fun xx37 ee37 => ?_)
    obtain rfl : xx37 = (nI (pl M)) := ee37.symm.trans (hpl.trans hp.2)
    refine g_isub dX6_costTo_40 ?_
    refine g_abs mw_4_56 (by decide) (Nat.le_of_ble_eq_true rfl) dX6_costTo_41 ?_
    rw [abs_ni0 _ hs _ hp.1]
    refine g_i2f dX6_costTo_44 ?_
    show Go _ _ _ _ _ _ 45 _ _
    refine g_fld3 dX6_costTo_45 ?_
    refine g_fmul dX6_costTo_46 (fl_n32 c1.1) ?_
    exact g_fret rfl dX6_costTo_47 ⟨by unfold cost; rw [hl], rfl⟩
  · obtain ⟨e0, -⟩ := hI i hi
    have hl0 : ¬ M.1 0 2 < 0 := by rw [h5]; exact nI_pos (by omega)
    have hl1 : (M.1 0 2).toNatClampNeg = i := by rw [h5]; exact nI_clamp (by omega)
    refine g_ald0 dX6_costTo_0 ?_
    refine g_getQ fb_6_0 mw_2_0 (by first | rfl | assumption | (exact lay_item (by omega)) | (exact lay_drive (by omega)) | (exact lay_job (by omega))) (by omega) (sh_store hS) dX6_costTo_1 ?_
    refine g_ald0 dX6_costTo_4 ?_
    refine g_getI_a fb_6_7 mw_2_13 (by first | rfl | assumption | (exact lay_item (by omega)) | (exact lay_drive (by omega)) | (exact lay_job (by omega))) (by omega) dX6_costTo_5 (fun xx5 ee5 => ?_)
    obtain rfl : xx5 = (nI i) := ee5.symm.trans (hhd.trans h5)
    refine g_callV1 (c_itemAt (h := h) i ni hS.1 hn hi9 hi) mw_3_177 ok_X7_itemAt ⟨by decide, by decide⟩ (by first | rfl | assumption | (exact lay_item (by omega)) | (exact lay_drive (by omega)) | (exact lay_job (by omega))) (by omega) rfl (by omega) (by omega) (Nat.le_of_ble_eq_true rfl) dX6_costTo_8 (dQ_K ?_)
    show Go _ _ _ _ _ _ 11 _ _
    refine g_ast2 (by decide) dX6_costTo_11 ?_
    refine g_ald2 dX6_costTo_12 ?_
    refine g_ifnonnull (tgt := 21) dX6_costTo_13 (by decide) ?_
    refine g_ald2 dX6_costTo_21 ?_
    refine g_getI_a fb_2_0 mw_1_41 (by first | rfl | assumption | (exact lay_item (by omega)) | (exact lay_drive (by omega)) | (exact lay_job (by omega))) (by omega) dX6_costTo_22 (fun xx22 ee22 => ?_)
    obtain rfl : xx22 = (M.1 1 (6 * i)) := ee22.symm.trans e0
    refine g_if_eq (tgt := 33) dX6_costTo_25 (by decide) (fun c_25 => ?_) (fun c_25 => ?_)
    · skip
      show Go _ _ _ _ _ _ 33 _ _
      refine g_fconst1 dX6_costTo_33 ?_
      refine g_fst3 (by decide) dX6_costTo_34 ?_
      refine g_ild1 dX6_costTo_35 ?_
      refine g_ald0 dX6_costTo_36 ?_
      refine g_getI_a fb_6_6 mw_2_11 (by first | rfl | assumption | (exact lay_item (by omega)) | (exact lay_drive (by omega)) | (exact lay_job (by omega))) (by omega) dX6_costTo_37 (fun xx37 ee37 => ?_)
      obtain rfl : xx37 = (nI (pl M)) := ee37.symm.trans (hpl.trans hp.2)
      refine g_isub dX6_costTo_40 ?_
      show Go _ _ _ _ _ _ 41 _ _
      refine g_abs mw_4_56 (by decide) (Nat.le_of_ble_eq_true rfl) dX6_costTo_41 ?_
      rw [abs_ni0 _ hs _ hp.1]
      refine g_i2f dX6_costTo_44 ?_
      refine g_fld3 dX6_costTo_45 ?_
      refine g_fmul dX6_costTo_46 (fl_n32 c3.1) ?_
      exact g_fret rfl dX6_costTo_47 ⟨by unfold cost ldf; rw [if_neg hl0, hl1, if_neg (by rw [c_25]; decide)]; rfl, rfl⟩
    · skip
      refine g_ldcf mw_4_55 dX6_costTo_28 ?_
      show Go _ _ _ _ _ _ 30 _ _
      refine g_goto (tgt := 34) dX6_costTo_30 (by decide) ?_
      refine g_fst3 (by decide) dX6_costTo_34 ?_
      refine g_ild1 dX6_costTo_35 ?_
      refine g_ald0 dX6_costTo_36 ?_
      refine g_getI_a fb_6_6 mw_2_11 (by first | rfl | assumption | (exact lay_item (by omega)) | (exact lay_drive (by omega)) | (exact lay_job (by omega))) (by omega) dX6_costTo_37 (fun xx37 ee37 => ?_)
      obtain rfl : xx37 = (nI (pl M)) := ee37.symm.trans (hpl.trans hp.2)
      refine g_isub dX6_costTo_40 ?_
      show Go _ _ _ _ _ _ 41 _ _
      refine g_abs mw_4_56 (by decide) (Nat.le_of_ble_eq_true rfl) dX6_costTo_41 ?_
      rw [abs_ni0 _ hs _ hp.1]
      refine g_i2f dX6_costTo_44 ?_
      refine g_fld3 dX6_costTo_45 ?_
      refine g_fmul dX6_costTo_46 (fl_n32 c2.1) ?_
      exact g_fret rfl dX6_costTo_47 ⟨by unfold cost ldf; rw [if_neg hl0, hl1, if_pos ((hC i hi).resolve_left c_25)], rfl⟩
theorem c_isAllowed (M : Mo) (x y : UInt32) (g0 : Gd x) (g1 : Gd y) (g2 : Gd (M.2 9)) (hl : h.2.1 1 4 = M.2 9) : Ct G mX6_isAllowed [ga G 1, .float x, .float y] h 456 456 (rB (y.toNat = 0 ∨ (FP.fadd x y).toNat ≤ (M.2 9).toNat) h) := by
  refine Ct.of rfl (by simp [Value.category, ga]) (Nat.le_of_ble_eq_true rfl) (Nat.le_refl _) ?_
  show Go _ _ _ _ _ _ _ [some (ga G 1), some (.float x), some (.float y)] []
  refine g_fld2 dX6_isAllowed_0 ?_
  refine g_fconst0 dX6_isAllowed_1 ?_
  refine g_fcmp dX6_isAllowed_2 ?_
  rw [show FP.fcmp y FP.fconst0 = some (compare y.toNat 0) from fl_cmp g1 Gd0]
  refine g_if_eq (tgt := 17) dX6_isAllowed_3 (by decide) (fun c_3 => ?_) (fun c_3 => ?_)
  · skip
    refine g_iconst (v := nI 1) dX6_isAllowed_17 (by decide +kernel) ?_
    show Go _ _ _ _ _ _ 18 _ _
    refine g_goto (tgt := 22) dX6_isAllowed_18 (by decide) ?_
    exact g_zret rfl rfl dX6_isAllowed_22 ⟨by first | exact Or.inl ⟨rfl, Or.inl (cmpv_eq.mp c_3)⟩ | exact Or.inl ⟨rfl, Or.inr (cmpv_le.mp (Int32.not_lt.mp c_14))⟩ | exact Or.inr ⟨rfl, fun q => q.elim (fun q => c_3 (cmpv_eq.mpr q)) (fun q => absurd (cmpv_le.mpr q) (Int32.not_le.mpr c_14))⟩, rfl⟩
  · skip
    refine g_fld1 dX6_isAllowed_6 ?_
    refine g_fld2 dX6_isAllowed_7 ?_
    refine g_fadd dX6_isAllowed_8 (fl_n32 (fl_add g0 g1)) ?_
    refine g_ald0 dX6_isAllowed_9 ?_
    show Go _ _ _ _ _ _ 10 _ _
    refine g_getF_a fb_6_4 mw_2_7 (by first | rfl | assumption | (exact lay_item (by omega)) | (exact lay_drive (by omega)) | (exact lay_job (by omega))) (by omega) dX6_isAllowed_10 (fun xx10 ee10 => ?_)
    obtain rfl : xx10 = (M.2 9) := ee10.symm.trans hl
    refine g_fcmp dX6_isAllowed_13 ?_
    rw [fl_cmp (fl_add g0 g1) g2]
    refine g_if_gt (tgt := 21) dX6_isAllowed_14 (by decide) (fun c_14 => ?_) (fun c_14 => ?_)
    · skip
      refine g_iconst (v := nI 0) dX6_isAllowed_21 (by decide +kernel) ?_
      exact g_zret rfl rfl dX6_isAllowed_22 ⟨by first | exact Or.inl ⟨rfl, Or.inl (cmpv_eq.mp c_3)⟩ | exact Or.inl ⟨rfl, Or.inr (cmpv_le.mp (Int32.not_lt.mp c_14))⟩ | exact Or.inr ⟨rfl, fun q => q.elim (fun q => c_3 (cmpv_eq.mpr q)) (fun q => absurd (cmpv_le.mpr q) (Int32.not_le.mpr c_14))⟩, rfl⟩
    · skip
      refine g_iconst (v := nI 1) dX6_isAllowed_17 (by decide +kernel) ?_
      show Go _ _ _ _ _ _ 18 _ _
      refine g_goto (tgt := 22) dX6_isAllowed_18 (by decide) ?_
      exact g_zret rfl rfl dX6_isAllowed_22 ⟨by first | exact Or.inl ⟨rfl, Or.inl (cmpv_eq.mp c_3)⟩ | exact Or.inl ⟨rfl, Or.inr (cmpv_le.mp (Int32.not_lt.mp c_14))⟩ | exact Or.inr ⟨rfl, fun q => q.elim (fun q => c_3 (cmpv_eq.mpr q)) (fun q => absurd (cmpv_le.mpr q) (Int32.not_le.mpr c_14))⟩, rfl⟩
theorem c_groupOf (M : Mo) (ni nd nj j : Nat) (hR : Rb h M ni nd nj) (hj9 : nj ≤ 30) (hd9 : nd ≤ 4) (hJ : Ijb M ni nd nj) (hf : Ifl M nd) (hj : j < nj) : Ct G mX6_groupOf [ga G 1, ga G (29 + j)] h 456 456 (dI (nI (grp M j)) h) := by
  obtain ⟨-, ⟨-, hnd, -, h6, h7⟩, -, hD, hJb, -, -, hS⟩ := hR
  obtain ⟨⟨e0, e1, -⟩, -⟩ := hJb j hj
  refine Ct.of rfl (by simp [Value.category, ga]) (Nat.le_of_ble_eq_true rfl) (Nat.le_refl _) ?_
  show Go _ _ _ _ _ _ _ [some (ga G 1), some (ga G (29 + j)), none] []
  by_cases hk : M.1 3 (6 * j) = 1
  · obtain ⟨k, hk4, ht⟩ : ∃ k, k < nd ∧ M.1 3 (6 * j + 1) = nI k := by
      rcases hJ j hj with ⟨q, -⟩ | ⟨-, q⟩ | ⟨q, -⟩
      · rw [q] at hk; exact absurd hk (by decide)
      · exact q
      · rw [q] at hk; exact absurd hk (by decide)
    obtain ⟨-, d1, d2, -⟩ := hD k hk4
    obtain ⟨f1, f2⟩ := hf.1 k hk4
    have hcl : (M.1 3 (6 * j + 1)).toNatClampNeg = k := by rw [ht]; exact nI_clamp (by omega)
    have hdu : (h.2.1 (23 + k) 2).toNat < (h.2.1 (23 + k) 1).toNat ↔ dst M k := by rw [d1, d2]; exact Iff.rfl
    refine g_ald1 dX6_groupOf_0 ?_
    refine g_getI_a fb_3_0 mw_1_141 (by first | rfl | assumption | (exact lay_item (by omega)) | (exact lay_drive (by omega)) | (exact lay_job (by omega))) (by omega) dX6_groupOf_1 (fun xx1 ee1 => ?_)
    obtain rfl : xx1 = (1 : Int32) := ee1.symm.trans (e0.trans hk)
    refine g_iconst (v := nI 1) dX6_groupOf_4 (by decide +kernel) ?_
    refine g_icmp_ne_f (tgt := 22) dX6_groupOf_5 (by decide) (by decide) ?_
    refine g_ald0 dX6_groupOf_8 ?_
    show Go _ _ _ _ _ _ 9 _ _
    refine g_getQ fb_6_0 mw_2_0 (by first | rfl | assumption | (exact lay_item (by omega)) | (exact lay_drive (by omega)) | (exact lay_job (by omega))) (by omega) (sh_store hS) dX6_groupOf_9 ?_
    refine g_ald1 dX6_groupOf_12 ?_
    refine g_getI_a fb_3_1 mw_1_143 (by first | rfl | assumption | (exact lay_item (by omega)) | (exact lay_drive (by omega)) | (exact lay_job (by omega))) (by omega) dX6_groupOf_13 (fun xx13 ee13 => ?_)
    obtain rfl : xx13 = (nI k) := ee13.symm.trans (e1.trans ht)
    refine g_callV1 (c_driveAt (h := h) k nd hS.1 hnd hd9 hk4) mw_3_15 ok_X7_driveAt ⟨by decide, by decide⟩ (by first | rfl | assumption | (exact lay_item (by omega)) | (exact lay_drive (by omega)) | (exact lay_job (by omega))) (by omega) rfl (by omega) (by omega) (Nat.le_of_ble_eq_true rfl) dX6_groupOf_16 (dQ_K ?_)
    refine g_goto (tgt := 23) dX6_groupOf_19 (by decide) ?_
    refine g_ast2 (by decide) dX6_groupOf_23 ?_
    show Go _ _ _ _ _ _ 24 _ _
    refine g_ald2 dX6_groupOf_24 ?_
    refine g_ifnull dX6_groupOf_25 ?_
    refine g_ald2 dX6_groupOf_28 ?_
    refine g_callV0 (c_isTooDusty (h := h) (23 + k) (lay_drive (by omega)) (by omega) (by rw [d1]; exact f1) (by rw [d2]; exact f2)) mw_3_16 ok_X0_isTooDusty ⟨by decide, by decide⟩ (by first | rfl | assumption | (exact lay_item (by omega)) | (exact lay_drive (by omega)) | (exact lay_job (by omega))) (by omega) rfl (by omega) (by omega) (Nat.le_of_ble_eq_true rfl) dX6_groupOf_29 (dI_K ?_)
    refine g_if_eq (tgt := 39) dX6_groupOf_32 (by decide) (fun c_32 => ?_) (fun c_32 => ?_)
    · skip
      have c_32 := c_32
      refine g_iconst (v := nI 1) dX6_groupOf_39 (by decide +kernel) ?_
      show Go _ _ _ _ _ _ 40 _ _
      refine g_ald0 dX6_groupOf_40 ?_
      refine g_getQ fb_6_1 mw_2_2 (by first | rfl | assumption | (exact lay_item (by omega)) | (exact lay_drive (by omega)) | (exact lay_job (by omega))) (by omega) (sh_queue hS) dX6_groupOf_41 ?_
      refine g_ald1 dX6_groupOf_44 ?_
      refine g_getI_a fb_3_0 mw_1_141 (by first | rfl | assumption | (exact lay_item (by omega)) | (exact lay_drive (by omega)) | (exact lay_job (by omega))) (by omega) dX6_groupOf_45 (fun xx45 ee45 => ?_)
      obtain rfl : xx45 = (1 : Int32) := ee45.symm.trans (e0.trans hk)
      refine g_callV1 (c_rankOf (h := h) M 1 h6 h7) mw_3_17 ok_X5_rankOf ⟨by decide, by decide⟩ (by first | rfl | assumption | (exact lay_item (by omega)) | (exact lay_drive (by omega)) | (exact lay_job (by omega))) (by omega) rfl (by omega) (by omega) (Nat.le_of_ble_eq_true rfl) dX6_groupOf_48 (dI_K ?_)
      first | refine g_iadd_n dX6_groupOf_51 ?_ | refine g_iadd dX6_groupOf_51 ?_
      show Go _ _ _ _ _ _ 52 _ _
      exact g_iret rfl dX6_groupOf_52 ⟨congrArg (fun z => some (Value.int z)) (by unfold grp; rw [if_neg (fun q => by have q2 := q.2; rw [hcl] at q2; exact absurd (c_32.symm.trans (if_pos (hdu.mpr q2))) (by decide)), hk]), rfl⟩
    · skip
      have c_32 := c_32
      refine g_iconst (v := nI 0) dX6_groupOf_35 (by decide +kernel) ?_
      refine g_goto (tgt := 52) dX6_groupOf_36 (by decide) ?_
      exact g_iret rfl dX6_groupOf_52 ⟨congrArg (fun z => some (Value.int z)) (by unfold grp; rw [if_pos ⟨hk, by rw [hcl]; exact Classical.byContradiction (fun z => c_32 (if_neg (fun q => z (hdu.mp q))))⟩]), rfl⟩
  · skip
    refine g_ald1 dX6_groupOf_0 ?_
    refine g_getI_a fb_3_0 mw_1_141 (by first | rfl | assumption | (exact lay_item (by omega)) | (exact lay_drive (by omega)) | (exact lay_job (by omega))) (by omega) dX6_groupOf_1 (fun xx1 ee1 => ?_)
    obtain rfl : xx1 = (M.1 3 (6 * j)) := ee1.symm.trans e0
    refine g_iconst (v := nI 1) dX6_groupOf_4 (by decide +kernel) ?_
    refine g_icmp_ne_t (tgt := 22) dX6_groupOf_5 (by decide) hk ?_
    refine g_null dX6_groupOf_22 ?_
    show Go _ _ _ _ _ _ 23 _ _
    refine g_zst2 (by decide) dX6_groupOf_23 ?_
    refine g_zld2 dX6_groupOf_24 ?_
    refine g_ifnullN (tgt := 39) dX6_groupOf_25 (by decide) ?_
    refine g_iconst (v := nI 1) dX6_groupOf_39 (by decide +kernel) ?_
    refine g_ald0 dX6_groupOf_40 ?_
    refine g_getQ fb_6_1 mw_2_2 (by first | rfl | assumption | (exact lay_item (by omega)) | (exact lay_drive (by omega)) | (exact lay_job (by omega))) (by omega) (sh_queue hS) dX6_groupOf_41 ?_
    show Go _ _ _ _ _ _ 44 _ _
    refine g_ald1 dX6_groupOf_44 ?_
    refine g_getI_a fb_3_0 mw_1_141 (by first | rfl | assumption | (exact lay_item (by omega)) | (exact lay_drive (by omega)) | (exact lay_job (by omega))) (by omega) dX6_groupOf_45 (fun xx45 ee45 => ?_)
    obtain rfl : xx45 = (M.1 3 (6 * j)) := ee45.symm.trans e0
    refine g_callV1 (c_rankOf (h := h) M (M.1 3 (6 * j)) h6 h7) mw_3_17 ok_X5_rankOf ⟨by decide, by decide⟩ (by first | rfl | assumption | (exact lay_item (by omega)) | (exact lay_drive (by omega)) | (exact lay_job (by omega))) (by omega) rfl (by omega) (by omega) (Nat.le_of_ble_eq_true rfl) dX6_groupOf_48 (dI_K ?_)
    first | refine g_iadd_n dX6_groupOf_51 ?_ | refine g_iadd dX6_groupOf_51 ?_
    exact g_iret rfl dX6_groupOf_52 ⟨congrArg (fun z => some (Value.int z)) (by unfold grp; rw [if_neg (fun q => hk q.1)]), rfl⟩
end P19
