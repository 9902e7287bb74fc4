/-! ===== THE LAW'S READING, ITS STEP ===== -/
theorem fval_l : ∀ f, f < 9 → (fval f).toNat ≤ 2139095040 := by decide +kernel
section P36
variable {G : Gl} {h : Hp}
theorem l_isRead (M : Mo) (ni nd nj j it k r0 f : Nat) (hL : Lw h M) (hI : IS M ni nd nj) (hj : j < nj) (h3 : M.1 0 3 = nI j) (ht : it < ni) (hk : k < nd) (hf9 : f < 9) (h4 : M.1 1 (6 * it + 4) = nI f) (ha : M.1 1 (6 * it + 3) = nI r0) (hr0 : r0 < 1600) : Ct G mL_isRead [ga G 449, ga G 450, ga G 451, ga G 452, ga G 454, ga G 455, .int (nI it), .int (nI k)] h 456 456 (rI (fun r h' => r = (mRead M j it k).2 ∧ Lw h' (mRead M j it k).1 ∧ KR h h')) := by
  obtain ⟨⟨hi8, hd, hj10⟩, hp, hH, hC, hf, hu, hJb, hsl⟩ := id hI
  have hK := KR.rf h
  obtain ⟨g1, g2⟩ := hf.1 k hk
  obtain ⟨m1, m2⟩ := more_l r0 hr0
  have hm : Gd (more (M.1 1 (6 * it + 3))) := by rw [ha]; exact m2
  have hm1 : Gd (FP.fmul (FP.i2f (M.1 1 (6 * it + 3))) 1040187392) := by rw [ha]; exact m1
  have hsum := fl_add g1 hm
  have hlr : lostR M it k ↔ 0 < Op.cmpValue (FP.fcmp (FP.fmul (M.2 (2 * k)) (fval f)) 1077936128) .l := by unfold lostR; rw [h4, nI_clamp (by omega)]
  have eA : dst M k → mRead M j it k = (up M 4 (6 * j + 1) 1, 1) := fun z => if_pos z
  have eB : ¬ dst M k → lostR M it k → mRead M j it k = (mRead2 M j it k, if M.1 5 j + 1 = 3 then 1 else 0) := fun z y => (if_neg z).trans (if_pos y)
  have eC : ¬ dst M k → ¬ lostR M it k → mRead M j it k = (mRead1 M it k, 1) := fun z y => (if_neg z).trans (if_neg y)
  refine Ct.of rfl (by simp [Value.category, ga]) (Nat.le_of_ble_eq_true rfl) (Nat.le_refl _) ?_
  show Go _ _ _ _ _ _ _ [some (ga G 449), some (ga G 450), some (ga G 451), some (ga G 452), some (ga G 454), some (ga G 455), some (.int (nI it)), some (.int (nI k)), none, none, none] []
  refine g_ald0 dL_isRead_0 ?_
  refine g_iconst (v := nI 3) dL_isRead_1 (by decide +kernel) ?_
  first | refine g_ildr Rw.g rfl (by omega) rfl (by omega) dL_isRead_2 hL (v := (nI j)) h3 ?_ | refine g_ildr Rw.t rfl (by omega) rfl (by omega) dL_isRead_2 hL (v := (nI j)) h3 ?_ | refine g_ildr Rw.d rfl (by omega) rfl (by omega) dL_isRead_2 hL (v := (nI j)) h3 ?_ | refine g_ildr Rw.a rfl (by omega) rfl (by omega) dL_isRead_2 hL (v := (nI j)) h3 ?_ | refine g_ildr Rw.b rfl (by omega) rfl (by omega) dL_isRead_2 hL (v := (nI j)) h3 ?_ | refine g_ildr Rw.c rfl (by omega) rfl (by omega) dL_isRead_2 hL (v := (nI j)) h3 ?_
  refine g_ist8 (by decide) dL_isRead_3 ?_
  refine g_ald3 dL_isRead_5 ?_
  show Go _ _ _ _ _ _ 6 _ _
  refine g_ild7 dL_isRead_6 ?_
  refine g_callS2 (l_isDusty (h := h) M k hL (by omega) g1 g2) mw_2_185 ok_L_isDusty ⟨by decide, by decide⟩ (by omega) (by omega) (Nat.le_of_ble_eq_true rfl) dL_isRead_8 (rB_K ?_)
  intro rd hd2
  refine g_if_eq (tgt := 27) dL_isRead_11 (by decide) (fun c_11 => ?_) (fun c_11 => ?_)
  · skip
    have hs : ¬ dst M k := (hd2.resolve_left (fun z => absurd (z.1.symm.trans c_11) (by decide))).2
    refine g_ald3 dL_isRead_27 ?_
    refine g_iconst (v := nI 2) dL_isRead_28 (by decide +kernel) ?_
    refine g_ild7 dL_isRead_29 ?_
    show Go _ _ _ _ _ _ 31 _ _
    first | refine g_imul_n dL_isRead_31 ?_ | refine g_imul dL_isRead_31 ?_
    refine g_dldr rfl (by omega) rfl (by omega) dL_isRead_32 hL rfl ?_
    refine g_d2f dL_isRead_33 (by rw [fl_rt g1]; exact fl_n32 g1) (fl_rt g1) ?_
    refine g_fst9 (by decide) dL_isRead_34 ?_
    refine g_fld9 dL_isRead_36 ?_
    refine g_ald1 dL_isRead_38 ?_
    show Go _ _ _ _ _ _ 39 _ _
    refine g_bipush (v := nI 6) dL_isRead_39 (by decide +kernel) ?_
    refine g_ild6 dL_isRead_41 ?_
    first | refine g_imul_n dL_isRead_43 ?_ | refine g_imul dL_isRead_43 ?_
    refine g_iconst (v := nI 4) dL_isRead_44 (by decide +kernel) ?_
    first | refine g_iadd_n dL_isRead_45 ?_ | refine g_iadd dL_isRead_45 ?_
    first | refine g_ildr Rw.g rfl (by omega) rfl (by omega) dL_isRead_46 hL (v := (nI f)) h4 ?_ | refine g_ildr Rw.t rfl (by omega) rfl (by omega) dL_isRead_46 hL (v := (nI f)) h4 ?_ | refine g_ildr Rw.d rfl (by omega) rfl (by omega) dL_isRead_46 hL (v := (nI f)) h4 ?_ | refine g_ildr Rw.a rfl (by omega) rfl (by omega) dL_isRead_46 hL (v := (nI f)) h4 ?_ | refine g_ildr Rw.b rfl (by omega) rfl (by omega) dL_isRead_46 hL (v := (nI f)) h4 ?_ | refine g_ildr Rw.c rfl (by omega) rfl (by omega) dL_isRead_46 hL (v := (nI f)) h4 ?_
    show Go _ _ _ _ _ _ 47 _ _
    refine g_i2f dL_isRead_47 ?_
    refine g_ldcf mw_4_14 dL_isRead_48 ?_
    refine g_fmul dL_isRead_50 (fl_n32 (fval_l f hf9)) ?_
    refine g_fmulcmp dL_isRead_51 mw_4_15 dL_isRead_52 dL_isRead_54 (fun r hr => fl_al r hr) ?_
    refine g_if_le (tgt := 62) dL_isRead_55 (by decide) (fun c_55 => ?_) (fun c_55 => ?_)
    · skip
      have hlo : ¬ lostR M it k := fun z => absurd (hlr.mp z) (Int32.not_lt.mpr c_55)
      refine g_iconst (v := nI 0) dL_isRead_62 (by decide +kernel) ?_
      show Go _ _ _ _ _ _ 63 _ _
      refine g_ist10 (by decide) dL_isRead_63 ?_
      refine g_ald3 dL_isRead_65 ?_
      refine g_iconst (v := nI 2) dL_isRead_66 (by decide +kernel) ?_
      refine g_ild7 dL_isRead_67 ?_
      first | refine g_imul_n dL_isRead_69 ?_ | refine g_imul dL_isRead_69 ?_
      refine g_fld9 dL_isRead_70 ?_
      show Go _ _ _ _ _ _ 72 _ _
      refine g_fconst1 dL_isRead_72 ?_
      refine g_ald1 dL_isRead_73 ?_
      refine g_bipush (v := nI 6) dL_isRead_74 (by decide +kernel) ?_
      refine g_ild6 dL_isRead_76 ?_
      first | refine g_imul_n dL_isRead_78 ?_ | refine g_imul dL_isRead_78 ?_
      refine g_iconst (v := nI 3) dL_isRead_79 (by decide +kernel) ?_
      show Go _ _ _ _ _ _ 80 _ _
      first | refine g_iadd_n dL_isRead_80 ?_ | refine g_iadd dL_isRead_80 ?_
      first | refine g_ildr Rw.g rfl (by omega) rfl (by omega) dL_isRead_81 hL rfl ?_ | refine g_ildr Rw.t rfl (by omega) rfl (by omega) dL_isRead_81 hL rfl ?_ | refine g_ildr Rw.d rfl (by omega) rfl (by omega) dL_isRead_81 hL rfl ?_ | refine g_ildr Rw.a rfl (by omega) rfl (by omega) dL_isRead_81 hL rfl ?_ | refine g_ildr Rw.b rfl (by omega) rfl (by omega) dL_isRead_81 hL rfl ?_ | refine g_ildr Rw.c rfl (by omega) rfl (by omega) dL_isRead_81 hL rfl ?_
      refine g_i2f dL_isRead_82 ?_
      refine g_ldcf mw_4_14 dL_isRead_83 ?_
      refine g_fmul dL_isRead_85 (fl_n32 hm1) ?_
      refine g_fadd dL_isRead_86 (fl_n32 hm) ?_
      show Go _ _ _ _ _ _ 87 _ _
      refine g_fadd dL_isRead_87 (fl_n32 hsum) ?_
      refine g_f2d dL_isRead_88 (fl_n64 hsum) ?_
      refine g_dstr rfl (by omega) rfl (by omega) dL_isRead_89 hL hK ?_
      intro h hL hK
      refine g_ald1 dL_isRead_90 ?_
      refine g_bipush (v := nI 6) dL_isRead_91 (by decide +kernel) ?_
      refine g_ild6 dL_isRead_93 ?_
      show Go _ _ _ _ _ _ 95 _ _
      first | refine g_imul_n dL_isRead_95 ?_ | refine g_imul dL_isRead_95 ?_
      refine g_iconst (v := nI 3) dL_isRead_96 (by decide +kernel) ?_
      first | refine g_iadd_n dL_isRead_97 ?_ | refine g_iadd dL_isRead_97 ?_
      refine g_dup2 dL_isRead_98 rfl rfl ?_
      first | refine g_ildr Rw.g rfl (by omega) rfl (by omega) dL_isRead_99 hL (v := (M.1 1 (6 * it + 3))) (by simp (disch := omega) only [uf_i]) ?_ | refine g_ildr Rw.t rfl (by omega) rfl (by omega) dL_isRead_99 hL (v := (M.1 1 (6 * it + 3))) (by simp (disch := omega) only [uf_i]) ?_ | refine g_ildr Rw.d rfl (by omega) rfl (by omega) dL_isRead_99 hL (v := (M.1 1 (6 * it + 3))) (by simp (disch := omega) only [uf_i]) ?_ | refine g_ildr Rw.a rfl (by omega) rfl (by omega) dL_isRead_99 hL (v := (M.1 1 (6 * it + 3))) (by simp (disch := omega) only [uf_i]) ?_ | refine g_ildr Rw.b rfl (by omega) rfl (by omega) dL_isRead_99 hL (v := (M.1 1 (6 * it + 3))) (by simp (disch := omega) only [uf_i]) ?_ | refine g_ildr Rw.c rfl (by omega) rfl (by omega) dL_isRead_99 hL (v := (M.1 1 (6 * it + 3))) (by simp (disch := omega) only [uf_i]) ?_
      refine g_iconst (v := nI 1) dL_isRead_100 (by decide +kernel) ?_
      show Go _ _ _ _ _ _ 101 _ _
      refine g_iadd dL_isRead_101 ?_
      first | refine g_istr Rw.g rfl (by omega) rfl (by omega) dL_isRead_102 hL hK ?_ | refine g_istr Rw.t rfl (by omega) rfl (by omega) dL_isRead_102 hL hK ?_ | refine g_istr Rw.d rfl (by omega) rfl (by omega) dL_isRead_102 hL hK ?_ | refine g_istr Rw.a rfl (by omega) rfl (by omega) dL_isRead_102 hL hK ?_ | refine g_istr Rw.b rfl (by omega) rfl (by omega) dL_isRead_102 hL hK ?_ | refine g_istr Rw.c rfl (by omega) rfl (by omega) dL_isRead_102 hL hK ?_
      intro h hL hK
      refine g_ald2 dL_isRead_103 ?_
      refine g_bipush (v := nI 7) dL_isRead_104 (by decide +kernel) ?_
      refine g_ild7 dL_isRead_106 ?_
      first | refine g_imul_n dL_isRead_108 ?_ | refine g_imul dL_isRead_108 ?_
      show Go _ _ _ _ _ _ 109 _ _
      refine g_iconst (v := nI 3) dL_isRead_109 (by decide +kernel) ?_
      first | refine g_iadd_n dL_isRead_110 ?_ | refine g_iadd dL_isRead_110 ?_
      refine g_dup2 dL_isRead_111 rfl rfl ?_
      first | refine g_ildr Rw.g rfl (by omega) rfl (by omega) dL_isRead_112 hL (v := (M.1 2 (7 * k + 3))) (by simp (disch := omega) only [up_ne, uf_i]) ?_ | refine g_ildr Rw.t rfl (by omega) rfl (by omega) dL_isRead_112 hL (v := (M.1 2 (7 * k + 3))) (by simp (disch := omega) only [up_ne, uf_i]) ?_ | refine g_ildr Rw.d rfl (by omega) rfl (by omega) dL_isRead_112 hL (v := (M.1 2 (7 * k + 3))) (by simp (disch := omega) only [up_ne, uf_i]) ?_ | refine g_ildr Rw.a rfl (by omega) rfl (by omega) dL_isRead_112 hL (v := (M.1 2 (7 * k + 3))) (by simp (disch := omega) only [up_ne, uf_i]) ?_ | refine g_ildr Rw.b rfl (by omega) rfl (by omega) dL_isRead_112 hL (v := (M.1 2 (7 * k + 3))) (by simp (disch := omega) only [up_ne, uf_i]) ?_ | refine g_ildr Rw.c rfl (by omega) rfl (by omega) dL_isRead_112 hL (v := (M.1 2 (7 * k + 3))) (by simp (disch := omega) only [up_ne, uf_i]) ?_
      refine g_iconst (v := nI 1) dL_isRead_113 (by decide +kernel) ?_
      refine g_iadd dL_isRead_114 ?_
      show Go _ _ _ _ _ _ 115 _ _
      first | refine g_istr Rw.g rfl (by omega) rfl (by omega) dL_isRead_115 hL hK ?_ | refine g_istr Rw.t rfl (by omega) rfl (by omega) dL_isRead_115 hL hK ?_ | refine g_istr Rw.d rfl (by omega) rfl (by omega) dL_isRead_115 hL hK ?_ | refine g_istr Rw.a rfl (by omega) rfl (by omega) dL_isRead_115 hL hK ?_ | refine g_istr Rw.b rfl (by omega) rfl (by omega) dL_isRead_115 hL hK ?_ | refine g_istr Rw.c rfl (by omega) rfl (by omega) dL_isRead_115 hL hK ?_
      intro h hL hK
      refine g_ald0 dL_isRead_116 ?_
      refine g_bipush (v := nI 12) dL_isRead_117 (by decide +kernel) ?_
      refine g_dup2 dL_isRead_119 rfl rfl ?_
      first | refine g_ildr Rw.g rfl (by omega) rfl (by omega) dL_isRead_120 hL (v := (M.1 0 12)) (by simp (disch := omega) only [up_ne, uf_i]) ?_ | refine g_ildr Rw.t rfl (by omega) rfl (by omega) dL_isRead_120 hL (v := (M.1 0 12)) (by simp (disch := omega) only [up_ne, uf_i]) ?_ | refine g_ildr Rw.d rfl (by omega) rfl (by omega) dL_isRead_120 hL (v := (M.1 0 12)) (by simp (disch := omega) only [up_ne, uf_i]) ?_ | refine g_ildr Rw.a rfl (by omega) rfl (by omega) dL_isRead_120 hL (v := (M.1 0 12)) (by simp (disch := omega) only [up_ne, uf_i]) ?_ | refine g_ildr Rw.b rfl (by omega) rfl (by omega) dL_isRead_120 hL (v := (M.1 0 12)) (by simp (disch := omega) only [up_ne, uf_i]) ?_ | refine g_ildr Rw.c rfl (by omega) rfl (by omega) dL_isRead_120 hL (v := (M.1 0 12)) (by simp (disch := omega) only [up_ne, uf_i]) ?_
      refine g_iconst (v := nI 1) dL_isRead_121 (by decide +kernel) ?_
      show Go _ _ _ _ _ _ 122 _ _
      refine g_iadd dL_isRead_122 ?_
      first | refine g_istr Rw.g rfl (by omega) rfl (by omega) dL_isRead_123 hL hK ?_ | refine g_istr Rw.t rfl (by omega) rfl (by omega) dL_isRead_123 hL hK ?_ | refine g_istr Rw.d rfl (by omega) rfl (by omega) dL_isRead_123 hL hK ?_ | refine g_istr Rw.a rfl (by omega) rfl (by omega) dL_isRead_123 hL hK ?_ | refine g_istr Rw.b rfl (by omega) rfl (by omega) dL_isRead_123 hL hK ?_ | refine g_istr Rw.c rfl (by omega) rfl (by omega) dL_isRead_123 hL hK ?_
      intro h hL hK
      refine g_ild10 dL_isRead_124 ?_
      refine g_if_eq_t (tgt := 205) dL_isRead_126 (by decide) rfl ?_
      refine g_ild10 dL_isRead_205 ?_
      refine g_if_eq_t (tgt := 219) dL_isRead_207 (by decide) rfl ?_
      show Go _ _ _ _ _ _ 219 _ _
      refine g_iconst (v := nI 1) dL_isRead_219 (by decide +kernel) ?_
      refine g_goto (tgt := 224) dL_isRead_220 (by decide) ?_
      exact g_zret rfl rfl dL_isRead_224 ⟨1, rfl, by rw [eC hs hlo], by rw [eC hs hlo]; exact hL, hK⟩
    · skip
      have hlo : lostR M it k := hlr.mpr (Int32.not_le.mp c_55)
      refine g_iconst (v := nI 1) dL_isRead_58 (by decide +kernel) ?_
      refine g_goto (tgt := 63) dL_isRead_59 (by decide) ?_
      refine g_ist10 (by decide) dL_isRead_63 ?_
      show Go _ _ _ _ _ _ 65 _ _
      refine g_ald3 dL_isRead_65 ?_
      refine g_iconst (v := nI 2) dL_isRead_66 (by decide +kernel) ?_
      refine g_ild7 dL_isRead_67 ?_
      first | refine g_imul_n dL_isRead_69 ?_ | refine g_imul dL_isRead_69 ?_
      refine g_fld9 dL_isRead_70 ?_
      refine g_fconst1 dL_isRead_72 ?_
      show Go _ _ _ _ _ _ 73 _ _
      refine g_ald1 dL_isRead_73 ?_
      refine g_bipush (v := nI 6) dL_isRead_74 (by decide +kernel) ?_
      refine g_ild6 dL_isRead_76 ?_
      first | refine g_imul_n dL_isRead_78 ?_ | refine g_imul dL_isRead_78 ?_
      refine g_iconst (v := nI 3) dL_isRead_79 (by decide +kernel) ?_
      first | refine g_iadd_n dL_isRead_80 ?_ | refine g_iadd dL_isRead_80 ?_
      show Go _ _ _ _ _ _ 81 _ _
      first | refine g_ildr Rw.g rfl (by omega) rfl (by omega) dL_isRead_81 hL rfl ?_ | refine g_ildr Rw.t rfl (by omega) rfl (by omega) dL_isRead_81 hL rfl ?_ | refine g_ildr Rw.d rfl (by omega) rfl (by omega) dL_isRead_81 hL rfl ?_ | refine g_ildr Rw.a rfl (by omega) rfl (by omega) dL_isRead_81 hL rfl ?_ | refine g_ildr Rw.b rfl (by omega) rfl (by omega) dL_isRead_81 hL rfl ?_ | refine g_ildr Rw.c rfl (by omega) rfl (by omega) dL_isRead_81 hL rfl ?_
      refine g_i2f dL_isRead_82 ?_
      refine g_ldcf mw_4_14 dL_isRead_83 ?_
      refine g_fmul dL_isRead_85 (fl_n32 hm1) ?_
      refine g_fadd dL_isRead_86 (fl_n32 hm) ?_
      refine g_fadd dL_isRead_87 (fl_n32 hsum) ?_
      show Go _ _ _ _ _ _ 88 _ _
      refine g_f2d dL_isRead_88 (fl_n64 hsum) ?_
      refine g_dstr rfl (by omega) rfl (by omega) dL_isRead_89 hL hK ?_
      intro h hL hK
      refine g_ald1 dL_isRead_90 ?_
      refine g_bipush (v := nI 6) dL_isRead_91 (by decide +kernel) ?_
      refine g_ild6 dL_isRead_93 ?_
      first | refine g_imul_n dL_isRead_95 ?_ | refine g_imul dL_isRead_95 ?_
      show Go _ _ _ _ _ _ 96 _ _
      refine g_iconst (v := nI 3) dL_isRead_96 (by decide +kernel) ?_
      first | refine g_iadd_n dL_isRead_97 ?_ | refine g_iadd dL_isRead_97 ?_
      refine g_dup2 dL_isRead_98 rfl rfl ?_
      first | refine g_ildr Rw.g rfl (by omega) rfl (by omega) dL_isRead_99 hL (v := (M.1 1 (6 * it + 3))) (by simp (disch := omega) only [uf_i]) ?_ | refine g_ildr Rw.t rfl (by omega) rfl (by omega) dL_isRead_99 hL (v := (M.1 1 (6 * it + 3))) (by simp (disch := omega) only [uf_i]) ?_ | refine g_ildr Rw.d rfl (by omega) rfl (by omega) dL_isRead_99 hL (v := (M.1 1 (6 * it + 3))) (by simp (disch := omega) only [uf_i]) ?_ | refine g_ildr Rw.a rfl (by omega) rfl (by omega) dL_isRead_99 hL (v := (M.1 1 (6 * it + 3))) (by simp (disch := omega) only [uf_i]) ?_ | refine g_ildr Rw.b rfl (by omega) rfl (by omega) dL_isRead_99 hL (v := (M.1 1 (6 * it + 3))) (by simp (disch := omega) only [uf_i]) ?_ | refine g_ildr Rw.c rfl (by omega) rfl (by omega) dL_isRead_99 hL (v := (M.1 1 (6 * it + 3))) (by simp (disch := omega) only [uf_i]) ?_
      refine g_iconst (v := nI 1) dL_isRead_100 (by decide +kernel) ?_
      refine g_iadd dL_isRead_101 ?_
      show Go _ _ _ _ _ _ 102 _ _
      first | refine g_istr Rw.g rfl (by omega) rfl (by omega) dL_isRead_102 hL hK ?_ | refine g_istr Rw.t rfl (by omega) rfl (by omega) dL_isRead_102 hL hK ?_ | refine g_istr Rw.d rfl (by omega) rfl (by omega) dL_isRead_102 hL hK ?_ | refine g_istr Rw.a rfl (by omega) rfl (by omega) dL_isRead_102 hL hK ?_ | refine g_istr Rw.b rfl (by omega) rfl (by omega) dL_isRead_102 hL hK ?_ | refine g_istr Rw.c rfl (by omega) rfl (by omega) dL_isRead_102 hL hK ?_
      intro h hL hK
      refine g_ald2 dL_isRead_103 ?_
      refine g_bipush (v := nI 7) dL_isRead_104 (by decide +kernel) ?_
      refine g_ild7 dL_isRead_106 ?_
      first | refine g_imul_n dL_isRead_108 ?_ | refine g_imul dL_isRead_108 ?_
      refine g_iconst (v := nI 3) dL_isRead_109 (by decide +kernel) ?_
      show Go _ _ _ _ _ _ 110 _ _
      first | refine g_iadd_n dL_isRead_110 ?_ | refine g_iadd dL_isRead_110 ?_
      refine g_dup2 dL_isRead_111 rfl rfl ?_
      first | refine g_ildr Rw.g rfl (by omega) rfl (by omega) dL_isRead_112 hL (v := (M.1 2 (7 * k + 3))) (by simp (disch := omega) only [up_ne, uf_i]) ?_ | refine g_ildr Rw.t rfl (by omega) rfl (by omega) dL_isRead_112 hL (v := (M.1 2 (7 * k + 3))) (by simp (disch := omega) only [up_ne, uf_i]) ?_ | refine g_ildr Rw.d rfl (by omega) rfl (by omega) dL_isRead_112 hL (v := (M.1 2 (7 * k + 3))) (by simp (disch := omega) only [up_ne, uf_i]) ?_ | refine g_ildr Rw.a rfl (by omega) rfl (by omega) dL_isRead_112 hL (v := (M.1 2 (7 * k + 3))) (by simp (disch := omega) only [up_ne, uf_i]) ?_ | refine g_ildr Rw.b rfl (by omega) rfl (by omega) dL_isRead_112 hL (v := (M.1 2 (7 * k + 3))) (by simp (disch := omega) only [up_ne, uf_i]) ?_ | refine g_ildr Rw.c rfl (by omega) rfl (by omega) dL_isRead_112 hL (v := (M.1 2 (7 * k + 3))) (by simp (disch := omega) only [up_ne, uf_i]) ?_
      refine g_iconst (v := nI 1) dL_isRead_113 (by decide +kernel) ?_
      refine g_iadd dL_isRead_114 ?_
      first | refine g_istr Rw.g rfl (by omega) rfl (by omega) dL_isRead_115 hL hK ?_ | refine g_istr Rw.t rfl (by omega) rfl (by omega) dL_isRead_115 hL hK ?_ | refine g_istr Rw.d rfl (by omega) rfl (by omega) dL_isRead_115 hL hK ?_ | refine g_istr Rw.a rfl (by omega) rfl (by omega) dL_isRead_115 hL hK ?_ | refine g_istr Rw.b rfl (by omega) rfl (by omega) dL_isRead_115 hL hK ?_ | refine g_istr Rw.c rfl (by omega) rfl (by omega) dL_isRead_115 hL hK ?_
      intro h hL hK
      show Go _ _ _ _ _ _ 116 _ _
      refine g_ald0 dL_isRead_116 ?_
      refine g_bipush (v := nI 12) dL_isRead_117 (by decide +kernel) ?_
      refine g_dup2 dL_isRead_119 rfl rfl ?_
      first | refine g_ildr Rw.g rfl (by omega) rfl (by omega) dL_isRead_120 hL (v := (M.1 0 12)) (by simp (disch := omega) only [up_ne, uf_i]) ?_ | refine g_ildr Rw.t rfl (by omega) rfl (by omega) dL_isRead_120 hL (v := (M.1 0 12)) (by simp (disch := omega) only [up_ne, uf_i]) ?_ | refine g_ildr Rw.d rfl (by omega) rfl (by omega) dL_isRead_120 hL (v := (M.1 0 12)) (by simp (disch := omega) only [up_ne, uf_i]) ?_ | refine g_ildr Rw.a rfl (by omega) rfl (by omega) dL_isRead_120 hL (v := (M.1 0 12)) (by simp (disch := omega) only [up_ne, uf_i]) ?_ | refine g_ildr Rw.b rfl (by omega) rfl (by omega) dL_isRead_120 hL (v := (M.1 0 12)) (by simp (disch := omega) only [up_ne, uf_i]) ?_ | refine g_ildr Rw.c rfl (by omega) rfl (by omega) dL_isRead_120 hL (v := (M.1 0 12)) (by simp (disch := omega) only [up_ne, uf_i]) ?_
      refine g_iconst (v := nI 1) dL_isRead_121 (by decide +kernel) ?_
      refine g_iadd dL_isRead_122 ?_
      show Go _ _ _ _ _ _ 123 _ _
      first | refine g_istr Rw.g rfl (by omega) rfl (by omega) dL_isRead_123 hL hK ?_ | refine g_istr Rw.t rfl (by omega) rfl (by omega) dL_isRead_123 hL hK ?_ | refine g_istr Rw.d rfl (by omega) rfl (by omega) dL_isRead_123 hL hK ?_ | refine g_istr Rw.a rfl (by omega) rfl (by omega) dL_isRead_123 hL hK ?_ | refine g_istr Rw.b rfl (by omega) rfl (by omega) dL_isRead_123 hL hK ?_ | refine g_istr Rw.c rfl (by omega) rfl (by omega) dL_isRead_123 hL hK ?_
      intro h hL hK
      refine g_ild10 dL_isRead_124 ?_
      refine g_if_eq_f (tgt := 205) dL_isRead_126 (by decide) (by decide) ?_
      refine g_ald1 dL_isRead_129 ?_
      refine g_bipush (v := nI 6) dL_isRead_130 (by decide +kernel) ?_
      refine g_ild6 dL_isRead_132 ?_
      show Go _ _ _ _ _ _ 134 _ _
      first | refine g_imul_n dL_isRead_134 ?_ | refine g_imul dL_isRead_134 ?_
      refine g_iconst (v := nI 5) dL_isRead_135 (by decide +kernel) ?_
      first | refine g_iadd_n dL_isRead_136 ?_ | refine g_iadd dL_isRead_136 ?_
      refine g_dup2 dL_isRead_137 rfl rfl ?_
      first | refine g_ildr Rw.g rfl (by omega) rfl (by omega) dL_isRead_138 hL rfl ?_ | refine g_ildr Rw.t rfl (by omega) rfl (by omega) dL_isRead_138 hL rfl ?_ | refine g_ildr Rw.d rfl (by omega) rfl (by omega) dL_isRead_138 hL rfl ?_ | refine g_ildr Rw.a rfl (by omega) rfl (by omega) dL_isRead_138 hL rfl ?_ | refine g_ildr Rw.b rfl (by omega) rfl (by omega) dL_isRead_138 hL rfl ?_ | refine g_ildr Rw.c rfl (by omega) rfl (by omega) dL_isRead_138 hL rfl ?_
      refine g_iconst (v := nI 1) dL_isRead_139 (by decide +kernel) ?_
      show Go _ _ _ _ _ _ 140 _ _
      refine g_iadd dL_isRead_140 ?_
      first | refine g_istr Rw.g rfl (by omega) rfl (by omega) dL_isRead_141 hL hK ?_ | refine g_istr Rw.t rfl (by omega) rfl (by omega) dL_isRead_141 hL hK ?_ | refine g_istr Rw.d rfl (by omega) rfl (by omega) dL_isRead_141 hL hK ?_ | refine g_istr Rw.a rfl (by omega) rfl (by omega) dL_isRead_141 hL hK ?_ | refine g_istr Rw.b rfl (by omega) rfl (by omega) dL_isRead_141 hL hK ?_ | refine g_istr Rw.c rfl (by omega) rfl (by omega) dL_isRead_141 hL hK ?_
      intro h hL hK
      refine g_ald2 dL_isRead_142 ?_
      refine g_bipush (v := nI 7) dL_isRead_143 (by decide +kernel) ?_
      refine g_ild7 dL_isRead_145 ?_
      first | refine g_imul_n dL_isRead_147 ?_ | refine g_imul dL_isRead_147 ?_
      show Go _ _ _ _ _ _ 148 _ _
      refine g_iconst (v := nI 4) dL_isRead_148 (by decide +kernel) ?_
      first | refine g_iadd_n dL_isRead_149 ?_ | refine g_iadd dL_isRead_149 ?_
      refine g_dup2 dL_isRead_150 rfl rfl ?_
      first | refine g_ildr Rw.g rfl (by omega) rfl (by omega) dL_isRead_151 hL (v := ((mRead1 M it k).1 2 (7 * k + 4))) (up_ne (by omega)) ?_ | refine g_ildr Rw.t rfl (by omega) rfl (by omega) dL_isRead_151 hL (v := ((mRead1 M it k).1 2 (7 * k + 4))) (up_ne (by omega)) ?_ | refine g_ildr Rw.d rfl (by omega) rfl (by omega) dL_isRead_151 hL (v := ((mRead1 M it k).1 2 (7 * k + 4))) (up_ne (by omega)) ?_ | refine g_ildr Rw.a rfl (by omega) rfl (by omega) dL_isRead_151 hL (v := ((mRead1 M it k).1 2 (7 * k + 4))) (up_ne (by omega)) ?_ | refine g_ildr Rw.b rfl (by omega) rfl (by omega) dL_isRead_151 hL (v := ((mRead1 M it k).1 2 (7 * k + 4))) (up_ne (by omega)) ?_ | refine g_ildr Rw.c rfl (by omega) rfl (by omega) dL_isRead_151 hL (v := ((mRead1 M it k).1 2 (7 * k + 4))) (up_ne (by omega)) ?_
      refine g_iconst (v := nI 1) dL_isRead_152 (by decide +kernel) ?_
      refine g_iadd dL_isRead_153 ?_
      show Go _ _ _ _ _ _ 154 _ _
      first | refine g_istr Rw.g rfl (by omega) rfl (by omega) dL_isRead_154 hL hK ?_ | refine g_istr Rw.t rfl (by omega) rfl (by omega) dL_isRead_154 hL hK ?_ | refine g_istr Rw.d rfl (by omega) rfl (by omega) dL_isRead_154 hL hK ?_ | refine g_istr Rw.a rfl (by omega) rfl (by omega) dL_isRead_154 hL hK ?_ | refine g_istr Rw.b rfl (by omega) rfl (by omega) dL_isRead_154 hL hK ?_ | refine g_istr Rw.c rfl (by omega) rfl (by omega) dL_isRead_154 hL hK ?_
      intro h hL hK
      refine g_ald0 dL_isRead_155 ?_
      refine g_bipush (v := nI 13) dL_isRead_156 (by decide +kernel) ?_
      refine g_dup2 dL_isRead_158 rfl rfl ?_
      first | refine g_ildr Rw.g rfl (by omega) rfl (by omega) dL_isRead_159 hL (v := ((mRead1 M it k).1 0 13)) ((up_ne (by omega)).trans (up_ne (by omega))) ?_ | refine g_ildr Rw.t rfl (by omega) rfl (by omega) dL_isRead_159 hL (v := ((mRead1 M it k).1 0 13)) ((up_ne (by omega)).trans (up_ne (by omega))) ?_ | refine g_ildr Rw.d rfl (by omega) rfl (by omega) dL_isRead_159 hL (v := ((mRead1 M it k).1 0 13)) ((up_ne (by omega)).trans (up_ne (by omega))) ?_ | refine g_ildr Rw.a rfl (by omega) rfl (by omega) dL_isRead_159 hL (v := ((mRead1 M it k).1 0 13)) ((up_ne (by omega)).trans (up_ne (by omega))) ?_ | refine g_ildr Rw.b rfl (by omega) rfl (by omega) dL_isRead_159 hL (v := ((mRead1 M it k).1 0 13)) ((up_ne (by omega)).trans (up_ne (by omega))) ?_ | refine g_ildr Rw.c rfl (by omega) rfl (by omega) dL_isRead_159 hL (v := ((mRead1 M it k).1 0 13)) ((up_ne (by omega)).trans (up_ne (by omega))) ?_
      refine g_iconst (v := nI 1) dL_isRead_160 (by decide +kernel) ?_
      show Go _ _ _ _ _ _ 161 _ _
      refine g_iadd dL_isRead_161 ?_
      first | refine g_istr Rw.g rfl (by omega) rfl (by omega) dL_isRead_162 hL hK ?_ | refine g_istr Rw.t rfl (by omega) rfl (by omega) dL_isRead_162 hL hK ?_ | refine g_istr Rw.d rfl (by omega) rfl (by omega) dL_isRead_162 hL hK ?_ | refine g_istr Rw.a rfl (by omega) rfl (by omega) dL_isRead_162 hL hK ?_ | refine g_istr Rw.b rfl (by omega) rfl (by omega) dL_isRead_162 hL hK ?_ | refine g_istr Rw.c rfl (by omega) rfl (by omega) dL_isRead_162 hL hK ?_
      intro h hL hK
      refine g_ald5 dL_isRead_163 ?_
      refine g_ild8 dL_isRead_165 ?_
      refine g_dup2 dL_isRead_167 rfl rfl ?_
      first | refine g_ildr Rw.g rfl (by omega) rfl (by omega) dL_isRead_168 hL (v := (M.1 5 j)) (by simp (disch := omega) only [up_ne, uf_i]) ?_ | refine g_ildr Rw.t rfl (by omega) rfl (by omega) dL_isRead_168 hL (v := (M.1 5 j)) (by simp (disch := omega) only [up_ne, uf_i]) ?_ | refine g_ildr Rw.d rfl (by omega) rfl (by omega) dL_isRead_168 hL (v := (M.1 5 j)) (by simp (disch := omega) only [up_ne, uf_i]) ?_ | refine g_ildr Rw.a rfl (by omega) rfl (by omega) dL_isRead_168 hL (v := (M.1 5 j)) (by simp (disch := omega) only [up_ne, uf_i]) ?_ | refine g_ildr Rw.b rfl (by omega) rfl (by omega) dL_isRead_168 hL (v := (M.1 5 j)) (by simp (disch := omega) only [up_ne, uf_i]) ?_ | refine g_ildr Rw.c rfl (by omega) rfl (by omega) dL_isRead_168 hL (v := (M.1 5 j)) (by simp (disch := omega) only [up_ne, uf_i]) ?_
      show Go _ _ _ _ _ _ 169 _ _
      refine g_iconst (v := nI 1) dL_isRead_169 (by decide +kernel) ?_
      refine g_iadd dL_isRead_170 ?_
      first | refine g_istr Rw.g rfl (by omega) rfl (by omega) dL_isRead_171 hL hK ?_ | refine g_istr Rw.t rfl (by omega) rfl (by omega) dL_isRead_171 hL hK ?_ | refine g_istr Rw.d rfl (by omega) rfl (by omega) dL_isRead_171 hL hK ?_ | refine g_istr Rw.a rfl (by omega) rfl (by omega) dL_isRead_171 hL hK ?_ | refine g_istr Rw.b rfl (by omega) rfl (by omega) dL_isRead_171 hL hK ?_ | refine g_istr Rw.c rfl (by omega) rfl (by omega) dL_isRead_171 hL hK ?_
      intro h hL hK
      refine g_ald4 dL_isRead_172 ?_
      refine g_bipush (v := nI 6) dL_isRead_174 (by decide +kernel) ?_
      refine g_ild8 dL_isRead_176 ?_
      show Go _ _ _ _ _ _ 178 _ _
      first | refine g_imul_n dL_isRead_178 ?_ | refine g_imul dL_isRead_178 ?_
      refine g_iconst (v := nI 1) dL_isRead_179 (by decide +kernel) ?_
      first | refine g_iadd_n dL_isRead_180 ?_ | refine g_iadd dL_isRead_180 ?_
      refine g_ald5 dL_isRead_181 ?_
      refine g_ild8 dL_isRead_183 ?_
      first | refine g_ildr Rw.g rfl (by omega) rfl (by omega) dL_isRead_185 hL (v := (M.1 5 j + 1)) (by simp (disch := omega) only [up_at] <;> rfl) ?_ | refine g_ildr Rw.t rfl (by omega) rfl (by omega) dL_isRead_185 hL (v := (M.1 5 j + 1)) (by simp (disch := omega) only [up_at] <;> rfl) ?_ | refine g_ildr Rw.d rfl (by omega) rfl (by omega) dL_isRead_185 hL (v := (M.1 5 j + 1)) (by simp (disch := omega) only [up_at] <;> rfl) ?_ | refine g_ildr Rw.a rfl (by omega) rfl (by omega) dL_isRead_185 hL (v := (M.1 5 j + 1)) (by simp (disch := omega) only [up_at] <;> rfl) ?_ | refine g_ildr Rw.b rfl (by omega) rfl (by omega) dL_isRead_185 hL (v := (M.1 5 j + 1)) (by simp (disch := omega) only [up_at] <;> rfl) ?_ | refine g_ildr Rw.c rfl (by omega) rfl (by omega) dL_isRead_185 hL (v := (M.1 5 j + 1)) (by simp (disch := omega) only [up_at] <;> rfl) ?_
      show Go _ _ _ _ _ _ 186 _ _
      refine g_iconst (v := nI 3) dL_isRead_186 (by decide +kernel) ?_
      refine g_icmp_ne (tgt := 194) dL_isRead_187 (by decide) (fun c_187 => ?_) (fun c_187 => ?_)
      · skip
        have e3 : ¬ (M.1 5 j + 1 = 3) := c_187
        refine g_ald4 dL_isRead_194 ?_
        refine g_bipush (v := nI 6) dL_isRead_196 (by decide +kernel) ?_
        refine g_ild8 dL_isRead_198 ?_
        first | refine g_imul_n dL_isRead_200 ?_ | refine g_imul dL_isRead_200 ?_
        show Go _ _ _ _ _ _ 201 _ _
        refine g_iconst (v := nI 1) dL_isRead_201 (by decide +kernel) ?_
        first | refine g_iadd_n dL_isRead_202 ?_ | refine g_iadd dL_isRead_202 ?_
        first | refine g_ildr Rw.g rfl (by omega) rfl (by omega) dL_isRead_203 hL (v := (M.1 4 (6 * j + 1))) (by simp (disch := omega) only [up_ne, uf_i]) ?_ | refine g_ildr Rw.t rfl (by omega) rfl (by omega) dL_isRead_203 hL (v := (M.1 4 (6 * j + 1))) (by simp (disch := omega) only [up_ne, uf_i]) ?_ | refine g_ildr Rw.d rfl (by omega) rfl (by omega) dL_isRead_203 hL (v := (M.1 4 (6 * j + 1))) (by simp (disch := omega) only [up_ne, uf_i]) ?_ | refine g_ildr Rw.a rfl (by omega) rfl (by omega) dL_isRead_203 hL (v := (M.1 4 (6 * j + 1))) (by simp (disch := omega) only [up_ne, uf_i]) ?_ | refine g_ildr Rw.b rfl (by omega) rfl (by omega) dL_isRead_203 hL (v := (M.1 4 (6 * j + 1))) (by simp (disch := omega) only [up_ne, uf_i]) ?_ | refine g_ildr Rw.c rfl (by omega) rfl (by omega) dL_isRead_203 hL (v := (M.1 4 (6 * j + 1))) (by simp (disch := omega) only [up_ne, uf_i]) ?_
        first | refine g_istr Rw.g rfl (by omega) rfl (by omega) dL_isRead_204 hL hK ?_ | refine g_istr Rw.t rfl (by omega) rfl (by omega) dL_isRead_204 hL hK ?_ | refine g_istr Rw.d rfl (by omega) rfl (by omega) dL_isRead_204 hL hK ?_ | refine g_istr Rw.a rfl (by omega) rfl (by omega) dL_isRead_204 hL hK ?_ | refine g_istr Rw.b rfl (by omega) rfl (by omega) dL_isRead_204 hL hK ?_ | refine g_istr Rw.c rfl (by omega) rfl (by omega) dL_isRead_204 hL hK ?_
        intro h hL hK
        refine g_ild10 dL_isRead_205 ?_
        refine g_if_eq_f (tgt := 219) dL_isRead_207 (by decide) (by decide) ?_
        show Go _ _ _ _ _ _ 210 _ _
        refine g_ald5 dL_isRead_210 ?_
        refine g_ild8 dL_isRead_212 ?_
        first | refine g_ildr Rw.g rfl (by omega) rfl (by omega) dL_isRead_214 hL (v := (M.1 5 j + 1)) (by simp (disch := omega) only [up_ne, up_at] <;> rfl) ?_ | refine g_ildr Rw.t rfl (by omega) rfl (by omega) dL_isRead_214 hL (v := (M.1 5 j + 1)) (by simp (disch := omega) only [up_ne, up_at] <;> rfl) ?_ | refine g_ildr Rw.d rfl (by omega) rfl (by omega) dL_isRead_214 hL (v := (M.1 5 j + 1)) (by simp (disch := omega) only [up_ne, up_at] <;> rfl) ?_ | refine g_ildr Rw.a rfl (by omega) rfl (by omega) dL_isRead_214 hL (v := (M.1 5 j + 1)) (by simp (disch := omega) only [up_ne, up_at] <;> rfl) ?_ | refine g_ildr Rw.b rfl (by omega) rfl (by omega) dL_isRead_214 hL (v := (M.1 5 j + 1)) (by simp (disch := omega) only [up_ne, up_at] <;> rfl) ?_ | refine g_ildr Rw.c rfl (by omega) rfl (by omega) dL_isRead_214 hL (v := (M.1 5 j + 1)) (by simp (disch := omega) only [up_ne, up_at] <;> rfl) ?_
        refine g_iconst (v := nI 3) dL_isRead_215 (by decide +kernel) ?_
        refine g_icmp_ne_t (tgt := 223) dL_isRead_216 (by decide) e3 ?_
        refine g_iconst (v := nI 0) dL_isRead_223 (by decide +kernel) ?_
        show Go _ _ _ _ _ _ 224 _ _
        exact g_zret rfl rfl dL_isRead_224 ⟨0, rfl, by rw [eB hs hlo]; exact (if_neg e3).symm, by rw [eB hs hlo]; show Lw _ (mRead2 M j it k); unfold mRead2; rw [if_neg e3]; exact hL, hK⟩
      · skip
        have e3 : M.1 5 j + 1 = 3 := c_187
        refine g_iconst (v := nI 2) dL_isRead_190 (by decide +kernel) ?_
        refine g_goto (tgt := 204) dL_isRead_191 (by decide) ?_
        first | refine g_istr Rw.g rfl (by omega) rfl (by omega) dL_isRead_204 hL hK ?_ | refine g_istr Rw.t rfl (by omega) rfl (by omega) dL_isRead_204 hL hK ?_ | refine g_istr Rw.d rfl (by omega) rfl (by omega) dL_isRead_204 hL hK ?_ | refine g_istr Rw.a rfl (by omega) rfl (by omega) dL_isRead_204 hL hK ?_ | refine g_istr Rw.b rfl (by omega) rfl (by omega) dL_isRead_204 hL hK ?_ | refine g_istr Rw.c rfl (by omega) rfl (by omega) dL_isRead_204 hL hK ?_
        intro h hL hK
        refine g_ild10 dL_isRead_205 ?_
        refine g_if_eq_f (tgt := 219) dL_isRead_207 (by decide) (by decide) ?_
        show Go _ _ _ _ _ _ 210 _ _
        refine g_ald5 dL_isRead_210 ?_
        refine g_ild8 dL_isRead_212 ?_
        first | refine g_ildr Rw.g rfl (by omega) rfl (by omega) dL_isRead_214 hL (v := (M.1 5 j + 1)) (by simp (disch := omega) only [up_ne, up_at] <;> rfl) ?_ | refine g_ildr Rw.t rfl (by omega) rfl (by omega) dL_isRead_214 hL (v := (M.1 5 j + 1)) (by simp (disch := omega) only [up_ne, up_at] <;> rfl) ?_ | refine g_ildr Rw.d rfl (by omega) rfl (by omega) dL_isRead_214 hL (v := (M.1 5 j + 1)) (by simp (disch := omega) only [up_ne, up_at] <;> rfl) ?_ | refine g_ildr Rw.a rfl (by omega) rfl (by omega) dL_isRead_214 hL (v := (M.1 5 j + 1)) (by simp (disch := omega) only [up_ne, up_at] <;> rfl) ?_ | refine g_ildr Rw.b rfl (by omega) rfl (by omega) dL_isRead_214 hL (v := (M.1 5 j + 1)) (by simp (disch := omega) only [up_ne, up_at] <;> rfl) ?_ | refine g_ildr Rw.c rfl (by omega) rfl (by omega) dL_isRead_214 hL (v := (M.1 5 j + 1)) (by simp (disch := omega) only [up_ne, up_at] <;> rfl) ?_
        refine g_iconst (v := nI 3) dL_isRead_215 (by decide +kernel) ?_
        refine g_icmp_ne_f (tgt := 223) dL_isRead_216 (by decide) e3 ?_
        refine g_iconst (v := nI 1) dL_isRead_219 (by decide +kernel) ?_
        show Go _ _ _ _ _ _ 220 _ _
        refine g_goto (tgt := 224) dL_isRead_220 (by decide) ?_
        exact g_zret rfl rfl dL_isRead_224 ⟨1, rfl, by rw [eB hs hlo]; exact (if_pos e3).symm, by rw [eB hs hlo]; show Lw _ (mRead2 M j it k); unfold mRead2; rw [if_pos e3]; exact hL, hK⟩
  · skip
    have hs : dst M k := (hd2.resolve_right (fun z => c_11 z.1)).2
    refine g_ald4 dL_isRead_14 ?_
    refine g_bipush (v := nI 6) dL_isRead_16 (by decide +kernel) ?_
    refine g_ild8 dL_isRead_18 ?_
    first | refine g_imul_n dL_isRead_20 ?_ | refine g_imul dL_isRead_20 ?_
    show Go _ _ _ _ _ _ 21 _ _
    refine g_iconst (v := nI 1) dL_isRead_21 (by decide +kernel) ?_
    first | refine g_iadd_n dL_isRead_22 ?_ | refine g_iadd dL_isRead_22 ?_
    refine g_iconst (v := nI 1) dL_isRead_23 (by decide +kernel) ?_
    first | refine g_istr Rw.g rfl (by omega) rfl (by omega) dL_isRead_24 hL hK ?_ | refine g_istr Rw.t rfl (by omega) rfl (by omega) dL_isRead_24 hL hK ?_ | refine g_istr Rw.d rfl (by omega) rfl (by omega) dL_isRead_24 hL hK ?_ | refine g_istr Rw.a rfl (by omega) rfl (by omega) dL_isRead_24 hL hK ?_ | refine g_istr Rw.b rfl (by omega) rfl (by omega) dL_isRead_24 hL hK ?_ | refine g_istr Rw.c rfl (by omega) rfl (by omega) dL_isRead_24 hL hK ?_
    intro h hL hK
    refine g_iconst (v := nI 1) dL_isRead_25 (by decide +kernel) ?_
    exact g_zret rfl rfl dL_isRead_26 ⟨1, rfl, by rw [eA hs], by rw [eA hs]; exact hL, hK⟩
end P36
