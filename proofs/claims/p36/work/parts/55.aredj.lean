/-! ===== the law's areDrives, areJobs ===== -/
section P55
variable {G : Gl} {h : Hp}
theorem lq_areDrives (M : Mo) (ni nd nj T : Nat) (hT : Tn h M ni nd nj T) : Ct G mL_areDrives [ga G 0, ga G 449, ga G 451, ga G 452] h 456 456 (dI 1 h) := by
  obtain ⟨hL, hR, hI, hX⟩ := id hT
  obtain ⟨⟨hi, hd, hj⟩, -, -, hC, hf, -⟩ := id hI.1
  obtain ⟨⟨z1, -, z3, -⟩, -⟩ := id hX.1
  obtain ⟨⟨-, -, -, -, -, -, -, s3, s4⟩, ⟨n1, n2, n3, -⟩, -, hD, -, -, -, hS⟩ := id hR
  refine Ct.of rfl (by simp [Value.category, ga]) (Nat.le_of_ble_eq_true rfl) (Nat.le_refl _) ?_
  show Go _ _ _ _ _ _ _ [some (ga G 0), some (ga G 449), some (ga G 451), some (ga G 452), none, none] []
  have loop : ∀ m i x5, m + i = nd → Go G mL_areDrives 456 (dI 1 h) h 456 3 [some (ga G 0), some (ga G 449), some (ga G 451), some (ga G 452), some (.int (nI i)), x5] [] := by
    intro m
    induction m with
    | zero =>
      intro i x5 hin
      obtain rfl : i = nd := by omega
      refine g_ild4 dL_areDrives_3 ?_
      refine g_ald1 dL_areDrives_5 ?_
      refine g_bipush (v := nI 10) dL_areDrives_6 (by decide +kernel) ?_
      first | refine g_ildr Rw.g rfl (by omega) rfl (by omega) dL_areDrives_8 hL (v := (nI i)) z3 ?_ | refine g_ildr Rw.t rfl (by omega) rfl (by omega) dL_areDrives_8 hL (v := (nI i)) z3 ?_ | refine g_ildr Rw.d rfl (by omega) rfl (by omega) dL_areDrives_8 hL (v := (nI i)) z3 ?_ | refine g_ildr Rw.a rfl (by omega) rfl (by omega) dL_areDrives_8 hL (v := (nI i)) z3 ?_ | refine g_ildr Rw.b rfl (by omega) rfl (by omega) dL_areDrives_8 hL (v := (nI i)) z3 ?_ | refine g_ildr Rw.c rfl (by omega) rfl (by omega) dL_areDrives_8 hL (v := (nI i)) z3 ?_
      refine g_icmp_ge_t (tgt := 186) dL_areDrives_9 (by decide) (nI_le (by omega) (by omega)) ?_
      show Go _ _ _ _ _ _ 186 _ _
      refine g_ald0 dL_areDrives_186 ?_
      refine g_ald1 dL_areDrives_187 ?_
      refine g_bipush (v := nI 10) dL_areDrives_188 (by decide +kernel) ?_
      first | refine g_ildr Rw.g rfl (by omega) rfl (by omega) dL_areDrives_190 hL (v := (nI i)) z3 ?_ | refine g_ildr Rw.t rfl (by omega) rfl (by omega) dL_areDrives_190 hL (v := (nI i)) z3 ?_ | refine g_ildr Rw.d rfl (by omega) rfl (by omega) dL_areDrives_190 hL (v := (nI i)) z3 ?_ | refine g_ildr Rw.a rfl (by omega) rfl (by omega) dL_areDrives_190 hL (v := (nI i)) z3 ?_ | refine g_ildr Rw.b rfl (by omega) rfl (by omega) dL_areDrives_190 hL (v := (nI i)) z3 ?_ | refine g_ildr Rw.c rfl (by omega) rfl (by omega) dL_areDrives_190 hL (v := (nI i)) z3 ?_
      refine g_iconst (v := nI 0) dL_areDrives_191 (by decide +kernel) ?_
      refine g_callV2 (c_drive_n (h := h) (nI i) (nI 0) i hS n2 (Or.inr (nI_le (Nat.le_refl _) (by omega)))) mw_2_169 ok_X9_drive ⟨by decide, by decide⟩ (by first | assumption | exact lay_item (by omega) | exact lay_drive (by omega) | exact lay_job (by omega) | rfl) (by omega) rfl (by omega) (by omega) (Nat.le_of_ble_eq_true rfl) dL_areDrives_192 (dI_K ?_)
      show Go _ _ _ _ _ _ 195 _ _
      refine g_iconst (v := -1) dL_areDrives_195 (by decide +kernel) ?_
      refine g_icmp_ne_f (tgt := 231) dL_areDrives_196 (by decide) rfl ?_
      refine g_ald0 dL_areDrives_199 ?_
      refine g_iconst (v := nI 0) dL_areDrives_200 (by decide +kernel) ?_
      refine g_callV1 (c_meter_0 (h := h) hS) mw_2_200 ok_X9_meter ⟨by decide, by decide⟩ (by first | assumption | exact lay_item (by omega) | exact lay_drive (by omega) | exact lay_job (by omega) | rfl) (by omega) rfl (by omega) (by omega) (Nat.le_of_ble_eq_true rfl) dL_areDrives_201 (dF_K ?_)
      rw [s3]
      refine g_f2d dL_areDrives_204 (fl_n64 hf.2.1) ?_
      show Go _ _ _ _ _ _ 205 _ _
      refine g_ald3 dL_areDrives_205 ?_
      refine g_bipush (v := nI 8) dL_areDrives_206 (by decide +kernel) ?_
      refine g_dldr rfl (by omega) rfl (by omega) dL_areDrives_208 hL rfl ?_
      refine g_dcmp dL_areDrives_209 ?_
      refine g_if_ne_f (tgt := 231) dL_areDrives_210 (by decide) ((dcmp0 hf.2.1 hf.2.1).mpr rfl) ?_
      refine g_ald0 dL_areDrives_213 ?_
      show Go _ _ _ _ _ _ 214 _ _
      refine g_iconst (v := nI 1) dL_areDrives_214 (by decide +kernel) ?_
      refine g_callV1 (c_meter_1 (h := h) hS) mw_2_200 ok_X9_meter ⟨by decide, by decide⟩ (by first | assumption | exact lay_item (by omega) | exact lay_drive (by omega) | exact lay_job (by omega) | rfl) (by omega) rfl (by omega) (by omega) (Nat.le_of_ble_eq_true rfl) dL_areDrives_215 (dF_K ?_)
      rw [s4]
      refine g_f2d dL_areDrives_218 (fl_n64 hf.2.2) ?_
      refine g_ald3 dL_areDrives_219 ?_
      refine g_bipush (v := nI 9) dL_areDrives_220 (by decide +kernel) ?_
      refine g_dldr rfl (by omega) rfl (by omega) dL_areDrives_222 hL rfl ?_
      show Go _ _ _ _ _ _ 223 _ _
      refine g_dcmp dL_areDrives_223 ?_
      refine g_if_ne_f (tgt := 231) dL_areDrives_224 (by decide) ((dcmp0 hf.2.2 hf.2.2).mpr rfl) ?_
      refine g_iconst (v := nI 1) dL_areDrives_227 (by decide +kernel) ?_
      refine g_goto (tgt := 232) dL_areDrives_228 (by decide) ?_
      exact g_zret rfl rfl dL_areDrives_232 ⟨rfl, rfl⟩
    | succ m ih =>
      intro i x5 hin
      have hin2 : i < nd := by omega
      obtain ⟨d0, d1, d2, d3, d4, d5, d6⟩ := hD i hin2
      obtain ⟨g1, g2⟩ := hf.1 i hin2
      refine g_ild4 dL_areDrives_3 ?_
      refine g_ald1 dL_areDrives_5 ?_
      refine g_bipush (v := nI 10) dL_areDrives_6 (by decide +kernel) ?_
      first | refine g_ildr Rw.g rfl (by omega) rfl (by omega) dL_areDrives_8 hL (v := (nI nd)) z3 ?_ | refine g_ildr Rw.t rfl (by omega) rfl (by omega) dL_areDrives_8 hL (v := (nI nd)) z3 ?_ | refine g_ildr Rw.d rfl (by omega) rfl (by omega) dL_areDrives_8 hL (v := (nI nd)) z3 ?_ | refine g_ildr Rw.a rfl (by omega) rfl (by omega) dL_areDrives_8 hL (v := (nI nd)) z3 ?_ | refine g_ildr Rw.b rfl (by omega) rfl (by omega) dL_areDrives_8 hL (v := (nI nd)) z3 ?_ | refine g_ildr Rw.c rfl (by omega) rfl (by omega) dL_areDrives_8 hL (v := (nI nd)) z3 ?_
      refine g_icmp_ge_f (tgt := 186) dL_areDrives_9 (by decide) (nI_ge (by omega) (by omega)) ?_
      show Go _ _ _ _ _ _ 12 _ _
      refine g_ald0 dL_areDrives_12 ?_
      refine g_ild4 dL_areDrives_13 ?_
      refine g_iconst (v := nI 0) dL_areDrives_15 (by decide +kernel) ?_
      refine g_callV2 (c_drive_0 (h := h) i nd hS n2 hd hin2) mw_2_169 ok_X9_drive ⟨by decide, by decide⟩ (by first | assumption | exact lay_item (by omega) | exact lay_drive (by omega) | exact lay_job (by omega) | rfl) (by omega) rfl (by omega) (by omega) (Nat.le_of_ble_eq_true rfl) dL_areDrives_16 (dI_K ?_)
      refine g_ald2 dL_areDrives_19 ?_
      refine g_bipush (v := nI 7) dL_areDrives_20 (by decide +kernel) ?_
      show Go _ _ _ _ _ _ 22 _ _
      refine g_ild4 dL_areDrives_22 ?_
      first | refine g_imul_n dL_areDrives_24 ?_ | refine g_imul dL_areDrives_24 ?_
      first | refine g_ildr Rw.g rfl (by omega) rfl (by omega) dL_areDrives_25 hL rfl ?_ | refine g_ildr Rw.t rfl (by omega) rfl (by omega) dL_areDrives_25 hL rfl ?_ | refine g_ildr Rw.d rfl (by omega) rfl (by omega) dL_areDrives_25 hL rfl ?_ | refine g_ildr Rw.a rfl (by omega) rfl (by omega) dL_areDrives_25 hL rfl ?_ | refine g_ildr Rw.b rfl (by omega) rfl (by omega) dL_areDrives_25 hL rfl ?_ | refine g_ildr Rw.c rfl (by omega) rfl (by omega) dL_areDrives_25 hL rfl ?_
      refine g_icmp_ne_f (tgt := 110) dL_areDrives_26 (by decide) d0 ?_
      refine g_ald0 dL_areDrives_29 ?_
      refine g_ild4 dL_areDrives_30 ?_
      show Go _ _ _ _ _ _ 32 _ _
      refine g_iconst (v := nI 1) dL_areDrives_32 (by decide +kernel) ?_
      refine g_callV2 (c_drive_1 (h := h) i nd hS n2 hd hin2) mw_2_169 ok_X9_drive ⟨by decide, by decide⟩ (by first | assumption | exact lay_item (by omega) | exact lay_drive (by omega) | exact lay_job (by omega) | rfl) (by omega) rfl (by omega) (by omega) (Nat.le_of_ble_eq_true rfl) dL_areDrives_33 (dI_K ?_)
      refine g_ald2 dL_areDrives_36 ?_
      refine g_bipush (v := nI 7) dL_areDrives_37 (by decide +kernel) ?_
      refine g_ild4 dL_areDrives_39 ?_
      first | refine g_imul_n dL_areDrives_41 ?_ | refine g_imul dL_areDrives_41 ?_
      show Go _ _ _ _ _ _ 42 _ _
      refine g_iconst (v := nI 3) dL_areDrives_42 (by decide +kernel) ?_
      first | refine g_iadd_n dL_areDrives_43 ?_ | refine g_iadd dL_areDrives_43 ?_
      first | refine g_ildr Rw.g rfl (by omega) rfl (by omega) dL_areDrives_44 hL rfl ?_ | refine g_ildr Rw.t rfl (by omega) rfl (by omega) dL_areDrives_44 hL rfl ?_ | refine g_ildr Rw.d rfl (by omega) rfl (by omega) dL_areDrives_44 hL rfl ?_ | refine g_ildr Rw.a rfl (by omega) rfl (by omega) dL_areDrives_44 hL rfl ?_ | refine g_ildr Rw.b rfl (by omega) rfl (by omega) dL_areDrives_44 hL rfl ?_ | refine g_ildr Rw.c rfl (by omega) rfl (by omega) dL_areDrives_44 hL rfl ?_
      refine g_icmp_ne_f (tgt := 110) dL_areDrives_45 (by decide) d3 ?_
      refine g_ald0 dL_areDrives_48 ?_
      refine g_ild4 dL_areDrives_49 ?_
      show Go _ _ _ _ _ _ 51 _ _
      refine g_iconst (v := nI 2) dL_areDrives_51 (by decide +kernel) ?_
      refine g_callV2 (c_drive_2 (h := h) i nd hS n2 hd hin2) mw_2_169 ok_X9_drive ⟨by decide, by decide⟩ (by first | assumption | exact lay_item (by omega) | exact lay_drive (by omega) | exact lay_job (by omega) | rfl) (by omega) rfl (by omega) (by omega) (Nat.le_of_ble_eq_true rfl) dL_areDrives_52 (dI_K ?_)
      refine g_ald2 dL_areDrives_55 ?_
      refine g_bipush (v := nI 7) dL_areDrives_56 (by decide +kernel) ?_
      refine g_ild4 dL_areDrives_58 ?_
      first | refine g_imul_n dL_areDrives_60 ?_ | refine g_imul dL_areDrives_60 ?_
      show Go _ _ _ _ _ _ 61 _ _
      refine g_iconst (v := nI 4) dL_areDrives_61 (by decide +kernel) ?_
      first | refine g_iadd_n dL_areDrives_62 ?_ | refine g_iadd dL_areDrives_62 ?_
      first | refine g_ildr Rw.g rfl (by omega) rfl (by omega) dL_areDrives_63 hL rfl ?_ | refine g_ildr Rw.t rfl (by omega) rfl (by omega) dL_areDrives_63 hL rfl ?_ | refine g_ildr Rw.d rfl (by omega) rfl (by omega) dL_areDrives_63 hL rfl ?_ | refine g_ildr Rw.a rfl (by omega) rfl (by omega) dL_areDrives_63 hL rfl ?_ | refine g_ildr Rw.b rfl (by omega) rfl (by omega) dL_areDrives_63 hL rfl ?_ | refine g_ildr Rw.c rfl (by omega) rfl (by omega) dL_areDrives_63 hL rfl ?_
      refine g_icmp_ne_f (tgt := 110) dL_areDrives_64 (by decide) d4 ?_
      refine g_ald0 dL_areDrives_67 ?_
      refine g_ild4 dL_areDrives_68 ?_
      show Go _ _ _ _ _ _ 70 _ _
      refine g_iconst (v := nI 3) dL_areDrives_70 (by decide +kernel) ?_
      refine g_callV2 (c_drive_3 (h := h) i nd hS n2 hd hin2) mw_2_169 ok_X9_drive ⟨by decide, by decide⟩ (by first | assumption | exact lay_item (by omega) | exact lay_drive (by omega) | exact lay_job (by omega) | rfl) (by omega) rfl (by omega) (by omega) (Nat.le_of_ble_eq_true rfl) dL_areDrives_71 (dI_K ?_)
      refine g_ald2 dL_areDrives_74 ?_
      refine g_bipush (v := nI 7) dL_areDrives_75 (by decide +kernel) ?_
      refine g_ild4 dL_areDrives_77 ?_
      first | refine g_imul_n dL_areDrives_79 ?_ | refine g_imul dL_areDrives_79 ?_
      show Go _ _ _ _ _ _ 80 _ _
      refine g_iconst (v := nI 5) dL_areDrives_80 (by decide +kernel) ?_
      first | refine g_iadd_n dL_areDrives_81 ?_ | refine g_iadd dL_areDrives_81 ?_
      first | refine g_ildr Rw.g rfl (by omega) rfl (by omega) dL_areDrives_82 hL rfl ?_ | refine g_ildr Rw.t rfl (by omega) rfl (by omega) dL_areDrives_82 hL rfl ?_ | refine g_ildr Rw.d rfl (by omega) rfl (by omega) dL_areDrives_82 hL rfl ?_ | refine g_ildr Rw.a rfl (by omega) rfl (by omega) dL_areDrives_82 hL rfl ?_ | refine g_ildr Rw.b rfl (by omega) rfl (by omega) dL_areDrives_82 hL rfl ?_ | refine g_ildr Rw.c rfl (by omega) rfl (by omega) dL_areDrives_82 hL rfl ?_
      refine g_icmp_ne_f (tgt := 110) dL_areDrives_83 (by decide) d5 ?_
      refine g_ald0 dL_areDrives_86 ?_
      refine g_ild4 dL_areDrives_87 ?_
      show Go _ _ _ _ _ _ 89 _ _
      refine g_iconst (v := nI 4) dL_areDrives_89 (by decide +kernel) ?_
      refine g_callV2 (c_drive_4 (h := h) i nd hS n2 hd hin2) mw_2_169 ok_X9_drive ⟨by decide, by decide⟩ (by first | assumption | exact lay_item (by omega) | exact lay_drive (by omega) | exact lay_job (by omega) | rfl) (by omega) rfl (by omega) (by omega) (Nat.le_of_ble_eq_true rfl) dL_areDrives_90 (dI_K ?_)
      refine g_ald2 dL_areDrives_93 ?_
      refine g_bipush (v := nI 7) dL_areDrives_94 (by decide +kernel) ?_
      refine g_ild4 dL_areDrives_96 ?_
      first | refine g_imul_n dL_areDrives_98 ?_ | refine g_imul dL_areDrives_98 ?_
      show Go _ _ _ _ _ _ 99 _ _
      refine g_bipush (v := nI 6) dL_areDrives_99 (by decide +kernel) ?_
      first | refine g_iadd_n dL_areDrives_101 ?_ | refine g_iadd dL_areDrives_101 ?_
      first | refine g_ildr Rw.g rfl (by omega) rfl (by omega) dL_areDrives_102 hL rfl ?_ | refine g_ildr Rw.t rfl (by omega) rfl (by omega) dL_areDrives_102 hL rfl ?_ | refine g_ildr Rw.d rfl (by omega) rfl (by omega) dL_areDrives_102 hL rfl ?_ | refine g_ildr Rw.a rfl (by omega) rfl (by omega) dL_areDrives_102 hL rfl ?_ | refine g_ildr Rw.b rfl (by omega) rfl (by omega) dL_areDrives_102 hL rfl ?_ | refine g_ildr Rw.c rfl (by omega) rfl (by omega) dL_areDrives_102 hL rfl ?_
      refine g_icmp_ne_f (tgt := 110) dL_areDrives_103 (by decide) d6 ?_
      refine g_iconst (v := nI 1) dL_areDrives_106 (by decide +kernel) ?_
      refine g_goto (tgt := 111) dL_areDrives_107 (by decide) ?_
      show Go _ _ _ _ _ _ 111 _ _
      refine g_ist5 (by decide) dL_areDrives_111 ?_
      refine g_ild5 dL_areDrives_113 ?_
      refine g_if_eq_f (tgt := 178) dL_areDrives_115 (by decide) (by decide) ?_
      refine g_ald0 dL_areDrives_118 ?_
      refine g_ild4 dL_areDrives_119 ?_
      refine g_iconst (v := nI 5) dL_areDrives_121 (by decide +kernel) ?_
      show Go _ _ _ _ _ _ 122 _ _
      refine g_callV2 (c_drive_5 (h := h) i nd hS n2 hd hin2 (by rw [d1]; exact g1) (by rw [d2]; exact g2)) mw_2_169 ok_X9_drive ⟨by decide, by decide⟩ (by first | assumption | exact lay_item (by omega) | exact lay_drive (by omega) | exact lay_job (by omega) | rfl) (by omega) rfl (by omega) (by omega) (Nat.le_of_ble_eq_true rfl) dL_areDrives_122 (dI_K ?_)
      refine g_ald3 dL_areDrives_125 ?_
      refine g_ild4 dL_areDrives_126 ?_
      refine g_callS2 (l_isDusty (h := h) M i hL (by omega) g1 g2) mw_2_185 ok_L_isDusty ⟨by decide, by decide⟩ (by omega) (by omega) (Nat.le_of_ble_eq_true rfl) dL_areDrives_128 (rB_K ?_)
      intro r hr
      have hn0 : r = 0 → ¬ dst M i := fun e => by
        rcases hr with ⟨w, -⟩ | ⟨-, w⟩
        · exact absurd (w.symm.trans e) (by decide)
        · exact w
      have hy0 : ¬ r = 0 → dst M i := fun e => by
        rcases hr with ⟨-, w⟩ | ⟨w, -⟩
        · exact w
        · exact absurd w e
      refine g_if_eq (tgt := 138) dL_areDrives_131 (by decide) (fun c_131 => ?_) (fun c_131 => ?_)
      · skip
        refine g_iconst (v := nI 0) dL_areDrives_138 (by decide +kernel) ?_
        show Go _ _ _ _ _ _ 139 _ _
        refine g_icmp_ne_f (tgt := 178) dL_areDrives_139 (by decide) (by rw [d1, d2]; exact if_neg (hn0 c_131)) ?_
        refine g_ald0 dL_areDrives_142 ?_
        refine g_ild4 dL_areDrives_143 ?_
        refine g_callV1 (c_dust (h := h) i nd hS n2 hd hin2) mw_2_188 ok_X9_dust ⟨by decide, by decide⟩ (by first | assumption | exact lay_item (by omega) | exact lay_drive (by omega) | exact lay_job (by omega) | rfl) (by omega) rfl (by omega) (by omega) (Nat.le_of_ble_eq_true rfl) dL_areDrives_145 (dF_K ?_)
        rw [d1]
        refine g_f2d dL_areDrives_148 (fl_n64 g1) ?_
        refine g_ald3 dL_areDrives_149 ?_
        show Go _ _ _ _ _ _ 150 _ _
        refine g_iconst (v := nI 2) dL_areDrives_150 (by decide +kernel) ?_
        refine g_ild4 dL_areDrives_151 ?_
        first | refine g_imul_n dL_areDrives_153 ?_ | refine g_imul dL_areDrives_153 ?_
        refine g_dldr rfl (by omega) rfl (by omega) dL_areDrives_154 hL rfl ?_
        refine g_dcmp dL_areDrives_155 ?_
        refine g_if_ne_f (tgt := 178) dL_areDrives_156 (by decide) ((dcmp0 g1 g1).mpr rfl) ?_
        show Go _ _ _ _ _ _ 159 _ _
        refine g_ald0 dL_areDrives_159 ?_
        refine g_ild4 dL_areDrives_160 ?_
        refine g_callV1 (c_ceiling (h := h) i nd hS n2 hd hin2) mw_2_196 ok_X9_ceiling ⟨by decide, by decide⟩ (by first | assumption | exact lay_item (by omega) | exact lay_drive (by omega) | exact lay_job (by omega) | rfl) (by omega) rfl (by omega) (by omega) (Nat.le_of_ble_eq_true rfl) dL_areDrives_162 (dF_K ?_)
        rw [d2]
        refine g_f2d dL_areDrives_165 (fl_n64 g2) ?_
        refine g_ald3 dL_areDrives_166 ?_
        refine g_iconst (v := nI 2) dL_areDrives_167 (by decide +kernel) ?_
        show Go _ _ _ _ _ _ 168 _ _
        refine g_ild4 dL_areDrives_168 ?_
        first | refine g_imul_n dL_areDrives_170 ?_ | refine g_imul dL_areDrives_170 ?_
        refine g_iconst (v := nI 1) dL_areDrives_171 (by decide +kernel) ?_
        first | refine g_iadd_n dL_areDrives_172 ?_ | refine g_iadd dL_areDrives_172 ?_
        refine g_dldr rfl (by omega) rfl (by omega) dL_areDrives_173 hL rfl ?_
        refine g_dcmp dL_areDrives_174 ?_
        show Go _ _ _ _ _ _ 175 _ _
        refine g_if_eq_t (tgt := 180) dL_areDrives_175 (by decide) ((dcmp0 g2 g2).mpr rfl) ?_
        refine g_iinc4 (by decide) dL_areDrives_180 (nI_1 i) ?_
        refine g_goto (tgt := 3) dL_areDrives_183 (by decide) ?_
        exact ih (i + 1) _ (by omega)
      · skip
        refine g_iconst (v := nI 1) dL_areDrives_134 (by decide +kernel) ?_
        refine g_goto (tgt := 139) dL_areDrives_135 (by decide) ?_
        refine g_icmp_ne_f (tgt := 178) dL_areDrives_139 (by decide) (by rw [d1, d2]; exact if_pos (hy0 c_131)) ?_
        show Go _ _ _ _ _ _ 142 _ _
        refine g_ald0 dL_areDrives_142 ?_
        refine g_ild4 dL_areDrives_143 ?_
        refine g_callV1 (c_dust (h := h) i nd hS n2 hd hin2) mw_2_188 ok_X9_dust ⟨by decide, by decide⟩ (by first | assumption | exact lay_item (by omega) | exact lay_drive (by omega) | exact lay_job (by omega) | rfl) (by omega) rfl (by omega) (by omega) (Nat.le_of_ble_eq_true rfl) dL_areDrives_145 (dF_K ?_)
        rw [d1]
        refine g_f2d dL_areDrives_148 (fl_n64 g1) ?_
        refine g_ald3 dL_areDrives_149 ?_
        refine g_iconst (v := nI 2) dL_areDrives_150 (by decide +kernel) ?_
        show Go _ _ _ _ _ _ 151 _ _
        refine g_ild4 dL_areDrives_151 ?_
        first | refine g_imul_n dL_areDrives_153 ?_ | refine g_imul dL_areDrives_153 ?_
        refine g_dldr rfl (by omega) rfl (by omega) dL_areDrives_154 hL rfl ?_
        refine g_dcmp dL_areDrives_155 ?_
        refine g_if_ne_f (tgt := 178) dL_areDrives_156 (by decide) ((dcmp0 g1 g1).mpr rfl) ?_
        refine g_ald0 dL_areDrives_159 ?_
        show Go _ _ _ _ _ _ 160 _ _
        refine g_ild4 dL_areDrives_160 ?_
        refine g_callV1 (c_ceiling (h := h) i nd hS n2 hd hin2) mw_2_196 ok_X9_ceiling ⟨by decide, by decide⟩ (by first | assumption | exact lay_item (by omega) | exact lay_drive (by omega) | exact lay_job (by omega) | rfl) (by omega) rfl (by omega) (by omega) (Nat.le_of_ble_eq_true rfl) dL_areDrives_162 (dF_K ?_)
        rw [d2]
        refine g_f2d dL_areDrives_165 (fl_n64 g2) ?_
        refine g_ald3 dL_areDrives_166 ?_
        refine g_iconst (v := nI 2) dL_areDrives_167 (by decide +kernel) ?_
        refine g_ild4 dL_areDrives_168 ?_
        show Go _ _ _ _ _ _ 170 _ _
        first | refine g_imul_n dL_areDrives_170 ?_ | refine g_imul dL_areDrives_170 ?_
        refine g_iconst (v := nI 1) dL_areDrives_171 (by decide +kernel) ?_
        first | refine g_iadd_n dL_areDrives_172 ?_ | refine g_iadd dL_areDrives_172 ?_
        refine g_dldr rfl (by omega) rfl (by omega) dL_areDrives_173 hL rfl ?_
        refine g_dcmp dL_areDrives_174 ?_
        refine g_if_eq_t (tgt := 180) dL_areDrives_175 (by decide) ((dcmp0 g2 g2).mpr rfl) ?_
        show Go _ _ _ _ _ _ 180 _ _
        refine g_iinc4 (by decide) dL_areDrives_180 (nI_1 i) ?_
        refine g_goto (tgt := 3) dL_areDrives_183 (by decide) ?_
        exact ih (i + 1) _ (by omega)
  refine g_iconst (v := nI 0) dL_areDrives_0 (by decide +kernel) ?_
  refine g_ist4 (by decide) dL_areDrives_1 ?_
  exact loop nd 0 _ (by omega)
theorem lq_areJobs (M : Mo) (ni nd nj T : Nat) (hT : Tn h M ni nd nj T) : Ct G mL_areJobs [ga G 0, ga G 449, ga G 453, ga G 454] h 456 456 (dI 1 h) := by
  obtain ⟨hL, hR, hI, hX⟩ := id hT
  obtain ⟨⟨hi, hd, hj⟩, -, -, hC, hf, -⟩ := id hI.1
  obtain ⟨⟨z1, -, z3, -, z5, -⟩, -⟩ := id hX.1
  obtain ⟨-, ⟨n1, n2, n3, -⟩, -, -, hJ, -, -, hS⟩ := id hR
  refine Ct.of rfl (by simp [Value.category, ga]) (Nat.le_of_ble_eq_true rfl) (Nat.le_refl _) ?_
  show Go _ _ _ _ _ _ _ [some (ga G 0), some (ga G 449), some (ga G 453), some (ga G 454), none, none] []
  have loop : ∀ m i x5, m + i = nj → Go G mL_areJobs 456 (dI 1 h) h 456 3 [some (ga G 0), some (ga G 449), some (ga G 453), some (ga G 454), some (.int (nI i)), x5] [] := by
    intro m
    induction m with
    | zero =>
      intro i x5 hin
      obtain rfl : i = nj := by omega
      rcases Nat.eq_zero_or_pos i with hz | hpos
      · skip
        refine g_ild4 dL_areJobs_3 ?_
        refine g_ald1 dL_areJobs_5 ?_
        refine g_bipush (v := nI 11) dL_areJobs_6 (by decide +kernel) ?_
        first | refine g_ildr Rw.g rfl (by omega) rfl (by omega) dL_areJobs_8 hL (v := (nI i)) z5 ?_ | refine g_ildr Rw.t rfl (by omega) rfl (by omega) dL_areJobs_8 hL (v := (nI i)) z5 ?_ | refine g_ildr Rw.d rfl (by omega) rfl (by omega) dL_areJobs_8 hL (v := (nI i)) z5 ?_ | refine g_ildr Rw.a rfl (by omega) rfl (by omega) dL_areJobs_8 hL (v := (nI i)) z5 ?_ | refine g_ildr Rw.b rfl (by omega) rfl (by omega) dL_areJobs_8 hL (v := (nI i)) z5 ?_ | refine g_ildr Rw.c rfl (by omega) rfl (by omega) dL_areJobs_8 hL (v := (nI i)) z5 ?_
        refine g_icmp_ge_t (tgt := 274) dL_areJobs_9 (by decide) (nI_le (by omega) (by omega)) ?_
        show Go _ _ _ _ _ _ 274 _ _
        refine g_ald0 dL_areJobs_274 ?_
        refine g_ald1 dL_areJobs_275 ?_
        refine g_bipush (v := nI 11) dL_areJobs_276 (by decide +kernel) ?_
        first | refine g_ildr Rw.g rfl (by omega) rfl (by omega) dL_areJobs_278 hL (v := (nI i)) z5 ?_ | refine g_ildr Rw.t rfl (by omega) rfl (by omega) dL_areJobs_278 hL (v := (nI i)) z5 ?_ | refine g_ildr Rw.d rfl (by omega) rfl (by omega) dL_areJobs_278 hL (v := (nI i)) z5 ?_ | refine g_ildr Rw.a rfl (by omega) rfl (by omega) dL_areJobs_278 hL (v := (nI i)) z5 ?_ | refine g_ildr Rw.b rfl (by omega) rfl (by omega) dL_areJobs_278 hL (v := (nI i)) z5 ?_ | refine g_ildr Rw.c rfl (by omega) rfl (by omega) dL_areJobs_278 hL (v := (nI i)) z5 ?_
        refine g_iconst (v := nI 0) dL_areJobs_279 (by decide +kernel) ?_
        refine g_callV2 (c_job_n (h := h) (nI i) (nI 0) i hS n3 (Or.inr (nI_le (Nat.le_refl _) (by omega)))) mw_2_211 ok_X9_job ⟨by decide, by decide⟩ (by first | assumption | exact lay_item (by omega) | exact lay_drive (by omega) | exact lay_job (by omega) | rfl) (by omega) rfl (by omega) (by omega) (Nat.le_of_ble_eq_true rfl) dL_areJobs_280 (dI_K ?_)
        show Go _ _ _ _ _ _ 283 _ _
        refine g_iconst (v := -1) dL_areJobs_283 (by decide +kernel) ?_
        refine g_icmp_ne_f (tgt := 314) dL_areJobs_284 (by decide) rfl ?_
        refine g_ald0 dL_areJobs_287 ?_
        refine g_iconst (v := nI 0) dL_areJobs_288 (by decide +kernel) ?_
        refine g_bipush (v := nI 12) dL_areJobs_289 (by decide +kernel) ?_
        refine g_callV2 (c_job_n (h := h) (nI 0) (nI 12) i hS n3 (Or.inr (nI_le (by omega) (by omega)))) mw_2_211 ok_X9_job ⟨by decide, by decide⟩ (by first | assumption | exact lay_item (by omega) | exact lay_drive (by omega) | exact lay_job (by omega) | rfl) (by omega) rfl (by omega) (by omega) (Nat.le_of_ble_eq_true rfl) dL_areJobs_291 (dI_K ?_)
        show Go _ _ _ _ _ _ 294 _ _
        refine g_ald1 dL_areJobs_294 ?_
        refine g_bipush (v := nI 11) dL_areJobs_295 (by decide +kernel) ?_
        first | refine g_ildr Rw.g rfl (by omega) rfl (by omega) dL_areJobs_297 hL (v := (nI i)) z5 ?_ | refine g_ildr Rw.t rfl (by omega) rfl (by omega) dL_areJobs_297 hL (v := (nI i)) z5 ?_ | refine g_ildr Rw.d rfl (by omega) rfl (by omega) dL_areJobs_297 hL (v := (nI i)) z5 ?_ | refine g_ildr Rw.a rfl (by omega) rfl (by omega) dL_areJobs_297 hL (v := (nI i)) z5 ?_ | refine g_ildr Rw.b rfl (by omega) rfl (by omega) dL_areJobs_297 hL (v := (nI i)) z5 ?_ | refine g_ildr Rw.c rfl (by omega) rfl (by omega) dL_areJobs_297 hL (v := (nI i)) z5 ?_
        refine g_if_le_t (tgt := 306) dL_areJobs_298 (by decide) (by rw [hz]; decide) ?_
        refine g_iconst (v := -1) dL_areJobs_306 (by decide +kernel) ?_
        refine g_icmp_ne_f (tgt := 314) dL_areJobs_307 (by decide) rfl ?_
        show Go _ _ _ _ _ _ 310 _ _
        refine g_iconst (v := nI 1) dL_areJobs_310 (by decide +kernel) ?_
        refine g_goto (tgt := 315) dL_areJobs_311 (by decide) ?_
        exact g_zret rfl rfl dL_areJobs_315 ⟨rfl, rfl⟩
      · skip
        refine g_ild4 dL_areJobs_3 ?_
        refine g_ald1 dL_areJobs_5 ?_
        refine g_bipush (v := nI 11) dL_areJobs_6 (by decide +kernel) ?_
        first | refine g_ildr Rw.g rfl (by omega) rfl (by omega) dL_areJobs_8 hL (v := (nI i)) z5 ?_ | refine g_ildr Rw.t rfl (by omega) rfl (by omega) dL_areJobs_8 hL (v := (nI i)) z5 ?_ | refine g_ildr Rw.d rfl (by omega) rfl (by omega) dL_areJobs_8 hL (v := (nI i)) z5 ?_ | refine g_ildr Rw.a rfl (by omega) rfl (by omega) dL_areJobs_8 hL (v := (nI i)) z5 ?_ | refine g_ildr Rw.b rfl (by omega) rfl (by omega) dL_areJobs_8 hL (v := (nI i)) z5 ?_ | refine g_ildr Rw.c rfl (by omega) rfl (by omega) dL_areJobs_8 hL (v := (nI i)) z5 ?_
        refine g_icmp_ge_t (tgt := 274) dL_areJobs_9 (by decide) (nI_le (by omega) (by omega)) ?_
        show Go _ _ _ _ _ _ 274 _ _
        refine g_ald0 dL_areJobs_274 ?_
        refine g_ald1 dL_areJobs_275 ?_
        refine g_bipush (v := nI 11) dL_areJobs_276 (by decide +kernel) ?_
        first | refine g_ildr Rw.g rfl (by omega) rfl (by omega) dL_areJobs_278 hL (v := (nI i)) z5 ?_ | refine g_ildr Rw.t rfl (by omega) rfl (by omega) dL_areJobs_278 hL (v := (nI i)) z5 ?_ | refine g_ildr Rw.d rfl (by omega) rfl (by omega) dL_areJobs_278 hL (v := (nI i)) z5 ?_ | refine g_ildr Rw.a rfl (by omega) rfl (by omega) dL_areJobs_278 hL (v := (nI i)) z5 ?_ | refine g_ildr Rw.b rfl (by omega) rfl (by omega) dL_areJobs_278 hL (v := (nI i)) z5 ?_ | refine g_ildr Rw.c rfl (by omega) rfl (by omega) dL_areJobs_278 hL (v := (nI i)) z5 ?_
        refine g_iconst (v := nI 0) dL_areJobs_279 (by decide +kernel) ?_
        refine g_callV2 (c_job_n (h := h) (nI i) (nI 0) i hS n3 (Or.inr (nI_le (Nat.le_refl _) (by omega)))) mw_2_211 ok_X9_job ⟨by decide, by decide⟩ (by first | assumption | exact lay_item (by omega) | exact lay_drive (by omega) | exact lay_job (by omega) | rfl) (by omega) rfl (by omega) (by omega) (Nat.le_of_ble_eq_true rfl) dL_areJobs_280 (dI_K ?_)
        show Go _ _ _ _ _ _ 283 _ _
        refine g_iconst (v := -1) dL_areJobs_283 (by decide +kernel) ?_
        refine g_icmp_ne_f (tgt := 314) dL_areJobs_284 (by decide) rfl ?_
        refine g_ald0 dL_areJobs_287 ?_
        refine g_iconst (v := nI 0) dL_areJobs_288 (by decide +kernel) ?_
        refine g_bipush (v := nI 12) dL_areJobs_289 (by decide +kernel) ?_
        refine g_callV2 (c_job_12 (h := h) 0 i hS n3 (by omega) hpos) mw_2_211 ok_X9_job ⟨by decide, by decide⟩ (by first | assumption | exact lay_item (by omega) | exact lay_drive (by omega) | exact lay_job (by omega) | rfl) (by omega) rfl (by omega) (by omega) (Nat.le_of_ble_eq_true rfl) dL_areJobs_291 (dI_K ?_)
        show Go _ _ _ _ _ _ 294 _ _
        refine g_ald1 dL_areJobs_294 ?_
        refine g_bipush (v := nI 11) dL_areJobs_295 (by decide +kernel) ?_
        first | refine g_ildr Rw.g rfl (by omega) rfl (by omega) dL_areJobs_297 hL (v := (nI i)) z5 ?_ | refine g_ildr Rw.t rfl (by omega) rfl (by omega) dL_areJobs_297 hL (v := (nI i)) z5 ?_ | refine g_ildr Rw.d rfl (by omega) rfl (by omega) dL_areJobs_297 hL (v := (nI i)) z5 ?_ | refine g_ildr Rw.a rfl (by omega) rfl (by omega) dL_areJobs_297 hL (v := (nI i)) z5 ?_ | refine g_ildr Rw.b rfl (by omega) rfl (by omega) dL_areJobs_297 hL (v := (nI i)) z5 ?_ | refine g_ildr Rw.c rfl (by omega) rfl (by omega) dL_areJobs_297 hL (v := (nI i)) z5 ?_
        refine g_if_le_f (tgt := 306) dL_areJobs_298 (by decide) (nI_ge (a := 0) hpos (by omega)) ?_
        refine g_bipush (v := -2) dL_areJobs_301 (by decide +kernel) ?_
        refine g_goto (tgt := 307) dL_areJobs_303 (by decide) ?_
        show Go _ _ _ _ _ _ 307 _ _
        refine g_icmp_ne_f (tgt := 314) dL_areJobs_307 (by decide) rfl ?_
        refine g_iconst (v := nI 1) dL_areJobs_310 (by decide +kernel) ?_
        refine g_goto (tgt := 315) dL_areJobs_311 (by decide) ?_
        exact g_zret rfl rfl dL_areJobs_315 ⟨rfl, rfl⟩
    | succ m ih =>
      intro i x5 hin
      have hin2 : i < nj := by omega
      obtain ⟨⟨f0, f1, f2, f3⟩, ⟨f4, f5, -, f6, f7⟩, f8, f9, f10, f11, -⟩ := hJ i hin2
      have hf6 : (if h.1 (29 + i) 3 = 1 then h.1 (29 + i) 6 else -5) = M.1 3 (6 * i + 4) := by
        rw [f3]
        by_cases c : M.1 3 (6 * i + 3) = 1
        · rw [if_pos c]; exact f6 c
        · rw [if_neg c]; exact (hX.2.2 i hin2 c).symm
      refine g_ild4 dL_areJobs_3 ?_
      refine g_ald1 dL_areJobs_5 ?_
      refine g_bipush (v := nI 11) dL_areJobs_6 (by decide +kernel) ?_
      first | refine g_ildr Rw.g rfl (by omega) rfl (by omega) dL_areJobs_8 hL (v := (nI nj)) z5 ?_ | refine g_ildr Rw.t rfl (by omega) rfl (by omega) dL_areJobs_8 hL (v := (nI nj)) z5 ?_ | refine g_ildr Rw.d rfl (by omega) rfl (by omega) dL_areJobs_8 hL (v := (nI nj)) z5 ?_ | refine g_ildr Rw.a rfl (by omega) rfl (by omega) dL_areJobs_8 hL (v := (nI nj)) z5 ?_ | refine g_ildr Rw.b rfl (by omega) rfl (by omega) dL_areJobs_8 hL (v := (nI nj)) z5 ?_ | refine g_ildr Rw.c rfl (by omega) rfl (by omega) dL_areJobs_8 hL (v := (nI nj)) z5 ?_
      refine g_icmp_ge_f (tgt := 274) dL_areJobs_9 (by decide) (nI_ge (by omega) (by omega)) ?_
      show Go _ _ _ _ _ _ 12 _ _
      refine g_ald0 dL_areJobs_12 ?_
      refine g_ild4 dL_areJobs_13 ?_
      refine g_iconst (v := nI 0) dL_areJobs_15 (by decide +kernel) ?_
      refine g_callV2 (c_job_0 (h := h) i nj hS n3 (by omega) hin2) mw_2_211 ok_X9_job ⟨by decide, by decide⟩ (by first | assumption | exact lay_item (by omega) | exact lay_drive (by omega) | exact lay_job (by omega) | rfl) (by omega) rfl (by omega) (by omega) (Nat.le_of_ble_eq_true rfl) dL_areJobs_16 (dI_K ?_)
      refine g_ald2 dL_areJobs_19 ?_
      refine g_bipush (v := nI 6) dL_areJobs_20 (by decide +kernel) ?_
      show Go _ _ _ _ _ _ 22 _ _
      refine g_ild4 dL_areJobs_22 ?_
      first | refine g_imul_n dL_areJobs_24 ?_ | refine g_imul dL_areJobs_24 ?_
      first | refine g_ildr Rw.g rfl (by omega) rfl (by omega) dL_areJobs_25 hL rfl ?_ | refine g_ildr Rw.t rfl (by omega) rfl (by omega) dL_areJobs_25 hL rfl ?_ | refine g_ildr Rw.d rfl (by omega) rfl (by omega) dL_areJobs_25 hL rfl ?_ | refine g_ildr Rw.a rfl (by omega) rfl (by omega) dL_areJobs_25 hL rfl ?_ | refine g_ildr Rw.b rfl (by omega) rfl (by omega) dL_areJobs_25 hL rfl ?_ | refine g_ildr Rw.c rfl (by omega) rfl (by omega) dL_areJobs_25 hL rfl ?_
      refine g_icmp_ne_f (tgt := 130) dL_areJobs_26 (by decide) f0 ?_
      refine g_ald0 dL_areJobs_29 ?_
      refine g_ild4 dL_areJobs_30 ?_
      show Go _ _ _ _ _ _ 32 _ _
      refine g_iconst (v := nI 1) dL_areJobs_32 (by decide +kernel) ?_
      refine g_callV2 (c_job_1 (h := h) i nj hS n3 (by omega) hin2) mw_2_211 ok_X9_job ⟨by decide, by decide⟩ (by first | assumption | exact lay_item (by omega) | exact lay_drive (by omega) | exact lay_job (by omega) | rfl) (by omega) rfl (by omega) (by omega) (Nat.le_of_ble_eq_true rfl) dL_areJobs_33 (dI_K ?_)
      refine g_ald2 dL_areJobs_36 ?_
      refine g_bipush (v := nI 6) dL_areJobs_37 (by decide +kernel) ?_
      refine g_ild4 dL_areJobs_39 ?_
      first | refine g_imul_n dL_areJobs_41 ?_ | refine g_imul dL_areJobs_41 ?_
      show Go _ _ _ _ _ _ 42 _ _
      refine g_iconst (v := nI 1) dL_areJobs_42 (by decide +kernel) ?_
      first | refine g_iadd_n dL_areJobs_43 ?_ | refine g_iadd dL_areJobs_43 ?_
      first | refine g_ildr Rw.g rfl (by omega) rfl (by omega) dL_areJobs_44 hL rfl ?_ | refine g_ildr Rw.t rfl (by omega) rfl (by omega) dL_areJobs_44 hL rfl ?_ | refine g_ildr Rw.d rfl (by omega) rfl (by omega) dL_areJobs_44 hL rfl ?_ | refine g_ildr Rw.a rfl (by omega) rfl (by omega) dL_areJobs_44 hL rfl ?_ | refine g_ildr Rw.b rfl (by omega) rfl (by omega) dL_areJobs_44 hL rfl ?_ | refine g_ildr Rw.c rfl (by omega) rfl (by omega) dL_areJobs_44 hL rfl ?_
      refine g_icmp_ne_f (tgt := 130) dL_areJobs_45 (by decide) f1 ?_
      refine g_ald0 dL_areJobs_48 ?_
      refine g_ild4 dL_areJobs_49 ?_
      show Go _ _ _ _ _ _ 51 _ _
      refine g_iconst (v := nI 2) dL_areJobs_51 (by decide +kernel) ?_
      refine g_callV2 (c_job_2 (h := h) i nj hS n3 (by omega) hin2) mw_2_211 ok_X9_job ⟨by decide, by decide⟩ (by first | assumption | exact lay_item (by omega) | exact lay_drive (by omega) | exact lay_job (by omega) | rfl) (by omega) rfl (by omega) (by omega) (Nat.le_of_ble_eq_true rfl) dL_areJobs_52 (dI_K ?_)
      refine g_ald2 dL_areJobs_55 ?_
      refine g_bipush (v := nI 6) dL_areJobs_56 (by decide +kernel) ?_
      refine g_ild4 dL_areJobs_58 ?_
      first | refine g_imul_n dL_areJobs_60 ?_ | refine g_imul dL_areJobs_60 ?_
      show Go _ _ _ _ _ _ 61 _ _
      refine g_iconst (v := nI 2) dL_areJobs_61 (by decide +kernel) ?_
      first | refine g_iadd_n dL_areJobs_62 ?_ | refine g_iadd dL_areJobs_62 ?_
      first | refine g_ildr Rw.g rfl (by omega) rfl (by omega) dL_areJobs_63 hL rfl ?_ | refine g_ildr Rw.t rfl (by omega) rfl (by omega) dL_areJobs_63 hL rfl ?_ | refine g_ildr Rw.d rfl (by omega) rfl (by omega) dL_areJobs_63 hL rfl ?_ | refine g_ildr Rw.a rfl (by omega) rfl (by omega) dL_areJobs_63 hL rfl ?_ | refine g_ildr Rw.b rfl (by omega) rfl (by omega) dL_areJobs_63 hL rfl ?_ | refine g_ildr Rw.c rfl (by omega) rfl (by omega) dL_areJobs_63 hL rfl ?_
      refine g_icmp_ne_f (tgt := 130) dL_areJobs_64 (by decide) f2 ?_
      refine g_ald0 dL_areJobs_67 ?_
      refine g_ild4 dL_areJobs_68 ?_
      show Go _ _ _ _ _ _ 70 _ _
      refine g_iconst (v := nI 3) dL_areJobs_70 (by decide +kernel) ?_
      refine g_callV2 (c_job_3 (h := h) i nj hS n3 (by omega) hin2) mw_2_211 ok_X9_job ⟨by decide, by decide⟩ (by first | assumption | exact lay_item (by omega) | exact lay_drive (by omega) | exact lay_job (by omega) | rfl) (by omega) rfl (by omega) (by omega) (Nat.le_of_ble_eq_true rfl) dL_areJobs_71 (dI_K ?_)
      refine g_ald2 dL_areJobs_74 ?_
      refine g_bipush (v := nI 6) dL_areJobs_75 (by decide +kernel) ?_
      refine g_ild4 dL_areJobs_77 ?_
      first | refine g_imul_n dL_areJobs_79 ?_ | refine g_imul dL_areJobs_79 ?_
      show Go _ _ _ _ _ _ 80 _ _
      refine g_iconst (v := nI 3) dL_areJobs_80 (by decide +kernel) ?_
      first | refine g_iadd_n dL_areJobs_81 ?_ | refine g_iadd dL_areJobs_81 ?_
      first | refine g_ildr Rw.g rfl (by omega) rfl (by omega) dL_areJobs_82 hL rfl ?_ | refine g_ildr Rw.t rfl (by omega) rfl (by omega) dL_areJobs_82 hL rfl ?_ | refine g_ildr Rw.d rfl (by omega) rfl (by omega) dL_areJobs_82 hL rfl ?_ | refine g_ildr Rw.a rfl (by omega) rfl (by omega) dL_areJobs_82 hL rfl ?_ | refine g_ildr Rw.b rfl (by omega) rfl (by omega) dL_areJobs_82 hL rfl ?_ | refine g_ildr Rw.c rfl (by omega) rfl (by omega) dL_areJobs_82 hL rfl ?_
      refine g_icmp_ne_f (tgt := 130) dL_areJobs_83 (by decide) f3 ?_
      refine g_ald0 dL_areJobs_86 ?_
      refine g_ild4 dL_areJobs_87 ?_
      show Go _ _ _ _ _ _ 89 _ _
      refine g_bipush (v := nI 6) dL_areJobs_89 (by decide +kernel) ?_
      refine g_callV2 (c_job_6 (h := h) i nj hS n3 (by omega) hin2) mw_2_211 ok_X9_job ⟨by decide, by decide⟩ (by first | assumption | exact lay_item (by omega) | exact lay_drive (by omega) | exact lay_job (by omega) | rfl) (by omega) rfl (by omega) (by omega) (Nat.le_of_ble_eq_true rfl) dL_areJobs_91 (dI_K ?_)
      refine g_ald2 dL_areJobs_94 ?_
      refine g_bipush (v := nI 6) dL_areJobs_95 (by decide +kernel) ?_
      refine g_ild4 dL_areJobs_97 ?_
      first | refine g_imul_n dL_areJobs_99 ?_ | refine g_imul dL_areJobs_99 ?_
      show Go _ _ _ _ _ _ 100 _ _
      refine g_iconst (v := nI 4) dL_areJobs_100 (by decide +kernel) ?_
      first | refine g_iadd_n dL_areJobs_101 ?_ | refine g_iadd dL_areJobs_101 ?_
      first | refine g_ildr Rw.g rfl (by omega) rfl (by omega) dL_areJobs_102 hL rfl ?_ | refine g_ildr Rw.t rfl (by omega) rfl (by omega) dL_areJobs_102 hL rfl ?_ | refine g_ildr Rw.d rfl (by omega) rfl (by omega) dL_areJobs_102 hL rfl ?_ | refine g_ildr Rw.a rfl (by omega) rfl (by omega) dL_areJobs_102 hL rfl ?_ | refine g_ildr Rw.b rfl (by omega) rfl (by omega) dL_areJobs_102 hL rfl ?_ | refine g_ildr Rw.c rfl (by omega) rfl (by omega) dL_areJobs_102 hL rfl ?_
      refine g_icmp_ne_f (tgt := 130) dL_areJobs_103 (by decide) hf6 ?_
      refine g_ald0 dL_areJobs_106 ?_
      refine g_ild4 dL_areJobs_107 ?_
      show Go _ _ _ _ _ _ 109 _ _
      refine g_bipush (v := nI 7) dL_areJobs_109 (by decide +kernel) ?_
      refine g_callV2 (c_job_7 (h := h) i nj hS n3 (by omega) hin2) mw_2_211 ok_X9_job ⟨by decide, by decide⟩ (by first | assumption | exact lay_item (by omega) | exact lay_drive (by omega) | exact lay_job (by omega) | rfl) (by omega) rfl (by omega) (by omega) (Nat.le_of_ble_eq_true rfl) dL_areJobs_111 (dI_K ?_)
      refine g_ald2 dL_areJobs_114 ?_
      refine g_bipush (v := nI 6) dL_areJobs_115 (by decide +kernel) ?_
      refine g_ild4 dL_areJobs_117 ?_
      first | refine g_imul_n dL_areJobs_119 ?_ | refine g_imul dL_areJobs_119 ?_
      show Go _ _ _ _ _ _ 120 _ _
      refine g_iconst (v := nI 5) dL_areJobs_120 (by decide +kernel) ?_
      first | refine g_iadd_n dL_areJobs_121 ?_ | refine g_iadd dL_areJobs_121 ?_
      first | refine g_ildr Rw.g rfl (by omega) rfl (by omega) dL_areJobs_122 hL rfl ?_ | refine g_ildr Rw.t rfl (by omega) rfl (by omega) dL_areJobs_122 hL rfl ?_ | refine g_ildr Rw.d rfl (by omega) rfl (by omega) dL_areJobs_122 hL rfl ?_ | refine g_ildr Rw.a rfl (by omega) rfl (by omega) dL_areJobs_122 hL rfl ?_ | refine g_ildr Rw.b rfl (by omega) rfl (by omega) dL_areJobs_122 hL rfl ?_ | refine g_ildr Rw.c rfl (by omega) rfl (by omega) dL_areJobs_122 hL rfl ?_
      refine g_icmp_ne_f (tgt := 130) dL_areJobs_123 (by decide) f7 ?_
      refine g_iconst (v := nI 1) dL_areJobs_126 (by decide +kernel) ?_
      refine g_goto (tgt := 131) dL_areJobs_127 (by decide) ?_
      show Go _ _ _ _ _ _ 131 _ _
      refine g_ist5 (by decide) dL_areJobs_131 ?_
      refine g_ild5 dL_areJobs_133 ?_
      refine g_if_eq_f (tgt := 258) dL_areJobs_135 (by decide) (by decide) ?_
      refine g_ald0 dL_areJobs_138 ?_
      refine g_ild4 dL_areJobs_139 ?_
      refine g_bipush (v := nI 8) dL_areJobs_141 (by decide +kernel) ?_
      show Go _ _ _ _ _ _ 143 _ _
      refine g_callV2 (c_job_8 (h := h) i nj hS n3 (by omega) hin2) mw_2_211 ok_X9_job ⟨by decide, by decide⟩ (by first | assumption | exact lay_item (by omega) | exact lay_drive (by omega) | exact lay_job (by omega) | rfl) (by omega) rfl (by omega) (by omega) (Nat.le_of_ble_eq_true rfl) dL_areJobs_143 (dI_K ?_)
      refine g_ald3 dL_areJobs_146 ?_
      refine g_bipush (v := nI 6) dL_areJobs_147 (by decide +kernel) ?_
      refine g_ild4 dL_areJobs_149 ?_
      first | refine g_imul_n dL_areJobs_151 ?_ | refine g_imul dL_areJobs_151 ?_
      first | refine g_ildr Rw.g rfl (by omega) rfl (by omega) dL_areJobs_152 hL rfl ?_ | refine g_ildr Rw.t rfl (by omega) rfl (by omega) dL_areJobs_152 hL rfl ?_ | refine g_ildr Rw.d rfl (by omega) rfl (by omega) dL_areJobs_152 hL rfl ?_ | refine g_ildr Rw.a rfl (by omega) rfl (by omega) dL_areJobs_152 hL rfl ?_ | refine g_ildr Rw.b rfl (by omega) rfl (by omega) dL_areJobs_152 hL rfl ?_ | refine g_ildr Rw.c rfl (by omega) rfl (by omega) dL_areJobs_152 hL rfl ?_
      show Go _ _ _ _ _ _ 153 _ _
      refine g_icmp_ne_f (tgt := 258) dL_areJobs_153 (by decide) f8 ?_
      refine g_ald0 dL_areJobs_156 ?_
      refine g_ild4 dL_areJobs_157 ?_
      refine g_bipush (v := nI 9) dL_areJobs_159 (by decide +kernel) ?_
      refine g_callV2 (c_job_9 (h := h) i nj hS n3 (by omega) hin2) mw_2_211 ok_X9_job ⟨by decide, by decide⟩ (by first | assumption | exact lay_item (by omega) | exact lay_drive (by omega) | exact lay_job (by omega) | rfl) (by omega) rfl (by omega) (by omega) (Nat.le_of_ble_eq_true rfl) dL_areJobs_161 (dI_K ?_)
      refine g_ald3 dL_areJobs_164 ?_
      show Go _ _ _ _ _ _ 165 _ _
      refine g_bipush (v := nI 6) dL_areJobs_165 (by decide +kernel) ?_
      refine g_ild4 dL_areJobs_167 ?_
      first | refine g_imul_n dL_areJobs_169 ?_ | refine g_imul dL_areJobs_169 ?_
      refine g_iconst (v := nI 1) dL_areJobs_170 (by decide +kernel) ?_
      first | refine g_iadd_n dL_areJobs_171 ?_ | refine g_iadd dL_areJobs_171 ?_
      first | refine g_ildr Rw.g rfl (by omega) rfl (by omega) dL_areJobs_172 hL rfl ?_ | refine g_ildr Rw.t rfl (by omega) rfl (by omega) dL_areJobs_172 hL rfl ?_ | refine g_ildr Rw.d rfl (by omega) rfl (by omega) dL_areJobs_172 hL rfl ?_ | refine g_ildr Rw.a rfl (by omega) rfl (by omega) dL_areJobs_172 hL rfl ?_ | refine g_ildr Rw.b rfl (by omega) rfl (by omega) dL_areJobs_172 hL rfl ?_ | refine g_ildr Rw.c rfl (by omega) rfl (by omega) dL_areJobs_172 hL rfl ?_
      show Go _ _ _ _ _ _ 173 _ _
      refine g_icmp_ne_f (tgt := 258) dL_areJobs_173 (by decide) f9 ?_
      refine g_ald0 dL_areJobs_176 ?_
      refine g_ild4 dL_areJobs_177 ?_
      refine g_bipush (v := nI 10) dL_areJobs_179 (by decide +kernel) ?_
      refine g_callV2 (c_job_10 (h := h) i nj hS n3 (by omega) hin2) mw_2_211 ok_X9_job ⟨by decide, by decide⟩ (by first | assumption | exact lay_item (by omega) | exact lay_drive (by omega) | exact lay_job (by omega) | rfl) (by omega) rfl (by omega) (by omega) (Nat.le_of_ble_eq_true rfl) dL_areJobs_181 (dI_K ?_)
      refine g_ald3 dL_areJobs_184 ?_
      show Go _ _ _ _ _ _ 185 _ _
      refine g_bipush (v := nI 6) dL_areJobs_185 (by decide +kernel) ?_
      refine g_ild4 dL_areJobs_187 ?_
      first | refine g_imul_n dL_areJobs_189 ?_ | refine g_imul dL_areJobs_189 ?_
      refine g_iconst (v := nI 2) dL_areJobs_190 (by decide +kernel) ?_
      first | refine g_iadd_n dL_areJobs_191 ?_ | refine g_iadd dL_areJobs_191 ?_
      first | refine g_ildr Rw.g rfl (by omega) rfl (by omega) dL_areJobs_192 hL rfl ?_ | refine g_ildr Rw.t rfl (by omega) rfl (by omega) dL_areJobs_192 hL rfl ?_ | refine g_ildr Rw.d rfl (by omega) rfl (by omega) dL_areJobs_192 hL rfl ?_ | refine g_ildr Rw.a rfl (by omega) rfl (by omega) dL_areJobs_192 hL rfl ?_ | refine g_ildr Rw.b rfl (by omega) rfl (by omega) dL_areJobs_192 hL rfl ?_ | refine g_ildr Rw.c rfl (by omega) rfl (by omega) dL_areJobs_192 hL rfl ?_
      show Go _ _ _ _ _ _ 193 _ _
      refine g_icmp_ne_f (tgt := 258) dL_areJobs_193 (by decide) f10 ?_
      refine g_ald0 dL_areJobs_196 ?_
      refine g_ild4 dL_areJobs_197 ?_
      refine g_bipush (v := nI 11) dL_areJobs_199 (by decide +kernel) ?_
      refine g_callV2 (c_job_11 (h := h) i nj hS n3 (by omega) hin2) mw_2_211 ok_X9_job ⟨by decide, by decide⟩ (by first | assumption | exact lay_item (by omega) | exact lay_drive (by omega) | exact lay_job (by omega) | rfl) (by omega) rfl (by omega) (by omega) (Nat.le_of_ble_eq_true rfl) dL_areJobs_201 (dI_K ?_)
      refine g_ald3 dL_areJobs_204 ?_
      show Go _ _ _ _ _ _ 205 _ _
      refine g_bipush (v := nI 6) dL_areJobs_205 (by decide +kernel) ?_
      refine g_ild4 dL_areJobs_207 ?_
      first | refine g_imul_n dL_areJobs_209 ?_ | refine g_imul dL_areJobs_209 ?_
      refine g_iconst (v := nI 3) dL_areJobs_210 (by decide +kernel) ?_
      first | refine g_iadd_n dL_areJobs_211 ?_ | refine g_iadd dL_areJobs_211 ?_
      first | refine g_ildr Rw.g rfl (by omega) rfl (by omega) dL_areJobs_212 hL rfl ?_ | refine g_ildr Rw.t rfl (by omega) rfl (by omega) dL_areJobs_212 hL rfl ?_ | refine g_ildr Rw.d rfl (by omega) rfl (by omega) dL_areJobs_212 hL rfl ?_ | refine g_ildr Rw.a rfl (by omega) rfl (by omega) dL_areJobs_212 hL rfl ?_ | refine g_ildr Rw.b rfl (by omega) rfl (by omega) dL_areJobs_212 hL rfl ?_ | refine g_ildr Rw.c rfl (by omega) rfl (by omega) dL_areJobs_212 hL rfl ?_
      show Go _ _ _ _ _ _ 213 _ _
      refine g_icmp_ne_f (tgt := 258) dL_areJobs_213 (by decide) f11 ?_
      refine g_ald0 dL_areJobs_216 ?_
      refine g_ild4 dL_areJobs_217 ?_
      refine g_iconst (v := nI 4) dL_areJobs_219 (by decide +kernel) ?_
      refine g_callV2 (c_job_4 (h := h) i nj hS n3 (by omega) hin2) mw_2_211 ok_X9_job ⟨by decide, by decide⟩ (by first | assumption | exact lay_item (by omega) | exact lay_drive (by omega) | exact lay_job (by omega) | rfl) (by omega) rfl (by omega) (by omega) (Nat.le_of_ble_eq_true rfl) dL_areJobs_220 (dI_K ?_)
      refine g_ald3 dL_areJobs_223 ?_
      show Go _ _ _ _ _ _ 224 _ _
      refine g_bipush (v := nI 6) dL_areJobs_224 (by decide +kernel) ?_
      refine g_ild4 dL_areJobs_226 ?_
      first | refine g_imul_n dL_areJobs_228 ?_ | refine g_imul dL_areJobs_228 ?_
      refine g_iconst (v := nI 4) dL_areJobs_229 (by decide +kernel) ?_
      first | refine g_iadd_n dL_areJobs_230 ?_ | refine g_iadd dL_areJobs_230 ?_
      first | refine g_ildr Rw.g rfl (by omega) rfl (by omega) dL_areJobs_231 hL rfl ?_ | refine g_ildr Rw.t rfl (by omega) rfl (by omega) dL_areJobs_231 hL rfl ?_ | refine g_ildr Rw.d rfl (by omega) rfl (by omega) dL_areJobs_231 hL rfl ?_ | refine g_ildr Rw.a rfl (by omega) rfl (by omega) dL_areJobs_231 hL rfl ?_ | refine g_ildr Rw.b rfl (by omega) rfl (by omega) dL_areJobs_231 hL rfl ?_ | refine g_ildr Rw.c rfl (by omega) rfl (by omega) dL_areJobs_231 hL rfl ?_
      show Go _ _ _ _ _ _ 232 _ _
      refine g_icmp_ne_f (tgt := 258) dL_areJobs_232 (by decide) f4 ?_
      refine g_ald0 dL_areJobs_235 ?_
      refine g_ild4 dL_areJobs_236 ?_
      refine g_iconst (v := nI 5) dL_areJobs_238 (by decide +kernel) ?_
      refine g_callV2 (c_job_5 (h := h) i nj hS n3 (by omega) hin2) mw_2_211 ok_X9_job ⟨by decide, by decide⟩ (by first | assumption | exact lay_item (by omega) | exact lay_drive (by omega) | exact lay_job (by omega) | rfl) (by omega) rfl (by omega) (by omega) (Nat.le_of_ble_eq_true rfl) dL_areJobs_239 (dI_K ?_)
      refine g_ald3 dL_areJobs_242 ?_
      show Go _ _ _ _ _ _ 243 _ _
      refine g_bipush (v := nI 6) dL_areJobs_243 (by decide +kernel) ?_
      refine g_ild4 dL_areJobs_245 ?_
      first | refine g_imul_n dL_areJobs_247 ?_ | refine g_imul dL_areJobs_247 ?_
      refine g_iconst (v := nI 5) dL_areJobs_248 (by decide +kernel) ?_
      first | refine g_iadd_n dL_areJobs_249 ?_ | refine g_iadd dL_areJobs_249 ?_
      first | refine g_ildr Rw.g rfl (by omega) rfl (by omega) dL_areJobs_250 hL rfl ?_ | refine g_ildr Rw.t rfl (by omega) rfl (by omega) dL_areJobs_250 hL rfl ?_ | refine g_ildr Rw.d rfl (by omega) rfl (by omega) dL_areJobs_250 hL rfl ?_ | refine g_ildr Rw.a rfl (by omega) rfl (by omega) dL_areJobs_250 hL rfl ?_ | refine g_ildr Rw.b rfl (by omega) rfl (by omega) dL_areJobs_250 hL rfl ?_ | refine g_ildr Rw.c rfl (by omega) rfl (by omega) dL_areJobs_250 hL rfl ?_
      show Go _ _ _ _ _ _ 251 _ _
      refine g_icmp_ne_f (tgt := 258) dL_areJobs_251 (by decide) f5 ?_
      refine g_iconst (v := nI 1) dL_areJobs_254 (by decide +kernel) ?_
      refine g_goto (tgt := 259) dL_areJobs_255 (by decide) ?_
      refine g_ist5 (by decide) dL_areJobs_259 ?_
      refine g_ild5 dL_areJobs_261 ?_
      refine g_if_ne_t (tgt := 268) dL_areJobs_263 (by decide) (by decide) ?_
      show Go _ _ _ _ _ _ 268 _ _
      refine g_iinc4 (by decide) dL_areJobs_268 (nI_1 i) ?_
      refine g_goto (tgt := 3) dL_areJobs_271 (by decide) ?_
      exact ih (i + 1) _ (by omega)
  refine g_iconst (v := nI 0) dL_areJobs_0 (by decide +kernel) ?_
  refine g_ist4 (by decide) dL_areJobs_1 ?_
  exact loop nj 0 _ (by omega)
end P55
