/-! ===== the law's adds ===== -/
section P52
variable {G : Gl} {h : Hp}
theorem lq_adds (M : Mo) (ni nd nj T : Nat) (x : Int32) (hT : Tn h M ni nd nj T) : Ct G mL_adds [ga G 0, ga G 449, ga G 450, .int x] h 456 456 (rI (fun r h' => r = 1 ∧ ∃ M' ni', Tn h' M' ni' nd nj T)) := by
  obtain ⟨hL, hR, hI, hX⟩ := id hT
  obtain ⟨⟨hi, hd, hj⟩, -, -, hC, hf, -⟩ := id hI.1
  obtain ⟨hz, -⟩ := id hX.1
  obtain ⟨z1, -, z3, -⟩ := id hz
  obtain ⟨⟨-, -, -, s8, -⟩, ⟨n1, n2, n3, -⟩, hIt, hD, -, -, -, hS⟩ := id hR
  have hK := KR.rf h
  refine Ct.of rfl (by simp [Value.category, ga]) (Nat.le_of_ble_eq_true rfl) (Nat.le_refl _) ?_
  show Go _ _ _ _ _ _ _ [some (ga G 0), some (ga G 449), some (ga G 450), some (.int x), none, none, none, none, none, none] []
  have k85 : ∀ s b u f r, s < 24 → f < 9 → Go G mL_adds 456 (rI (fun r h' => r = 1 ∧ ∃ M' ni', Tn h' M' ni' nd nj T)) h 456 85 [some (ga G 0), some (ga G 449), some (ga G 450), some (.int x), some (.int (nI s)), some (.int (nI b)), some (.int (nI u)), some (.int (nI f)), some (.int r), none] [] := by
    intro s b u f r hs hf9
    refine g_ald0 dL_adds_85 ?_
    refine g_bipush (v := nI 24) dL_adds_86 (by decide +kernel) ?_
    refine g_ild7 dL_adds_88 ?_
    refine g_callS1 (l_bits (h := h) f (by omega)) mw_2_152 ok_L_bits ⟨by decide, by decide⟩ (by omega) (by omega) (Nat.le_of_ble_eq_true rfl) dL_adds_90 (dI_K ?_)
    refine g_callV2 (c_addTape_1 (h := h) 24 (bt f) (by omega) (by omega)) mw_3_65 ok_X9_addTape ⟨by decide, by decide⟩ (by first | assumption | exact lay_item (by omega) | exact lay_drive (by omega) | exact lay_job (by omega) | rfl) (by omega) rfl (by omega) (by omega) (Nat.le_of_ble_eq_true rfl) dL_adds_93 (dI_K ?_)
    show Go _ _ _ _ _ _ 96 _ _
    refine g_iconst (v := -1) dL_adds_96 (by decide +kernel) ?_
    refine g_icmp_ne_f (tgt := 146) dL_adds_97 (by decide) rfl ?_
    refine g_ald0 dL_adds_100 ?_
    refine g_ild4 dL_adds_101 ?_
    refine g_bipush (v := nI 12) dL_adds_103 (by decide +kernel) ?_
    refine g_callS1 (l_bits (h := h) 12 (by omega)) mw_2_152 ok_L_bits ⟨by decide, by decide⟩ (by omega) (by omega) (Nat.le_of_ble_eq_true rfl) dL_adds_105 (dI_K ?_)
    show Go _ _ _ _ _ _ 108 _ _
    refine g_callV2 (c_addTape_2 (h := h) s (bt 12) hs (by decide +kernel)) mw_3_65 ok_X9_addTape ⟨by decide, by decide⟩ (by first | assumption | exact lay_item (by omega) | exact lay_drive (by omega) | exact lay_job (by omega) | rfl) (by omega) rfl (by omega) (by omega) (Nat.le_of_ble_eq_true rfl) dL_adds_108 (dI_K ?_)
    refine g_bipush (v := -2) dL_adds_111 (by decide +kernel) ?_
    refine g_icmp_ne_f (tgt := 146) dL_adds_113 (by decide) rfl ?_
    refine g_ald0 dL_adds_116 ?_
    refine g_ild4 dL_adds_117 ?_
    refine g_ldc mw_3_132 dL_adds_119 ?_
    show Go _ _ _ _ _ _ 121 _ _
    refine g_callV2 (c_addTape_2 (h := h) s (-2147483648) hs (by decide)) mw_3_65 ok_X9_addTape ⟨by decide, by decide⟩ (by first | assumption | exact lay_item (by omega) | exact lay_drive (by omega) | exact lay_job (by omega) | rfl) (by omega) rfl (by omega) (by omega) (Nat.le_of_ble_eq_true rfl) dL_adds_121 (dI_K ?_)
    refine g_bipush (v := -2) dL_adds_124 (by decide +kernel) ?_
    refine g_icmp_ne_f (tgt := 146) dL_adds_126 (by decide) rfl ?_
    refine g_ald0 dL_adds_129 ?_
    refine g_ild4 dL_adds_130 ?_
    refine g_bipush (v := nI 51) dL_adds_132 (by decide +kernel) ?_
    show Go _ _ _ _ _ _ 134 _ _
    refine g_callV2 (c_addCleaner_2 (h := h) s (nI 51) hs (by decide)) mw_3_133 ok_X9_addCleaner ⟨by decide, by decide⟩ (by first | assumption | exact lay_item (by omega) | exact lay_drive (by omega) | exact lay_job (by omega) | rfl) (by omega) rfl (by omega) (by omega) (Nat.le_of_ble_eq_true rfl) dL_adds_134 (dI_K ?_)
    refine g_bipush (v := -2) dL_adds_137 (by decide +kernel) ?_
    refine g_icmp_ne_f (tgt := 146) dL_adds_139 (by decide) rfl ?_
    refine g_iconst (v := nI 1) dL_adds_142 (by decide +kernel) ?_
    refine g_goto (tgt := 147) dL_adds_143 (by decide) ?_
    exact g_zret rfl rfl dL_adds_147 ⟨1, rfl, rfl, M, ni, hT⟩
  have k148 : ∀ s b u f r, s < 24 → b < 2 → nI 1 ≤ nI u ∧ nI u ≤ nI 50 → f < 9 → ((r = nI ni ∧ ∀ i, i < ni → M.1 1 (6 * i + 1) ≠ nI s) ∨ (r = -4 ∧ ∃ i, i < ni ∧ M.1 1 (6 * i + 1) = nI s)) → ni < 8 → Idl M nd nj → Go G mL_adds 456 (rI (fun r h' => r = 1 ∧ ∃ M' ni', Tn h' M' ni' nd nj T)) h 456 148 [some (ga G 0), some (ga G 449), some (ga G 450), some (.int x), some (.int (nI s)), some (.int (nI b)), some (.int (nI u)), some (.int (nI f)), some (.int r), none] [] := by
    intro s b u f r hs hb hu hf9 hr hi8 hid
    have hz2 := hX.2.1.1 ni (Nat.le_refl _)
    rcases hr with ⟨rfl, hx⟩ | ⟨rfl, i, hi9, hx⟩
    · obtain rfl | rfl : b = 0 ∨ b = 1 := by omega
      · skip
        refine g_ild5 dL_adds_148 ?_
        refine g_if_eq_t (tgt := 164) dL_adds_150 (by decide) rfl ?_
        refine g_ald0 dL_adds_164 ?_
        refine g_ild4 dL_adds_165 ?_
        refine g_ild7 dL_adds_167 ?_
        show Go _ _ _ _ _ _ 169 _ _
        refine g_callS1 (l_bits (h := h) f (by omega)) mw_2_152 ok_L_bits ⟨by decide, by decide⟩ (by omega) (by omega) (Nat.le_of_ble_eq_true rfl) dL_adds_169 (dI_K ?_)
        refine g_callV2 (c_addTape (h := h) M ni nd nj s f hs hf9 hR hi8 hd hj hC hz2 hid hx) mw_3_65 ok_X9_addTape ⟨by decide, by decide⟩ (by first | assumption | exact lay_item (by omega) | exact lay_drive (by omega) | exact lay_job (by omega) | rfl) (by omega) rfl (by omega) (by omega) (Nat.le_of_ble_eq_true rfl) dL_adds_172 (rI_K ?_)
        rintro r h ⟨rfl, R2, K2⟩
        have hL := hL.kl K2
        have hK := KR.rf h
        refine g_ist9 (by decide) dL_adds_175 ?_
        refine g_ild8 dL_adds_177 ?_
        refine g_if_lt_f (tgt := 266) dL_adds_179 (by decide) (Int32.not_lt.mpr (nI_pos' (by omega))) ?_
        refine g_ald2 dL_adds_182 ?_
        show Go _ _ _ _ _ _ 183 _ _
        refine g_bipush (v := nI 6) dL_adds_183 (by decide +kernel) ?_
        refine g_ald1 dL_adds_185 ?_
        refine g_bipush (v := nI 9) dL_adds_186 (by decide +kernel) ?_
        first | refine g_ildr Rw.g rfl (by omega) rfl (by omega) dL_adds_188 hL (v := (nI ni)) z1 ?_ | refine g_ildr Rw.t rfl (by omega) rfl (by omega) dL_adds_188 hL (v := (nI ni)) z1 ?_ | refine g_ildr Rw.d rfl (by omega) rfl (by omega) dL_adds_188 hL (v := (nI ni)) z1 ?_ | refine g_ildr Rw.a rfl (by omega) rfl (by omega) dL_adds_188 hL (v := (nI ni)) z1 ?_ | refine g_ildr Rw.b rfl (by omega) rfl (by omega) dL_adds_188 hL (v := (nI ni)) z1 ?_ | refine g_ildr Rw.c rfl (by omega) rfl (by omega) dL_adds_188 hL (v := (nI ni)) z1 ?_
        first | refine g_imul_n dL_adds_189 ?_ | refine g_imul dL_adds_189 ?_
        refine g_ild5 dL_adds_190 ?_
        show Go _ _ _ _ _ _ 192 _ _
        refine g_if_eq_t (tgt := 199) dL_adds_192 (by decide) rfl ?_
        refine g_iconst (v := nI 0) dL_adds_199 (by decide +kernel) ?_
        first | refine g_istr Rw.g rfl (by omega) rfl (by omega) dL_adds_200 hL hK ?_ | refine g_istr Rw.t rfl (by omega) rfl (by omega) dL_adds_200 hL hK ?_ | refine g_istr Rw.d rfl (by omega) rfl (by omega) dL_adds_200 hL hK ?_ | refine g_istr Rw.a rfl (by omega) rfl (by omega) dL_adds_200 hL hK ?_ | refine g_istr Rw.b rfl (by omega) rfl (by omega) dL_adds_200 hL hK ?_ | refine g_istr Rw.c rfl (by omega) rfl (by omega) dL_adds_200 hL hK ?_
        intro h hL hK
        refine g_ald2 dL_adds_201 ?_
        refine g_bipush (v := nI 6) dL_adds_202 (by decide +kernel) ?_
        refine g_ald1 dL_adds_204 ?_
        show Go _ _ _ _ _ _ 205 _ _
        refine g_bipush (v := nI 9) dL_adds_205 (by decide +kernel) ?_
        first | refine g_ildr Rw.g rfl (by omega) rfl (by omega) dL_adds_207 hL (v := (nI ni)) (by simp (disch := omega) only [up_ne]; exact z1) ?_ | refine g_ildr Rw.t rfl (by omega) rfl (by omega) dL_adds_207 hL (v := (nI ni)) (by simp (disch := omega) only [up_ne]; exact z1) ?_ | refine g_ildr Rw.d rfl (by omega) rfl (by omega) dL_adds_207 hL (v := (nI ni)) (by simp (disch := omega) only [up_ne]; exact z1) ?_ | refine g_ildr Rw.a rfl (by omega) rfl (by omega) dL_adds_207 hL (v := (nI ni)) (by simp (disch := omega) only [up_ne]; exact z1) ?_ | refine g_ildr Rw.b rfl (by omega) rfl (by omega) dL_adds_207 hL (v := (nI ni)) (by simp (disch := omega) only [up_ne]; exact z1) ?_ | refine g_ildr Rw.c rfl (by omega) rfl (by omega) dL_adds_207 hL (v := (nI ni)) (by simp (disch := omega) only [up_ne]; exact z1) ?_
        first | refine g_imul_n dL_adds_208 ?_ | refine g_imul dL_adds_208 ?_
        refine g_iconst (v := nI 1) dL_adds_209 (by decide +kernel) ?_
        first | refine g_iadd_n dL_adds_210 ?_ | refine g_iadd dL_adds_210 ?_
        refine g_ild4 dL_adds_211 ?_
        show Go _ _ _ _ _ _ 213 _ _
        first | refine g_istr Rw.g rfl (by omega) rfl (by omega) dL_adds_213 hL hK ?_ | refine g_istr Rw.t rfl (by omega) rfl (by omega) dL_adds_213 hL hK ?_ | refine g_istr Rw.d rfl (by omega) rfl (by omega) dL_adds_213 hL hK ?_ | refine g_istr Rw.a rfl (by omega) rfl (by omega) dL_adds_213 hL hK ?_ | refine g_istr Rw.b rfl (by omega) rfl (by omega) dL_adds_213 hL hK ?_ | refine g_istr Rw.c rfl (by omega) rfl (by omega) dL_adds_213 hL hK ?_
        intro h hL hK
        refine g_ald2 dL_adds_214 ?_
        refine g_bipush (v := nI 6) dL_adds_215 (by decide +kernel) ?_
        refine g_ald1 dL_adds_217 ?_
        refine g_bipush (v := nI 9) dL_adds_218 (by decide +kernel) ?_
        first | refine g_ildr Rw.g rfl (by omega) rfl (by omega) dL_adds_220 hL (v := (nI ni)) (by simp (disch := omega) only [up_ne]; exact z1) ?_ | refine g_ildr Rw.t rfl (by omega) rfl (by omega) dL_adds_220 hL (v := (nI ni)) (by simp (disch := omega) only [up_ne]; exact z1) ?_ | refine g_ildr Rw.d rfl (by omega) rfl (by omega) dL_adds_220 hL (v := (nI ni)) (by simp (disch := omega) only [up_ne]; exact z1) ?_ | refine g_ildr Rw.a rfl (by omega) rfl (by omega) dL_adds_220 hL (v := (nI ni)) (by simp (disch := omega) only [up_ne]; exact z1) ?_ | refine g_ildr Rw.b rfl (by omega) rfl (by omega) dL_adds_220 hL (v := (nI ni)) (by simp (disch := omega) only [up_ne]; exact z1) ?_ | refine g_ildr Rw.c rfl (by omega) rfl (by omega) dL_adds_220 hL (v := (nI ni)) (by simp (disch := omega) only [up_ne]; exact z1) ?_
        show Go _ _ _ _ _ _ 221 _ _
        first | refine g_imul_n dL_adds_221 ?_ | refine g_imul dL_adds_221 ?_
        refine g_iconst (v := nI 3) dL_adds_222 (by decide +kernel) ?_
        first | refine g_iadd_n dL_adds_223 ?_ | refine g_iadd dL_adds_223 ?_
        refine g_ild5 dL_adds_224 ?_
        refine g_if_eq_t (tgt := 234) dL_adds_226 (by decide) rfl ?_
        refine g_iconst (v := nI 0) dL_adds_234 (by decide +kernel) ?_
        show Go _ _ _ _ _ _ 235 _ _
        first | refine g_istr Rw.g rfl (by omega) rfl (by omega) dL_adds_235 hL hK ?_ | refine g_istr Rw.t rfl (by omega) rfl (by omega) dL_adds_235 hL hK ?_ | refine g_istr Rw.d rfl (by omega) rfl (by omega) dL_adds_235 hL hK ?_ | refine g_istr Rw.a rfl (by omega) rfl (by omega) dL_adds_235 hL hK ?_ | refine g_istr Rw.b rfl (by omega) rfl (by omega) dL_adds_235 hL hK ?_ | refine g_istr Rw.c rfl (by omega) rfl (by omega) dL_adds_235 hL hK ?_
        intro h hL hK
        refine g_ald2 dL_adds_236 ?_
        refine g_bipush (v := nI 6) dL_adds_237 (by decide +kernel) ?_
        refine g_ald1 dL_adds_239 ?_
        refine g_bipush (v := nI 9) dL_adds_240 (by decide +kernel) ?_
        first | refine g_ildr Rw.g rfl (by omega) rfl (by omega) dL_adds_242 hL (v := (nI ni)) (by simp (disch := omega) only [up_ne]; exact z1) ?_ | refine g_ildr Rw.t rfl (by omega) rfl (by omega) dL_adds_242 hL (v := (nI ni)) (by simp (disch := omega) only [up_ne]; exact z1) ?_ | refine g_ildr Rw.d rfl (by omega) rfl (by omega) dL_adds_242 hL (v := (nI ni)) (by simp (disch := omega) only [up_ne]; exact z1) ?_ | refine g_ildr Rw.a rfl (by omega) rfl (by omega) dL_adds_242 hL (v := (nI ni)) (by simp (disch := omega) only [up_ne]; exact z1) ?_ | refine g_ildr Rw.b rfl (by omega) rfl (by omega) dL_adds_242 hL (v := (nI ni)) (by simp (disch := omega) only [up_ne]; exact z1) ?_ | refine g_ildr Rw.c rfl (by omega) rfl (by omega) dL_adds_242 hL (v := (nI ni)) (by simp (disch := omega) only [up_ne]; exact z1) ?_
        show Go _ _ _ _ _ _ 243 _ _
        first | refine g_imul_n dL_adds_243 ?_ | refine g_imul dL_adds_243 ?_
        refine g_iconst (v := nI 4) dL_adds_244 (by decide +kernel) ?_
        first | refine g_iadd_n dL_adds_245 ?_ | refine g_iadd dL_adds_245 ?_
        refine g_ild5 dL_adds_246 ?_
        refine g_if_eq_t (tgt := 255) dL_adds_248 (by decide) rfl ?_
        refine g_ild7 dL_adds_255 ?_
        show Go _ _ _ _ _ _ 257 _ _
        first | refine g_istr Rw.g rfl (by omega) rfl (by omega) dL_adds_257 hL hK ?_ | refine g_istr Rw.t rfl (by omega) rfl (by omega) dL_adds_257 hL hK ?_ | refine g_istr Rw.d rfl (by omega) rfl (by omega) dL_adds_257 hL hK ?_ | refine g_istr Rw.a rfl (by omega) rfl (by omega) dL_adds_257 hL hK ?_ | refine g_istr Rw.b rfl (by omega) rfl (by omega) dL_adds_257 hL hK ?_ | refine g_istr Rw.c rfl (by omega) rfl (by omega) dL_adds_257 hL hK ?_
        intro h hL hK
        refine g_ald1 dL_adds_258 ?_
        refine g_bipush (v := nI 9) dL_adds_259 (by decide +kernel) ?_
        refine g_dup2 dL_adds_261 rfl rfl ?_
        first | refine g_ildr Rw.g rfl (by omega) rfl (by omega) dL_adds_262 hL (v := (nI ni)) (by simp (disch := omega) only [up_ne]; exact z1) ?_ | refine g_ildr Rw.t rfl (by omega) rfl (by omega) dL_adds_262 hL (v := (nI ni)) (by simp (disch := omega) only [up_ne]; exact z1) ?_ | refine g_ildr Rw.d rfl (by omega) rfl (by omega) dL_adds_262 hL (v := (nI ni)) (by simp (disch := omega) only [up_ne]; exact z1) ?_ | refine g_ildr Rw.a rfl (by omega) rfl (by omega) dL_adds_262 hL (v := (nI ni)) (by simp (disch := omega) only [up_ne]; exact z1) ?_ | refine g_ildr Rw.b rfl (by omega) rfl (by omega) dL_adds_262 hL (v := (nI ni)) (by simp (disch := omega) only [up_ne]; exact z1) ?_ | refine g_ildr Rw.c rfl (by omega) rfl (by omega) dL_adds_262 hL (v := (nI ni)) (by simp (disch := omega) only [up_ne]; exact z1) ?_
        refine g_iconst (v := nI 1) dL_adds_263 (by decide +kernel) ?_
        show Go _ _ _ _ _ _ 264 _ _
        first | refine g_iadd_n dL_adds_264 ?_ | refine g_iadd dL_adds_264 ?_
        first | refine g_istr Rw.g rfl (by omega) rfl (by omega) dL_adds_265 hL hK ?_ | refine g_istr Rw.t rfl (by omega) rfl (by omega) dL_adds_265 hL hK ?_ | refine g_istr Rw.d rfl (by omega) rfl (by omega) dL_adds_265 hL hK ?_ | refine g_istr Rw.a rfl (by omega) rfl (by omega) dL_adds_265 hL hK ?_ | refine g_istr Rw.b rfl (by omega) rfl (by omega) dL_adds_265 hL hK ?_ | refine g_istr Rw.c rfl (by omega) rfl (by omega) dL_adds_265 hL hK ?_
        intro h hL hK
        have hL : Lw h (mItm M ni (nI 0) (nI s) (nI 0) (nI f)) := hL
        refine g_ild9 dL_adds_266 ?_
        refine g_ild8 dL_adds_268 ?_
        refine g_icmp_ne_f (tgt := 277) dL_adds_270 (by decide) rfl ?_
        refine g_iconst (v := nI 1) dL_adds_273 (by decide +kernel) ?_
        show Go _ _ _ _ _ _ 274 _ _
        refine g_goto (tgt := 278) dL_adds_274 (by decide) ?_
        exact g_zret rfl rfl dL_adds_278 ⟨1, rfl, rfl, _, ni + 1, hL, R2.kr (by omega) hd hj hK, inv_item hI hX hi8 hs hf9 (Or.inl ⟨rfl, rfl⟩) hx hid⟩
      · skip
        refine g_ild5 dL_adds_148 ?_
        refine g_if_eq_f (tgt := 164) dL_adds_150 (by decide) (by decide) ?_
        refine g_ald0 dL_adds_153 ?_
        refine g_ild4 dL_adds_154 ?_
        refine g_ild6 dL_adds_156 ?_
        show Go _ _ _ _ _ _ 158 _ _
        refine g_callV2 (c_addCleaner (h := h) M ni nd nj s u hs hu hR hi8 hd hj hC hz2 hid hx) mw_3_133 ok_X9_addCleaner ⟨by decide, by decide⟩ (by first | assumption | exact lay_item (by omega) | exact lay_drive (by omega) | exact lay_job (by omega) | rfl) (by omega) rfl (by omega) (by omega) (Nat.le_of_ble_eq_true rfl) dL_adds_158 (rI_K ?_)
        rintro r h ⟨rfl, R2, K2⟩
        have hL := hL.kl K2
        have hK := KR.rf h
        refine g_goto (tgt := 175) dL_adds_161 (by decide) ?_
        refine g_ist9 (by decide) dL_adds_175 ?_
        refine g_ild8 dL_adds_177 ?_
        refine g_if_lt_f (tgt := 266) dL_adds_179 (by decide) (Int32.not_lt.mpr (nI_pos' (by omega))) ?_
        refine g_ald2 dL_adds_182 ?_
        show Go _ _ _ _ _ _ 183 _ _
        refine g_bipush (v := nI 6) dL_adds_183 (by decide +kernel) ?_
        refine g_ald1 dL_adds_185 ?_
        refine g_bipush (v := nI 9) dL_adds_186 (by decide +kernel) ?_
        first | refine g_ildr Rw.g rfl (by omega) rfl (by omega) dL_adds_188 hL (v := (nI ni)) z1 ?_ | refine g_ildr Rw.t rfl (by omega) rfl (by omega) dL_adds_188 hL (v := (nI ni)) z1 ?_ | refine g_ildr Rw.d rfl (by omega) rfl (by omega) dL_adds_188 hL (v := (nI ni)) z1 ?_ | refine g_ildr Rw.a rfl (by omega) rfl (by omega) dL_adds_188 hL (v := (nI ni)) z1 ?_ | refine g_ildr Rw.b rfl (by omega) rfl (by omega) dL_adds_188 hL (v := (nI ni)) z1 ?_ | refine g_ildr Rw.c rfl (by omega) rfl (by omega) dL_adds_188 hL (v := (nI ni)) z1 ?_
        first | refine g_imul_n dL_adds_189 ?_ | refine g_imul dL_adds_189 ?_
        refine g_ild5 dL_adds_190 ?_
        show Go _ _ _ _ _ _ 192 _ _
        refine g_if_eq_f (tgt := 199) dL_adds_192 (by decide) (by decide) ?_
        refine g_iconst (v := nI 1) dL_adds_195 (by decide +kernel) ?_
        refine g_goto (tgt := 200) dL_adds_196 (by decide) ?_
        first | refine g_istr Rw.g rfl (by omega) rfl (by omega) dL_adds_200 hL hK ?_ | refine g_istr Rw.t rfl (by omega) rfl (by omega) dL_adds_200 hL hK ?_ | refine g_istr Rw.d rfl (by omega) rfl (by omega) dL_adds_200 hL hK ?_ | refine g_istr Rw.a rfl (by omega) rfl (by omega) dL_adds_200 hL hK ?_ | refine g_istr Rw.b rfl (by omega) rfl (by omega) dL_adds_200 hL hK ?_ | refine g_istr Rw.c rfl (by omega) rfl (by omega) dL_adds_200 hL hK ?_
        intro h hL hK
        refine g_ald2 dL_adds_201 ?_
        refine g_bipush (v := nI 6) dL_adds_202 (by decide +kernel) ?_
        show Go _ _ _ _ _ _ 204 _ _
        refine g_ald1 dL_adds_204 ?_
        refine g_bipush (v := nI 9) dL_adds_205 (by decide +kernel) ?_
        first | refine g_ildr Rw.g rfl (by omega) rfl (by omega) dL_adds_207 hL (v := (nI ni)) (by simp (disch := omega) only [up_ne]; exact z1) ?_ | refine g_ildr Rw.t rfl (by omega) rfl (by omega) dL_adds_207 hL (v := (nI ni)) (by simp (disch := omega) only [up_ne]; exact z1) ?_ | refine g_ildr Rw.d rfl (by omega) rfl (by omega) dL_adds_207 hL (v := (nI ni)) (by simp (disch := omega) only [up_ne]; exact z1) ?_ | refine g_ildr Rw.a rfl (by omega) rfl (by omega) dL_adds_207 hL (v := (nI ni)) (by simp (disch := omega) only [up_ne]; exact z1) ?_ | refine g_ildr Rw.b rfl (by omega) rfl (by omega) dL_adds_207 hL (v := (nI ni)) (by simp (disch := omega) only [up_ne]; exact z1) ?_ | refine g_ildr Rw.c rfl (by omega) rfl (by omega) dL_adds_207 hL (v := (nI ni)) (by simp (disch := omega) only [up_ne]; exact z1) ?_
        first | refine g_imul_n dL_adds_208 ?_ | refine g_imul dL_adds_208 ?_
        refine g_iconst (v := nI 1) dL_adds_209 (by decide +kernel) ?_
        first | refine g_iadd_n dL_adds_210 ?_ | refine g_iadd dL_adds_210 ?_
        show Go _ _ _ _ _ _ 211 _ _
        refine g_ild4 dL_adds_211 ?_
        first | refine g_istr Rw.g rfl (by omega) rfl (by omega) dL_adds_213 hL hK ?_ | refine g_istr Rw.t rfl (by omega) rfl (by omega) dL_adds_213 hL hK ?_ | refine g_istr Rw.d rfl (by omega) rfl (by omega) dL_adds_213 hL hK ?_ | refine g_istr Rw.a rfl (by omega) rfl (by omega) dL_adds_213 hL hK ?_ | refine g_istr Rw.b rfl (by omega) rfl (by omega) dL_adds_213 hL hK ?_ | refine g_istr Rw.c rfl (by omega) rfl (by omega) dL_adds_213 hL hK ?_
        intro h hL hK
        refine g_ald2 dL_adds_214 ?_
        refine g_bipush (v := nI 6) dL_adds_215 (by decide +kernel) ?_
        refine g_ald1 dL_adds_217 ?_
        refine g_bipush (v := nI 9) dL_adds_218 (by decide +kernel) ?_
        show Go _ _ _ _ _ _ 220 _ _
        first | refine g_ildr Rw.g rfl (by omega) rfl (by omega) dL_adds_220 hL (v := (nI ni)) (by simp (disch := omega) only [up_ne]; exact z1) ?_ | refine g_ildr Rw.t rfl (by omega) rfl (by omega) dL_adds_220 hL (v := (nI ni)) (by simp (disch := omega) only [up_ne]; exact z1) ?_ | refine g_ildr Rw.d rfl (by omega) rfl (by omega) dL_adds_220 hL (v := (nI ni)) (by simp (disch := omega) only [up_ne]; exact z1) ?_ | refine g_ildr Rw.a rfl (by omega) rfl (by omega) dL_adds_220 hL (v := (nI ni)) (by simp (disch := omega) only [up_ne]; exact z1) ?_ | refine g_ildr Rw.b rfl (by omega) rfl (by omega) dL_adds_220 hL (v := (nI ni)) (by simp (disch := omega) only [up_ne]; exact z1) ?_ | refine g_ildr Rw.c rfl (by omega) rfl (by omega) dL_adds_220 hL (v := (nI ni)) (by simp (disch := omega) only [up_ne]; exact z1) ?_
        first | refine g_imul_n dL_adds_221 ?_ | refine g_imul dL_adds_221 ?_
        refine g_iconst (v := nI 3) dL_adds_222 (by decide +kernel) ?_
        first | refine g_iadd_n dL_adds_223 ?_ | refine g_iadd dL_adds_223 ?_
        refine g_ild5 dL_adds_224 ?_
        refine g_if_eq_f (tgt := 234) dL_adds_226 (by decide) (by decide) ?_
        show Go _ _ _ _ _ _ 229 _ _
        refine g_ild6 dL_adds_229 ?_
        refine g_goto (tgt := 235) dL_adds_231 (by decide) ?_
        first | refine g_istr Rw.g rfl (by omega) rfl (by omega) dL_adds_235 hL hK ?_ | refine g_istr Rw.t rfl (by omega) rfl (by omega) dL_adds_235 hL hK ?_ | refine g_istr Rw.d rfl (by omega) rfl (by omega) dL_adds_235 hL hK ?_ | refine g_istr Rw.a rfl (by omega) rfl (by omega) dL_adds_235 hL hK ?_ | refine g_istr Rw.b rfl (by omega) rfl (by omega) dL_adds_235 hL hK ?_ | refine g_istr Rw.c rfl (by omega) rfl (by omega) dL_adds_235 hL hK ?_
        intro h hL hK
        refine g_ald2 dL_adds_236 ?_
        refine g_bipush (v := nI 6) dL_adds_237 (by decide +kernel) ?_
        refine g_ald1 dL_adds_239 ?_
        show Go _ _ _ _ _ _ 240 _ _
        refine g_bipush (v := nI 9) dL_adds_240 (by decide +kernel) ?_
        first | refine g_ildr Rw.g rfl (by omega) rfl (by omega) dL_adds_242 hL (v := (nI ni)) (by simp (disch := omega) only [up_ne]; exact z1) ?_ | refine g_ildr Rw.t rfl (by omega) rfl (by omega) dL_adds_242 hL (v := (nI ni)) (by simp (disch := omega) only [up_ne]; exact z1) ?_ | refine g_ildr Rw.d rfl (by omega) rfl (by omega) dL_adds_242 hL (v := (nI ni)) (by simp (disch := omega) only [up_ne]; exact z1) ?_ | refine g_ildr Rw.a rfl (by omega) rfl (by omega) dL_adds_242 hL (v := (nI ni)) (by simp (disch := omega) only [up_ne]; exact z1) ?_ | refine g_ildr Rw.b rfl (by omega) rfl (by omega) dL_adds_242 hL (v := (nI ni)) (by simp (disch := omega) only [up_ne]; exact z1) ?_ | refine g_ildr Rw.c rfl (by omega) rfl (by omega) dL_adds_242 hL (v := (nI ni)) (by simp (disch := omega) only [up_ne]; exact z1) ?_
        first | refine g_imul_n dL_adds_243 ?_ | refine g_imul dL_adds_243 ?_
        refine g_iconst (v := nI 4) dL_adds_244 (by decide +kernel) ?_
        first | refine g_iadd_n dL_adds_245 ?_ | refine g_iadd dL_adds_245 ?_
        refine g_ild5 dL_adds_246 ?_
        show Go _ _ _ _ _ _ 248 _ _
        refine g_if_eq_f (tgt := 255) dL_adds_248 (by decide) (by decide) ?_
        refine g_iconst (v := nI 0) dL_adds_251 (by decide +kernel) ?_
        refine g_goto (tgt := 257) dL_adds_252 (by decide) ?_
        first | refine g_istr Rw.g rfl (by omega) rfl (by omega) dL_adds_257 hL hK ?_ | refine g_istr Rw.t rfl (by omega) rfl (by omega) dL_adds_257 hL hK ?_ | refine g_istr Rw.d rfl (by omega) rfl (by omega) dL_adds_257 hL hK ?_ | refine g_istr Rw.a rfl (by omega) rfl (by omega) dL_adds_257 hL hK ?_ | refine g_istr Rw.b rfl (by omega) rfl (by omega) dL_adds_257 hL hK ?_ | refine g_istr Rw.c rfl (by omega) rfl (by omega) dL_adds_257 hL hK ?_
        intro h hL hK
        refine g_ald1 dL_adds_258 ?_
        refine g_bipush (v := nI 9) dL_adds_259 (by decide +kernel) ?_
        show Go _ _ _ _ _ _ 261 _ _
        refine g_dup2 dL_adds_261 rfl rfl ?_
        first | refine g_ildr Rw.g rfl (by omega) rfl (by omega) dL_adds_262 hL (v := (nI ni)) (by simp (disch := omega) only [up_ne]; exact z1) ?_ | refine g_ildr Rw.t rfl (by omega) rfl (by omega) dL_adds_262 hL (v := (nI ni)) (by simp (disch := omega) only [up_ne]; exact z1) ?_ | refine g_ildr Rw.d rfl (by omega) rfl (by omega) dL_adds_262 hL (v := (nI ni)) (by simp (disch := omega) only [up_ne]; exact z1) ?_ | refine g_ildr Rw.a rfl (by omega) rfl (by omega) dL_adds_262 hL (v := (nI ni)) (by simp (disch := omega) only [up_ne]; exact z1) ?_ | refine g_ildr Rw.b rfl (by omega) rfl (by omega) dL_adds_262 hL (v := (nI ni)) (by simp (disch := omega) only [up_ne]; exact z1) ?_ | refine g_ildr Rw.c rfl (by omega) rfl (by omega) dL_adds_262 hL (v := (nI ni)) (by simp (disch := omega) only [up_ne]; exact z1) ?_
        refine g_iconst (v := nI 1) dL_adds_263 (by decide +kernel) ?_
        first | refine g_iadd_n dL_adds_264 ?_ | refine g_iadd dL_adds_264 ?_
        first | refine g_istr Rw.g rfl (by omega) rfl (by omega) dL_adds_265 hL hK ?_ | refine g_istr Rw.t rfl (by omega) rfl (by omega) dL_adds_265 hL hK ?_ | refine g_istr Rw.d rfl (by omega) rfl (by omega) dL_adds_265 hL hK ?_ | refine g_istr Rw.a rfl (by omega) rfl (by omega) dL_adds_265 hL hK ?_ | refine g_istr Rw.b rfl (by omega) rfl (by omega) dL_adds_265 hL hK ?_ | refine g_istr Rw.c rfl (by omega) rfl (by omega) dL_adds_265 hL hK ?_
        intro h hL hK
        have hL : Lw h (mItm M ni (nI 1) (nI s) (nI u) (nI 0)) := hL
        refine g_ild9 dL_adds_266 ?_
        show Go _ _ _ _ _ _ 268 _ _
        refine g_ild8 dL_adds_268 ?_
        refine g_icmp_ne_f (tgt := 277) dL_adds_270 (by decide) rfl ?_
        refine g_iconst (v := nI 1) dL_adds_273 (by decide +kernel) ?_
        refine g_goto (tgt := 278) dL_adds_274 (by decide) ?_
        exact g_zret rfl rfl dL_adds_278 ⟨1, rfl, rfl, _, ni + 1, hL, R2.kr (by omega) hd hj hK, inv_item hI hX hi8 hs (by omega) (Or.inr rfl) hx hid⟩
    · have hx2 : ∃ i, i < ni ∧ h.1 (4 + i) 1 = nI s := ⟨i, hi9, (hIt i hi9).2.1.trans hx⟩
      have ho := s8.trans hid.1
      obtain rfl | rfl : b = 0 ∨ b = 1 := by omega
      · obtain ⟨b1, b2, -⟩ := bt_9 ⟨f, hf9⟩
        refine g_ild5 dL_adds_148 ?_
        refine g_if_eq_t (tgt := 164) dL_adds_150 (by decide) rfl ?_
        refine g_ald0 dL_adds_164 ?_
        refine g_ild4 dL_adds_165 ?_
        refine g_ild7 dL_adds_167 ?_
        show Go _ _ _ _ _ _ 169 _ _
        refine g_callS1 (l_bits (h := h) f (by omega)) mw_2_152 ok_L_bits ⟨by decide, by decide⟩ (by omega) (by omega) (Nat.le_of_ble_eq_true rfl) dL_adds_169 (dI_K ?_)
        refine g_callV2 (c_addTape_4 (h := h) s ni nj (bt f) hs ⟨b1, b2⟩ hS n1 (by omega) n3 ho hx2) mw_3_65 ok_X9_addTape ⟨by decide, by decide⟩ (by first | assumption | exact lay_item (by omega) | exact lay_drive (by omega) | exact lay_job (by omega) | rfl) (by omega) rfl (by omega) (by omega) (Nat.le_of_ble_eq_true rfl) dL_adds_172 (dI_K ?_)
        refine g_ist9 (by decide) dL_adds_175 ?_
        refine g_ild8 dL_adds_177 ?_
        refine g_if_lt_t (tgt := 266) dL_adds_179 (by decide) (by decide) ?_
        refine g_ild9 dL_adds_266 ?_
        show Go _ _ _ _ _ _ 268 _ _
        refine g_ild8 dL_adds_268 ?_
        refine g_icmp_ne_f (tgt := 277) dL_adds_270 (by decide) rfl ?_
        refine g_iconst (v := nI 1) dL_adds_273 (by decide +kernel) ?_
        refine g_goto (tgt := 278) dL_adds_274 (by decide) ?_
        exact g_zret rfl rfl dL_adds_278 ⟨1, rfl, rfl, M, ni, hT⟩
      · skip
        refine g_ild5 dL_adds_148 ?_
        refine g_if_eq_f (tgt := 164) dL_adds_150 (by decide) (by decide) ?_
        refine g_ald0 dL_adds_153 ?_
        refine g_ild4 dL_adds_154 ?_
        refine g_ild6 dL_adds_156 ?_
        show Go _ _ _ _ _ _ 158 _ _
        refine g_callV2 (c_addCleaner_4 (h := h) s ni nj (nI u) hs hu hS n1 (by omega) n3 ho hx2) mw_3_133 ok_X9_addCleaner ⟨by decide, by decide⟩ (by first | assumption | exact lay_item (by omega) | exact lay_drive (by omega) | exact lay_job (by omega) | rfl) (by omega) rfl (by omega) (by omega) (Nat.le_of_ble_eq_true rfl) dL_adds_158 (dI_K ?_)
        refine g_goto (tgt := 175) dL_adds_161 (by decide) ?_
        refine g_ist9 (by decide) dL_adds_175 ?_
        refine g_ild8 dL_adds_177 ?_
        refine g_if_lt_t (tgt := 266) dL_adds_179 (by decide) (by decide) ?_
        refine g_ild9 dL_adds_266 ?_
        show Go _ _ _ _ _ _ 268 _ _
        refine g_ild8 dL_adds_268 ?_
        refine g_icmp_ne_f (tgt := 277) dL_adds_270 (by decide) rfl ?_
        refine g_iconst (v := nI 1) dL_adds_273 (by decide +kernel) ?_
        refine g_goto (tgt := 278) dL_adds_274 (by decide) ?_
        exact g_zret rfl rfl dL_adds_278 ⟨1, rfl, rfl, M, ni, hT⟩
  have k68 : ∀ s b u f r, s < 24 → b < 2 → nI 1 ≤ nI u ∧ nI u ≤ nI 50 → f < 9 → ((r = nI ni ∧ ∀ i, i < ni → M.1 1 (6 * i + 1) ≠ nI s) ∨ (r = -4 ∧ ∃ i, i < ni ∧ M.1 1 (6 * i + 1) = nI s)) → Go G mL_adds 456 (rI (fun r h' => r = 1 ∧ ∃ M' ni', Tn h' M' ni' nd nj T)) h 456 68 [some (ga G 0), some (ga G 449), some (ga G 450), some (.int x), some (.int (nI s)), some (.int (nI b)), some (.int (nI u)), some (.int (nI f)), none, none] [.int r] := by
    intro s b u f r hs hb hu hf9 hr
    rcases hI.2.2.2.2.2.2 with hid | ⟨j, it, k, q, hB⟩
    · rcases Nat.lt_or_ge ni 8 with hi8 | hi8
      · skip
        refine g_ist8 (by decide) dL_adds_68 ?_
        refine g_ald1 dL_adds_70 ?_
        refine g_iconst (v := nI 3) dL_adds_71 (by decide +kernel) ?_
        first | refine g_ildr Rw.g rfl (by omega) rfl (by omega) dL_adds_72 hL (v := (-5 : Int32)) hid.1 ?_ | refine g_ildr Rw.t rfl (by omega) rfl (by omega) dL_adds_72 hL (v := (-5 : Int32)) hid.1 ?_ | refine g_ildr Rw.d rfl (by omega) rfl (by omega) dL_adds_72 hL (v := (-5 : Int32)) hid.1 ?_ | refine g_ildr Rw.a rfl (by omega) rfl (by omega) dL_adds_72 hL (v := (-5 : Int32)) hid.1 ?_ | refine g_ildr Rw.b rfl (by omega) rfl (by omega) dL_adds_72 hL (v := (-5 : Int32)) hid.1 ?_ | refine g_ildr Rw.c rfl (by omega) rfl (by omega) dL_adds_72 hL (v := (-5 : Int32)) hid.1 ?_
        refine g_if_ge_f (tgt := 85) dL_adds_73 (by decide) (by decide) ?_
        show Go _ _ _ _ _ _ 76 _ _
        refine g_ald1 dL_adds_76 ?_
        refine g_bipush (v := nI 9) dL_adds_77 (by decide +kernel) ?_
        first | refine g_ildr Rw.g rfl (by omega) rfl (by omega) dL_adds_79 hL (v := (nI ni)) z1 ?_ | refine g_ildr Rw.t rfl (by omega) rfl (by omega) dL_adds_79 hL (v := (nI ni)) z1 ?_ | refine g_ildr Rw.d rfl (by omega) rfl (by omega) dL_adds_79 hL (v := (nI ni)) z1 ?_ | refine g_ildr Rw.a rfl (by omega) rfl (by omega) dL_adds_79 hL (v := (nI ni)) z1 ?_ | refine g_ildr Rw.b rfl (by omega) rfl (by omega) dL_adds_79 hL (v := (nI ni)) z1 ?_ | refine g_ildr Rw.c rfl (by omega) rfl (by omega) dL_adds_79 hL (v := (nI ni)) z1 ?_
        refine g_bipush (v := nI 8) dL_adds_80 (by decide +kernel) ?_
        refine g_icmp_ne_t (tgt := 148) dL_adds_82 (by decide) (fun z => by have := (nI_eq (a := ni) (b := 8) (by omega) (by omega)).mp z; omega) ?_
        exact k148 s b u f r hs hb hu hf9 hr hi8 hid
      · obtain rfl : ni = 8 := by omega
        refine g_ist8 (by decide) dL_adds_68 ?_
        refine g_ald1 dL_adds_70 ?_
        refine g_iconst (v := nI 3) dL_adds_71 (by decide +kernel) ?_
        first | refine g_ildr Rw.g rfl (by omega) rfl (by omega) dL_adds_72 hL (v := (-5 : Int32)) hid.1 ?_ | refine g_ildr Rw.t rfl (by omega) rfl (by omega) dL_adds_72 hL (v := (-5 : Int32)) hid.1 ?_ | refine g_ildr Rw.d rfl (by omega) rfl (by omega) dL_adds_72 hL (v := (-5 : Int32)) hid.1 ?_ | refine g_ildr Rw.a rfl (by omega) rfl (by omega) dL_adds_72 hL (v := (-5 : Int32)) hid.1 ?_ | refine g_ildr Rw.b rfl (by omega) rfl (by omega) dL_adds_72 hL (v := (-5 : Int32)) hid.1 ?_ | refine g_ildr Rw.c rfl (by omega) rfl (by omega) dL_adds_72 hL (v := (-5 : Int32)) hid.1 ?_
        refine g_if_ge_f (tgt := 85) dL_adds_73 (by decide) (by decide) ?_
        show Go _ _ _ _ _ _ 76 _ _
        refine g_ald1 dL_adds_76 ?_
        refine g_bipush (v := nI 9) dL_adds_77 (by decide +kernel) ?_
        first | refine g_ildr Rw.g rfl (by omega) rfl (by omega) dL_adds_79 hL (v := (nI 8)) z1 ?_ | refine g_ildr Rw.t rfl (by omega) rfl (by omega) dL_adds_79 hL (v := (nI 8)) z1 ?_ | refine g_ildr Rw.d rfl (by omega) rfl (by omega) dL_adds_79 hL (v := (nI 8)) z1 ?_ | refine g_ildr Rw.a rfl (by omega) rfl (by omega) dL_adds_79 hL (v := (nI 8)) z1 ?_ | refine g_ildr Rw.b rfl (by omega) rfl (by omega) dL_adds_79 hL (v := (nI 8)) z1 ?_ | refine g_ildr Rw.c rfl (by omega) rfl (by omega) dL_adds_79 hL (v := (nI 8)) z1 ?_
        refine g_bipush (v := nI 8) dL_adds_80 (by decide +kernel) ?_
        refine g_icmp_ne_f (tgt := 148) dL_adds_82 (by decide) rfl ?_
        exact k85 s b u f r hs hf9
    · have ho : M.1 0 3 = nI j := hB.1.1.2.1
      have hj9 : j < nj := hB.1.1.1
      refine g_ist8 (by decide) dL_adds_68 ?_
      refine g_ald1 dL_adds_70 ?_
      refine g_iconst (v := nI 3) dL_adds_71 (by decide +kernel) ?_
      first | refine g_ildr Rw.g rfl (by omega) rfl (by omega) dL_adds_72 hL (v := (nI j)) ho ?_ | refine g_ildr Rw.t rfl (by omega) rfl (by omega) dL_adds_72 hL (v := (nI j)) ho ?_ | refine g_ildr Rw.d rfl (by omega) rfl (by omega) dL_adds_72 hL (v := (nI j)) ho ?_ | refine g_ildr Rw.a rfl (by omega) rfl (by omega) dL_adds_72 hL (v := (nI j)) ho ?_ | refine g_ildr Rw.b rfl (by omega) rfl (by omega) dL_adds_72 hL (v := (nI j)) ho ?_ | refine g_ildr Rw.c rfl (by omega) rfl (by omega) dL_adds_72 hL (v := (nI j)) ho ?_
      refine g_if_ge_t (tgt := 85) dL_adds_73 (by decide) (nI_pos' (by omega)) ?_
      exact k85 s b u f r hs hf9
  have k24 : ∀ s b, s < 24 → b < 2 → Go G mL_adds 456 (rI (fun r h' => r = 1 ∧ ∃ M' ni', Tn h' M' ni' nd nj T)) h 456 24 [some (ga G 0), some (ga G 449), some (ga G 450), some (.int x), some (.int (nI s)), none, none, none, none, none] [.int (nI b)] := by
    intro s b hs hb
    refine g_ist5 (by decide) dL_adds_24 ?_
    refine g_iconst (v := nI 1) dL_adds_26 (by decide +kernel) ?_
    refine g_ild3 dL_adds_27 ?_
    refine g_bipush (v := nI 9) dL_adds_28 (by decide +kernel) ?_
    refine g_ishr dL_adds_30 ?_
    show Go _ _ _ _ _ _ 31 _ _
    refine g_iconst (v := nI 3) dL_adds_31 (by decide +kernel) ?_
    refine g_callS2 (l_low (h := h) _ 3 (by omega) (by omega)) mw_2_118 ok_L_low ⟨by decide, by decide⟩ (by omega) (by omega) (Nat.le_of_ble_eq_true rfl) dL_adds_32 (rI_K ?_)
    rintro r h ⟨rfl, u, hu, rfl⟩
    have hu2 : nI 1 ≤ nI (1 + u) ∧ nI (1 + u) ≤ nI 50 := ⟨nI_le (by omega) (by omega), nI_le (by omega) (by omega)⟩
    first | refine g_iadd_n dL_adds_35 ?_ | refine g_iadd dL_adds_35 ?_
    refine g_ist6 (by decide) dL_adds_36 ?_
    refine g_ild3 dL_adds_38 ?_
    refine g_bipush (v := nI 9) dL_adds_39 (by decide +kernel) ?_
    show Go _ _ _ _ _ _ 41 _ _
    refine g_ishr dL_adds_41 ?_
    refine g_bipush (v := nI 9) dL_adds_42 (by decide +kernel) ?_
    refine g_callS2 (l_low (h := h) _ 9 (by omega) (by omega)) mw_2_118 ok_L_low ⟨by decide, by decide⟩ (by omega) (by omega) (Nat.le_of_ble_eq_true rfl) dL_adds_44 (rI_K ?_)
    rintro r h ⟨rfl, f, hf9, rfl⟩
    refine g_ist7 (by decide) dL_adds_47 ?_
    refine g_ald1 dL_adds_49 ?_
    refine g_ald2 dL_adds_50 ?_
    show Go _ _ _ _ _ _ 51 _ _
    refine g_ild4 dL_adds_51 ?_
    refine g_callS3 (l_atHome (h := h) M (nI s) ni nd nj hL hz) mw_3_44 ok_L_atHome ⟨by decide, by decide⟩ (by omega) (by omega) (Nat.le_of_ble_eq_true rfl) dL_adds_53 (rI_K ?_)
    rintro r h ⟨rfl, hr⟩
    refine g_if_lt (tgt := 64) dL_adds_56 (by decide) (fun c_56 => ?_) (fun c_56 => ?_)
    · skip
      refine g_ald1 dL_adds_64 ?_
      refine g_bipush (v := nI 9) dL_adds_65 (by decide +kernel) ?_
      first | refine g_ildr Rw.g rfl (by omega) rfl (by omega) dL_adds_67 hL (v := (nI ni)) z1 ?_ | refine g_ildr Rw.t rfl (by omega) rfl (by omega) dL_adds_67 hL (v := (nI ni)) z1 ?_ | refine g_ildr Rw.d rfl (by omega) rfl (by omega) dL_adds_67 hL (v := (nI ni)) z1 ?_ | refine g_ildr Rw.a rfl (by omega) rfl (by omega) dL_adds_67 hL (v := (nI ni)) z1 ?_ | refine g_ildr Rw.b rfl (by omega) rfl (by omega) dL_adds_67 hL (v := (nI ni)) z1 ?_ | refine g_ildr Rw.c rfl (by omega) rfl (by omega) dL_adds_67 hL (v := (nI ni)) z1 ?_
      first | exact k68 s b (1 + u) f (-4) hs hb hu2 hf9 (Or.inr ⟨rfl, by rcases hr with ⟨w, -⟩ | ⟨i, hi9, -, w⟩; exact absurd (show r < 0 by rw [w]; decide) c_56; exact ⟨i, hi9, w⟩⟩) | exact k68 s b (1 + u) f (nI ni) hs hb hu2 hf9 (Or.inl ⟨rfl, by rcases hr with ⟨-, w⟩ | ⟨i, hi9, w, -⟩; exact w; exact absurd c_56 (by rw [w]; exact Int32.not_lt.mpr (nI_pos' (by omega)))⟩)
    · skip
      show Go _ _ _ _ _ _ 59 _ _
      refine g_bipush (v := -4) dL_adds_59 (by decide +kernel) ?_
      refine g_goto (tgt := 68) dL_adds_61 (by decide) ?_
      first | exact k68 s b (1 + u) f (-4) hs hb hu2 hf9 (Or.inr ⟨rfl, by rcases hr with ⟨w, -⟩ | ⟨i, hi9, -, w⟩; exact absurd (show r < 0 by rw [w]; decide) c_56; exact ⟨i, hi9, w⟩⟩) | exact k68 s b (1 + u) f (nI ni) hs hb hu2 hf9 (Or.inl ⟨rfl, by rcases hr with ⟨-, w⟩ | ⟨i, hi9, w, -⟩; exact w; exact absurd c_56 (by rw [w]; exact Int32.not_lt.mpr (nI_pos' (by omega)))⟩)
  refine g_ild3 dL_adds_0 ?_
  refine g_bipush (v := nI 24) dL_adds_1 (by decide +kernel) ?_
  refine g_callS2 (l_low (h := h) x 24 (by omega) (by omega)) mw_2_118 ok_L_low ⟨by decide, by decide⟩ (by omega) (by omega) (Nat.le_of_ble_eq_true rfl) dL_adds_3 (rI_K ?_)
  rintro r h ⟨rfl, s, hs, rfl⟩
  refine g_ist4 (by decide) dL_adds_6 ?_
  refine g_ild3 dL_adds_8 ?_
  show Go _ _ _ _ _ _ 9 _ _
  refine g_bipush (v := nI 6) dL_adds_9 (by decide +kernel) ?_
  refine g_ishr dL_adds_11 ?_
  refine g_iconst (v := nI 3) dL_adds_12 (by decide +kernel) ?_
  refine g_callS2 (l_low (h := h) _ 3 (by omega) (by omega)) mw_2_118 ok_L_low ⟨by decide, by decide⟩ (by omega) (by omega) (Nat.le_of_ble_eq_true rfl) dL_adds_13 (rI_K ?_)
  rintro r h ⟨rfl, p, hp, rfl⟩
  refine g_if_ne (tgt := 23) dL_adds_16 (by decide) (fun c_16 => ?_) (fun c_16 => ?_)
  · skip
    refine g_iconst (v := nI 0) dL_adds_23 (by decide +kernel) ?_
    first | exact k24 s 1 hs (by omega) | exact k24 s 0 hs (by omega)
  · skip
    show Go _ _ _ _ _ _ 19 _ _
    refine g_iconst (v := nI 1) dL_adds_19 (by decide +kernel) ?_
    refine g_goto (tgt := 24) dL_adds_20 (by decide) ?_
    first | exact k24 s 1 hs (by omega) | exact k24 s 0 hs (by omega)
end P52
