/-! ===== the law's areCounts ===== -/
def usL (M : Mo) (i : Nat) : Int32 := if M.1 1 (6 * i) = 1 then M.1 1 (6 * i + 3) else nI 0
section P57
variable {G : Gl} {h : Hp}
theorem us_eq (M : Mo) (ni nd nj : Nat) (hR : Rb h M ni nd nj) (hC : Icl M ni) : sumI (usB h) ni = sumI (usL M) ni := by
  refine sumI_c ni (fun i hi => ?_)
  obtain ⟨-, -, hIt, -⟩ := id hR
  obtain ⟨i0, -, -, -, i4, -⟩ := hIt i hi
  unfold usB usL
  rw [i0, i4]
  rcases hC i hi with c | c
  · rw [c, if_pos rfl, if_neg (by decide)]
  · rw [c, if_neg (by decide), if_pos rfl]
theorem lq_areCounts (M : Mo) (ni nd nj T : Nat) (hT : Tn h M ni nd nj T) : Ct G mL_areCounts [ga G 0, ga G 449, ga G 450, ga G 452, ga G 453, ga G 454] h 456 456 (dI 1 h) := by
  obtain ⟨hL, hR, hI, hX⟩ := id hT
  obtain ⟨⟨hi, hd, hj⟩, -, -, hC, hf, -⟩ := id hI.1
  obtain ⟨hz, -⟩ := id hX.1
  obtain ⟨z1, -, z3, -, z5, -⟩ := id hz
  obtain ⟨⟨s5, s6, s7, s8, s9, s10, s11, -⟩, ⟨n1, n2, n3, -⟩, hIt, hD, hJ, -, -, hS⟩ := id hR
  obtain ⟨m12, m13, m14⟩ := hI.2.1
  refine Ct.of rfl (by simp [Value.category, ga]) (Nat.le_of_ble_eq_true rfl) (Nat.le_refl _) ?_
  show Go _ _ _ _ _ _ _ [some (ga G 0), some (ga G 449), some (ga G 450), some (ga G 452), some (ga G 453), some (ga G 454), none, none, none] []
  have k127 : ∀ x7 x8, Go G mL_areCounts 456 (dI 1 h) h 456 127 [some (ga G 0), some (ga G 449), some (ga G 450), some (ga G 452), some (ga G 453), some (ga G 454), some (.int (sumI (usL M) ni)), x7, x8] [] := by
    intro x7 x8
    refine g_ald0 dL_areCounts_127 ?_
    refine g_iconst (v := nI 0) dL_areCounts_128 (by decide +kernel) ?_
    refine g_callV1 (c_count_0 (h := h) hS) mw_2_226 ok_X9_count ⟨by decide, by decide⟩ (by first | assumption | exact lay_item (by omega) | exact lay_drive (by omega) | exact lay_job (by omega) | rfl) (by omega) rfl (by omega) (by omega) (Nat.le_of_ble_eq_true rfl) dL_areCounts_129 (dI_K ?_)
    refine g_ald1 dL_areCounts_132 ?_
    refine g_iconst (v := nI 0) dL_areCounts_133 (by decide +kernel) ?_
    show Go _ _ _ _ _ _ 134 _ _
    first | refine g_ildr Rw.g rfl (by omega) rfl (by omega) dL_areCounts_134 hL rfl ?_ | refine g_ildr Rw.t rfl (by omega) rfl (by omega) dL_areCounts_134 hL rfl ?_ | refine g_ildr Rw.d rfl (by omega) rfl (by omega) dL_areCounts_134 hL rfl ?_ | refine g_ildr Rw.a rfl (by omega) rfl (by omega) dL_areCounts_134 hL rfl ?_ | refine g_ildr Rw.b rfl (by omega) rfl (by omega) dL_areCounts_134 hL rfl ?_ | refine g_ildr Rw.c rfl (by omega) rfl (by omega) dL_areCounts_134 hL rfl ?_
    refine g_icmp_ne_f (tgt := 214) dL_areCounts_135 (by decide) s5 ?_
    refine g_ald0 dL_areCounts_138 ?_
    refine g_iconst (v := nI 1) dL_areCounts_139 (by decide +kernel) ?_
    refine g_callV1 (c_count_1 (h := h) hS) mw_2_226 ok_X9_count ⟨by decide, by decide⟩ (by first | assumption | exact lay_item (by omega) | exact lay_drive (by omega) | exact lay_job (by omega) | rfl) (by omega) rfl (by omega) (by omega) (Nat.le_of_ble_eq_true rfl) dL_areCounts_140 (dI_K ?_)
    refine g_ald1 dL_areCounts_143 ?_
    show Go _ _ _ _ _ _ 144 _ _
    refine g_iconst (v := nI 1) dL_areCounts_144 (by decide +kernel) ?_
    first | refine g_ildr Rw.g rfl (by omega) rfl (by omega) dL_areCounts_145 hL rfl ?_ | refine g_ildr Rw.t rfl (by omega) rfl (by omega) dL_areCounts_145 hL rfl ?_ | refine g_ildr Rw.d rfl (by omega) rfl (by omega) dL_areCounts_145 hL rfl ?_ | refine g_ildr Rw.a rfl (by omega) rfl (by omega) dL_areCounts_145 hL rfl ?_ | refine g_ildr Rw.b rfl (by omega) rfl (by omega) dL_areCounts_145 hL rfl ?_ | refine g_ildr Rw.c rfl (by omega) rfl (by omega) dL_areCounts_145 hL rfl ?_
    refine g_icmp_ne_f (tgt := 214) dL_areCounts_146 (by decide) s6 ?_
    refine g_ald0 dL_areCounts_149 ?_
    refine g_iconst (v := nI 2) dL_areCounts_150 (by decide +kernel) ?_
    refine g_callV1 (c_count_2 (h := h) hS) mw_2_226 ok_X9_count ⟨by decide, by decide⟩ (by first | assumption | exact lay_item (by omega) | exact lay_drive (by omega) | exact lay_job (by omega) | rfl) (by omega) rfl (by omega) (by omega) (Nat.le_of_ble_eq_true rfl) dL_areCounts_151 (dI_K ?_)
    show Go _ _ _ _ _ _ 154 _ _
    refine g_ald1 dL_areCounts_154 ?_
    refine g_iconst (v := nI 2) dL_areCounts_155 (by decide +kernel) ?_
    first | refine g_ildr Rw.g rfl (by omega) rfl (by omega) dL_areCounts_156 hL rfl ?_ | refine g_ildr Rw.t rfl (by omega) rfl (by omega) dL_areCounts_156 hL rfl ?_ | refine g_ildr Rw.d rfl (by omega) rfl (by omega) dL_areCounts_156 hL rfl ?_ | refine g_ildr Rw.a rfl (by omega) rfl (by omega) dL_areCounts_156 hL rfl ?_ | refine g_ildr Rw.b rfl (by omega) rfl (by omega) dL_areCounts_156 hL rfl ?_ | refine g_ildr Rw.c rfl (by omega) rfl (by omega) dL_areCounts_156 hL rfl ?_
    refine g_icmp_ne_f (tgt := 214) dL_areCounts_157 (by decide) s7 ?_
    refine g_ald0 dL_areCounts_160 ?_
    refine g_iconst (v := nI 3) dL_areCounts_161 (by decide +kernel) ?_
    show Go _ _ _ _ _ _ 162 _ _
    refine g_callV1 (c_count_3 (h := h) hS) mw_2_226 ok_X9_count ⟨by decide, by decide⟩ (by first | assumption | exact lay_item (by omega) | exact lay_drive (by omega) | exact lay_job (by omega) | rfl) (by omega) rfl (by omega) (by omega) (Nat.le_of_ble_eq_true rfl) dL_areCounts_162 (dI_K ?_)
    refine g_ald1 dL_areCounts_165 ?_
    refine g_iconst (v := nI 3) dL_areCounts_166 (by decide +kernel) ?_
    first | refine g_ildr Rw.g rfl (by omega) rfl (by omega) dL_areCounts_167 hL rfl ?_ | refine g_ildr Rw.t rfl (by omega) rfl (by omega) dL_areCounts_167 hL rfl ?_ | refine g_ildr Rw.d rfl (by omega) rfl (by omega) dL_areCounts_167 hL rfl ?_ | refine g_ildr Rw.a rfl (by omega) rfl (by omega) dL_areCounts_167 hL rfl ?_ | refine g_ildr Rw.b rfl (by omega) rfl (by omega) dL_areCounts_167 hL rfl ?_ | refine g_ildr Rw.c rfl (by omega) rfl (by omega) dL_areCounts_167 hL rfl ?_
    refine g_icmp_ne_f (tgt := 214) dL_areCounts_168 (by decide) s8 ?_
    refine g_ald0 dL_areCounts_171 ?_
    show Go _ _ _ _ _ _ 172 _ _
    refine g_bipush (v := nI 9) dL_areCounts_172 (by decide +kernel) ?_
    refine g_callV1 (c_count_9 (h := h) hS) mw_2_226 ok_X9_count ⟨by decide, by decide⟩ (by first | assumption | exact lay_item (by omega) | exact lay_drive (by omega) | exact lay_job (by omega) | rfl) (by omega) rfl (by omega) (by omega) (Nat.le_of_ble_eq_true rfl) dL_areCounts_174 (dI_K ?_)
    refine g_ald1 dL_areCounts_177 ?_
    refine g_bipush (v := nI 9) dL_areCounts_178 (by decide +kernel) ?_
    first | refine g_ildr Rw.g rfl (by omega) rfl (by omega) dL_areCounts_180 hL rfl ?_ | refine g_ildr Rw.t rfl (by omega) rfl (by omega) dL_areCounts_180 hL rfl ?_ | refine g_ildr Rw.d rfl (by omega) rfl (by omega) dL_areCounts_180 hL rfl ?_ | refine g_ildr Rw.a rfl (by omega) rfl (by omega) dL_areCounts_180 hL rfl ?_ | refine g_ildr Rw.b rfl (by omega) rfl (by omega) dL_areCounts_180 hL rfl ?_ | refine g_ildr Rw.c rfl (by omega) rfl (by omega) dL_areCounts_180 hL rfl ?_
    refine g_icmp_ne_f (tgt := 214) dL_areCounts_181 (by decide) (n1.trans z1.symm) ?_
    show Go _ _ _ _ _ _ 184 _ _
    refine g_ald0 dL_areCounts_184 ?_
    refine g_bipush (v := nI 10) dL_areCounts_185 (by decide +kernel) ?_
    refine g_callV1 (c_count_10 (h := h) hS) mw_2_226 ok_X9_count ⟨by decide, by decide⟩ (by first | assumption | exact lay_item (by omega) | exact lay_drive (by omega) | exact lay_job (by omega) | rfl) (by omega) rfl (by omega) (by omega) (Nat.le_of_ble_eq_true rfl) dL_areCounts_187 (dI_K ?_)
    refine g_ald1 dL_areCounts_190 ?_
    refine g_bipush (v := nI 10) dL_areCounts_191 (by decide +kernel) ?_
    first | refine g_ildr Rw.g rfl (by omega) rfl (by omega) dL_areCounts_193 hL rfl ?_ | refine g_ildr Rw.t rfl (by omega) rfl (by omega) dL_areCounts_193 hL rfl ?_ | refine g_ildr Rw.d rfl (by omega) rfl (by omega) dL_areCounts_193 hL rfl ?_ | refine g_ildr Rw.a rfl (by omega) rfl (by omega) dL_areCounts_193 hL rfl ?_ | refine g_ildr Rw.b rfl (by omega) rfl (by omega) dL_areCounts_193 hL rfl ?_ | refine g_ildr Rw.c rfl (by omega) rfl (by omega) dL_areCounts_193 hL rfl ?_
    show Go _ _ _ _ _ _ 194 _ _
    refine g_icmp_ne_f (tgt := 214) dL_areCounts_194 (by decide) (n2.trans z3.symm) ?_
    refine g_ald0 dL_areCounts_197 ?_
    refine g_bipush (v := nI 11) dL_areCounts_198 (by decide +kernel) ?_
    refine g_callV1 (c_count_11 (h := h) nd hS n2 hd) mw_2_226 ok_X9_count ⟨by decide, by decide⟩ (by first | assumption | exact lay_item (by omega) | exact lay_drive (by omega) | exact lay_job (by omega) | rfl) (by omega) rfl (by omega) (by omega) (Nat.le_of_ble_eq_true rfl) dL_areCounts_200 (dI_K ?_)
    refine g_ald1 dL_areCounts_203 ?_
    refine g_bipush (v := nI 12) dL_areCounts_204 (by decide +kernel) ?_
    show Go _ _ _ _ _ _ 206 _ _
    first | refine g_ildr Rw.g rfl (by omega) rfl (by omega) dL_areCounts_206 hL rfl ?_ | refine g_ildr Rw.t rfl (by omega) rfl (by omega) dL_areCounts_206 hL rfl ?_ | refine g_ildr Rw.d rfl (by omega) rfl (by omega) dL_areCounts_206 hL rfl ?_ | refine g_ildr Rw.a rfl (by omega) rfl (by omega) dL_areCounts_206 hL rfl ?_ | refine g_ildr Rw.b rfl (by omega) rfl (by omega) dL_areCounts_206 hL rfl ?_ | refine g_ildr Rw.c rfl (by omega) rfl (by omega) dL_areCounts_206 hL rfl ?_
    refine g_icmp_ne_f (tgt := 214) dL_areCounts_207 (by decide) ((sumI_c nd (fun k hk => (hD k hk).2.2.2.1)).trans m12.symm) ?_
    refine g_iconst (v := nI 1) dL_areCounts_210 (by decide +kernel) ?_
    refine g_goto (tgt := 215) dL_areCounts_211 (by decide) ?_
    refine g_ist7 (by decide) dL_areCounts_215 ?_
    refine g_ild7 dL_areCounts_217 ?_
    show Go _ _ _ _ _ _ 219 _ _
    refine g_if_eq_f (tgt := 313) dL_areCounts_219 (by decide) (by decide) ?_
    refine g_ald0 dL_areCounts_222 ?_
    refine g_bipush (v := nI 12) dL_areCounts_223 (by decide +kernel) ?_
    refine g_callV1 (c_count_12 (h := h) nd hS n2 hd) mw_2_226 ok_X9_count ⟨by decide, by decide⟩ (by first | assumption | exact lay_item (by omega) | exact lay_drive (by omega) | exact lay_job (by omega) | rfl) (by omega) rfl (by omega) (by omega) (Nat.le_of_ble_eq_true rfl) dL_areCounts_225 (dI_K ?_)
    refine g_ald1 dL_areCounts_228 ?_
    refine g_bipush (v := nI 13) dL_areCounts_229 (by decide +kernel) ?_
    show Go _ _ _ _ _ _ 231 _ _
    first | refine g_ildr Rw.g rfl (by omega) rfl (by omega) dL_areCounts_231 hL rfl ?_ | refine g_ildr Rw.t rfl (by omega) rfl (by omega) dL_areCounts_231 hL rfl ?_ | refine g_ildr Rw.d rfl (by omega) rfl (by omega) dL_areCounts_231 hL rfl ?_ | refine g_ildr Rw.a rfl (by omega) rfl (by omega) dL_areCounts_231 hL rfl ?_ | refine g_ildr Rw.b rfl (by omega) rfl (by omega) dL_areCounts_231 hL rfl ?_ | refine g_ildr Rw.c rfl (by omega) rfl (by omega) dL_areCounts_231 hL rfl ?_
    refine g_icmp_ne_f (tgt := 313) dL_areCounts_232 (by decide) ((sumI_c nd (fun k hk => (hD k hk).2.2.2.2.1)).trans m13.symm) ?_
    refine g_ald0 dL_areCounts_235 ?_
    refine g_bipush (v := nI 13) dL_areCounts_236 (by decide +kernel) ?_
    refine g_callV1 (c_count_13 (h := h) nd hS n2 hd) mw_2_226 ok_X9_count ⟨by decide, by decide⟩ (by first | assumption | exact lay_item (by omega) | exact lay_drive (by omega) | exact lay_job (by omega) | rfl) (by omega) rfl (by omega) (by omega) (Nat.le_of_ble_eq_true rfl) dL_areCounts_238 (dI_K ?_)
    refine g_ald1 dL_areCounts_241 ?_
    show Go _ _ _ _ _ _ 242 _ _
    refine g_bipush (v := nI 14) dL_areCounts_242 (by decide +kernel) ?_
    first | refine g_ildr Rw.g rfl (by omega) rfl (by omega) dL_areCounts_244 hL rfl ?_ | refine g_ildr Rw.t rfl (by omega) rfl (by omega) dL_areCounts_244 hL rfl ?_ | refine g_ildr Rw.d rfl (by omega) rfl (by omega) dL_areCounts_244 hL rfl ?_ | refine g_ildr Rw.a rfl (by omega) rfl (by omega) dL_areCounts_244 hL rfl ?_ | refine g_ildr Rw.b rfl (by omega) rfl (by omega) dL_areCounts_244 hL rfl ?_ | refine g_ildr Rw.c rfl (by omega) rfl (by omega) dL_areCounts_244 hL rfl ?_
    refine g_icmp_ne_f (tgt := 313) dL_areCounts_245 (by decide) ((sumI_c nd (fun k hk => (hD k hk).2.2.2.2.2.1)).trans m14.symm) ?_
    refine g_ald0 dL_areCounts_248 ?_
    refine g_bipush (v := nI 14) dL_areCounts_249 (by decide +kernel) ?_
    refine g_callV1 (c_count_14 (h := h) hS) mw_2_226 ok_X9_count ⟨by decide, by decide⟩ (by first | assumption | exact lay_item (by omega) | exact lay_drive (by omega) | exact lay_job (by omega) | rfl) (by omega) rfl (by omega) (by omega) (Nat.le_of_ble_eq_true rfl) dL_areCounts_251 (dI_K ?_)
    show Go _ _ _ _ _ _ 254 _ _
    refine g_ald1 dL_areCounts_254 ?_
    refine g_bipush (v := nI 15) dL_areCounts_255 (by decide +kernel) ?_
    first | refine g_ildr Rw.g rfl (by omega) rfl (by omega) dL_areCounts_257 hL rfl ?_ | refine g_ildr Rw.t rfl (by omega) rfl (by omega) dL_areCounts_257 hL rfl ?_ | refine g_ildr Rw.d rfl (by omega) rfl (by omega) dL_areCounts_257 hL rfl ?_ | refine g_ildr Rw.a rfl (by omega) rfl (by omega) dL_areCounts_257 hL rfl ?_ | refine g_ildr Rw.b rfl (by omega) rfl (by omega) dL_areCounts_257 hL rfl ?_ | refine g_ildr Rw.c rfl (by omega) rfl (by omega) dL_areCounts_257 hL rfl ?_
    refine g_icmp_ne_f (tgt := 313) dL_areCounts_258 (by decide) s9 ?_
    refine g_ald0 dL_areCounts_261 ?_
    refine g_bipush (v := nI 15) dL_areCounts_262 (by decide +kernel) ?_
    show Go _ _ _ _ _ _ 264 _ _
    refine g_callV1 (c_count_15 (h := h) hS) mw_2_226 ok_X9_count ⟨by decide, by decide⟩ (by first | assumption | exact lay_item (by omega) | exact lay_drive (by omega) | exact lay_job (by omega) | rfl) (by omega) rfl (by omega) (by omega) (Nat.le_of_ble_eq_true rfl) dL_areCounts_264 (dI_K ?_)
    refine g_ald1 dL_areCounts_267 ?_
    refine g_bipush (v := nI 16) dL_areCounts_268 (by decide +kernel) ?_
    first | refine g_ildr Rw.g rfl (by omega) rfl (by omega) dL_areCounts_270 hL rfl ?_ | refine g_ildr Rw.t rfl (by omega) rfl (by omega) dL_areCounts_270 hL rfl ?_ | refine g_ildr Rw.d rfl (by omega) rfl (by omega) dL_areCounts_270 hL rfl ?_ | refine g_ildr Rw.a rfl (by omega) rfl (by omega) dL_areCounts_270 hL rfl ?_ | refine g_ildr Rw.b rfl (by omega) rfl (by omega) dL_areCounts_270 hL rfl ?_ | refine g_ildr Rw.c rfl (by omega) rfl (by omega) dL_areCounts_270 hL rfl ?_
    refine g_icmp_ne_f (tgt := 313) dL_areCounts_271 (by decide) s10 ?_
    refine g_ald0 dL_areCounts_274 ?_
    show Go _ _ _ _ _ _ 275 _ _
    refine g_bipush (v := nI 16) dL_areCounts_275 (by decide +kernel) ?_
    refine g_callV1 (c_count_16 (h := h) hS) mw_2_226 ok_X9_count ⟨by decide, by decide⟩ (by first | assumption | exact lay_item (by omega) | exact lay_drive (by omega) | exact lay_job (by omega) | rfl) (by omega) rfl (by omega) (by omega) (Nat.le_of_ble_eq_true rfl) dL_areCounts_277 (dI_K ?_)
    refine g_ald1 dL_areCounts_280 ?_
    refine g_bipush (v := nI 17) dL_areCounts_281 (by decide +kernel) ?_
    first | refine g_ildr Rw.g rfl (by omega) rfl (by omega) dL_areCounts_283 hL rfl ?_ | refine g_ildr Rw.t rfl (by omega) rfl (by omega) dL_areCounts_283 hL rfl ?_ | refine g_ildr Rw.d rfl (by omega) rfl (by omega) dL_areCounts_283 hL rfl ?_ | refine g_ildr Rw.a rfl (by omega) rfl (by omega) dL_areCounts_283 hL rfl ?_ | refine g_ildr Rw.b rfl (by omega) rfl (by omega) dL_areCounts_283 hL rfl ?_ | refine g_ildr Rw.c rfl (by omega) rfl (by omega) dL_areCounts_283 hL rfl ?_
    refine g_icmp_ne_f (tgt := 313) dL_areCounts_284 (by decide) s11 ?_
    show Go _ _ _ _ _ _ 287 _ _
    refine g_ald0 dL_areCounts_287 ?_
    refine g_bipush (v := nI 17) dL_areCounts_288 (by decide +kernel) ?_
    refine g_callV1 (c_count_17 (h := h) ni hS n1 (by omega)) mw_2_226 ok_X9_count ⟨by decide, by decide⟩ (by first | assumption | exact lay_item (by omega) | exact lay_drive (by omega) | exact lay_job (by omega) | rfl) (by omega) rfl (by omega) (by omega) (Nat.le_of_ble_eq_true rfl) dL_areCounts_290 (dI_K ?_)
    refine g_ild6 dL_areCounts_293 ?_
    refine g_icmp_ne_f (tgt := 313) dL_areCounts_295 (by decide) (us_eq M ni nd nj hR hC) ?_
    refine g_ald0 dL_areCounts_298 ?_
    show Go _ _ _ _ _ _ 299 _ _
    refine g_bipush (v := nI 20) dL_areCounts_299 (by decide +kernel) ?_
    refine g_callV1 (c_count_20 (h := h)) mw_2_226 ok_X9_count ⟨by decide, by decide⟩ (by first | assumption | exact lay_item (by omega) | exact lay_drive (by omega) | exact lay_job (by omega) | rfl) (by omega) rfl (by omega) (by omega) (Nat.le_of_ble_eq_true rfl) dL_areCounts_301 (dI_K ?_)
    refine g_bipush (v := -2) dL_areCounts_304 (by decide +kernel) ?_
    refine g_icmp_ne_f (tgt := 313) dL_areCounts_306 (by decide) rfl ?_
    refine g_iconst (v := nI 1) dL_areCounts_309 (by decide +kernel) ?_
    refine g_goto (tgt := 314) dL_areCounts_310 (by decide) ?_
    show Go _ _ _ _ _ _ 314 _ _
    refine g_ist7 (by decide) dL_areCounts_314 ?_
    refine g_ild7 dL_areCounts_316 ?_
    refine g_if_eq_f (tgt := 342) dL_areCounts_318 (by decide) (by decide) ?_
    refine g_ald0 dL_areCounts_321 ?_
    refine g_callV0 (c_next (h := h) M ni nd nj hR hI.1) mw_3_3 ok_X9_next ⟨by decide, by decide⟩ (by first | assumption | exact lay_item (by omega) | exact lay_drive (by omega) | exact lay_job (by omega) | rfl) (by omega) rfl (by omega) (by omega) (Nat.le_of_ble_eq_true rfl) dL_areCounts_322 (rI_K ?_)
    rintro r h ⟨rfl, hr⟩
    refine g_ald1 dL_areCounts_325 ?_
    show Go _ _ _ _ _ _ 326 _ _
    refine g_ald2 dL_areCounts_326 ?_
    refine g_ald3 dL_areCounts_327 ?_
    refine g_ald4 dL_areCounts_328 ?_
    refine g_ald5 dL_areCounts_330 ?_
    refine g_callS5 (l_first (h := h) M ni nd nj hL hz hI.1) mw_3_38 ok_L_first ⟨by decide, by decide⟩ (by omega) (by omega) (Nat.le_of_ble_eq_true rfl) dL_areCounts_332 (rI_K ?_)
    rintro r2 h ⟨rfl, hr2⟩
    refine g_icmp_ne_f (tgt := 342) dL_areCounts_335 (by decide) (IsMin.one (by omega) hr hr2) ?_
    show Go _ _ _ _ _ _ 338 _ _
    refine g_iconst (v := nI 1) dL_areCounts_338 (by decide +kernel) ?_
    refine g_goto (tgt := 343) dL_areCounts_339 (by decide) ?_
    exact g_zret rfl rfl dL_areCounts_343 ⟨rfl, rfl⟩
  have loop3 : ∀ m i x8, m + i = ni → Go G mL_areCounts 456 (dI 1 h) h 456 83 [some (ga G 0), some (ga G 449), some (ga G 450), some (ga G 452), some (ga G 453), some (ga G 454), some (.int (sumI (usL M) i)), some (.int (nI i)), x8] [] := by
    intro m
    induction m with
    | zero =>
      intro i x8 hin
      obtain rfl : i = ni := by omega
      refine g_ild7 dL_areCounts_83 ?_
      refine g_ald1 dL_areCounts_85 ?_
      refine g_bipush (v := nI 9) dL_areCounts_86 (by decide +kernel) ?_
      first | refine g_ildr Rw.g rfl (by omega) rfl (by omega) dL_areCounts_88 hL (v := (nI i)) z1 ?_ | refine g_ildr Rw.t rfl (by omega) rfl (by omega) dL_areCounts_88 hL (v := (nI i)) z1 ?_ | refine g_ildr Rw.d rfl (by omega) rfl (by omega) dL_areCounts_88 hL (v := (nI i)) z1 ?_ | refine g_ildr Rw.a rfl (by omega) rfl (by omega) dL_areCounts_88 hL (v := (nI i)) z1 ?_ | refine g_ildr Rw.b rfl (by omega) rfl (by omega) dL_areCounts_88 hL (v := (nI i)) z1 ?_ | refine g_ildr Rw.c rfl (by omega) rfl (by omega) dL_areCounts_88 hL (v := (nI i)) z1 ?_
      refine g_icmp_ge_t (tgt := 127) dL_areCounts_89 (by decide) (nI_le (by omega) (by omega)) ?_
      exact k127 _ _
    | succ m ih =>
      intro i x8 hin
      refine g_ild7 dL_areCounts_83 ?_
      refine g_ald1 dL_areCounts_85 ?_
      refine g_bipush (v := nI 9) dL_areCounts_86 (by decide +kernel) ?_
      first | refine g_ildr Rw.g rfl (by omega) rfl (by omega) dL_areCounts_88 hL (v := (nI ni)) z1 ?_ | refine g_ildr Rw.t rfl (by omega) rfl (by omega) dL_areCounts_88 hL (v := (nI ni)) z1 ?_ | refine g_ildr Rw.d rfl (by omega) rfl (by omega) dL_areCounts_88 hL (v := (nI ni)) z1 ?_ | refine g_ildr Rw.a rfl (by omega) rfl (by omega) dL_areCounts_88 hL (v := (nI ni)) z1 ?_ | refine g_ildr Rw.b rfl (by omega) rfl (by omega) dL_areCounts_88 hL (v := (nI ni)) z1 ?_ | refine g_ildr Rw.c rfl (by omega) rfl (by omega) dL_areCounts_88 hL (v := (nI ni)) z1 ?_
      refine g_icmp_ge_f (tgt := 127) dL_areCounts_89 (by decide) (nI_ge (by omega) (by omega)) ?_
      show Go _ _ _ _ _ _ 92 _ _
      refine g_ild6 dL_areCounts_92 ?_
      refine g_ald2 dL_areCounts_94 ?_
      refine g_bipush (v := nI 6) dL_areCounts_95 (by decide +kernel) ?_
      refine g_ild7 dL_areCounts_97 ?_
      first | refine g_imul_n dL_areCounts_99 ?_ | refine g_imul dL_areCounts_99 ?_
      first | refine g_ildr Rw.g rfl (by omega) rfl (by omega) dL_areCounts_100 hL rfl ?_ | refine g_ildr Rw.t rfl (by omega) rfl (by omega) dL_areCounts_100 hL rfl ?_ | refine g_ildr Rw.d rfl (by omega) rfl (by omega) dL_areCounts_100 hL rfl ?_ | refine g_ildr Rw.a rfl (by omega) rfl (by omega) dL_areCounts_100 hL rfl ?_ | refine g_ildr Rw.b rfl (by omega) rfl (by omega) dL_areCounts_100 hL rfl ?_ | refine g_ildr Rw.c rfl (by omega) rfl (by omega) dL_areCounts_100 hL rfl ?_
      show Go _ _ _ _ _ _ 101 _ _
      refine g_iconst (v := nI 1) dL_areCounts_101 (by decide +kernel) ?_
      refine g_icmp_ne (tgt := 117) dL_areCounts_102 (by decide) (fun c_102 => ?_) (fun c_102 => ?_)
      · skip
        refine g_iconst (v := nI 0) dL_areCounts_117 (by decide +kernel) ?_
        refine g_iadd_v dL_areCounts_118 (v := sumI (usL M) (i + 1)) (congrArg (fun z => sumI (usL M) i + z) (by first | exact (if_pos c_102).symm | exact (if_neg c_102).symm)) ?_
        refine g_ist6 (by decide) dL_areCounts_119 ?_
        refine g_iinc7 (by decide) dL_areCounts_121 (nI_1 i) ?_
        show Go _ _ _ _ _ _ 124 _ _
        refine g_goto (tgt := 83) dL_areCounts_124 (by decide) ?_
        exact ih (i + 1) _ (by omega)
      · skip
        refine g_ald2 dL_areCounts_105 ?_
        refine g_bipush (v := nI 6) dL_areCounts_106 (by decide +kernel) ?_
        refine g_ild7 dL_areCounts_108 ?_
        first | refine g_imul_n dL_areCounts_110 ?_ | refine g_imul dL_areCounts_110 ?_
        refine g_iconst (v := nI 3) dL_areCounts_111 (by decide +kernel) ?_
        show Go _ _ _ _ _ _ 112 _ _
        first | refine g_iadd_n dL_areCounts_112 ?_ | refine g_iadd dL_areCounts_112 ?_
        first | refine g_ildr Rw.g rfl (by omega) rfl (by omega) dL_areCounts_113 hL rfl ?_ | refine g_ildr Rw.t rfl (by omega) rfl (by omega) dL_areCounts_113 hL rfl ?_ | refine g_ildr Rw.d rfl (by omega) rfl (by omega) dL_areCounts_113 hL rfl ?_ | refine g_ildr Rw.a rfl (by omega) rfl (by omega) dL_areCounts_113 hL rfl ?_ | refine g_ildr Rw.b rfl (by omega) rfl (by omega) dL_areCounts_113 hL rfl ?_ | refine g_ildr Rw.c rfl (by omega) rfl (by omega) dL_areCounts_113 hL rfl ?_
        refine g_goto (tgt := 118) dL_areCounts_114 (by decide) ?_
        refine g_iadd_v dL_areCounts_118 (v := sumI (usL M) (i + 1)) (congrArg (fun z => sumI (usL M) i + z) (by first | exact (if_pos c_102).symm | exact (if_neg c_102).symm)) ?_
        refine g_ist6 (by decide) dL_areCounts_119 ?_
        refine g_iinc7 (by decide) dL_areCounts_121 (nI_1 i) ?_
        show Go _ _ _ _ _ _ 124 _ _
        refine g_goto (tgt := 83) dL_areCounts_124 (by decide) ?_
        exact ih (i + 1) _ (by omega)
  have loop1 : ∀ m w x7 x8, m + w = 9 → 4 ≤ w → Go G mL_areCounts 456 (dI 1 h) h 456 3 [some (ga G 0), some (ga G 449), some (ga G 450), some (ga G 452), some (ga G 453), some (ga G 454), some (.int (nI w)), x7, x8] [] := by
    intro m
    induction m with
    | zero =>
      intro w x7 x8 hw hw4
      obtain rfl : w = 9 := by omega
      refine g_ild6 dL_areCounts_3 ?_
      refine g_bipush (v := nI 9) dL_areCounts_5 (by decide +kernel) ?_
      refine g_icmp_ge_t (tgt := 77) dL_areCounts_7 (by decide) (by decide) ?_
      refine g_iconst (v := nI 0) dL_areCounts_77 (by decide +kernel) ?_
      refine g_ist6 (by decide) dL_areCounts_78 ?_
      show Go _ _ _ _ _ _ 80 _ _
      refine g_iconst (v := nI 0) dL_areCounts_80 (by decide +kernel) ?_
      refine g_ist7 (by decide) dL_areCounts_81 ?_
      exact loop3 ni 0 _ (by omega)
    | succ m ih =>
      intro w x7 x8 hw hw4
      have loop2 : ∀ m j, m + j = nj → Go G mL_areCounts 456 (dI 1 h) h 456 16 [some (ga G 0), some (ga G 449), some (ga G 450), some (ga G 452), some (ga G 453), some (ga G 454), some (.int (nI w)), some (.int (cnI (fun j => M.1 3 (6 * j + 3) = nI w - nI 4) j)), some (.int (nI j))] [] := by
        intro m
        induction m with
        | zero =>
          intro j hjn
          obtain rfl : j = nj := by omega
          refine g_ild8 dL_areCounts_16 ?_
          refine g_ald1 dL_areCounts_18 ?_
          refine g_bipush (v := nI 11) dL_areCounts_19 (by decide +kernel) ?_
          first | refine g_ildr Rw.g rfl (by omega) rfl (by omega) dL_areCounts_21 hL (v := (nI j)) z5 ?_ | refine g_ildr Rw.t rfl (by omega) rfl (by omega) dL_areCounts_21 hL (v := (nI j)) z5 ?_ | refine g_ildr Rw.d rfl (by omega) rfl (by omega) dL_areCounts_21 hL (v := (nI j)) z5 ?_ | refine g_ildr Rw.a rfl (by omega) rfl (by omega) dL_areCounts_21 hL (v := (nI j)) z5 ?_ | refine g_ildr Rw.b rfl (by omega) rfl (by omega) dL_areCounts_21 hL (v := (nI j)) z5 ?_ | refine g_ildr Rw.c rfl (by omega) rfl (by omega) dL_areCounts_21 hL (v := (nI j)) z5 ?_
          refine g_icmp_ge_t (tgt := 58) dL_areCounts_22 (by decide) (nI_le (by omega) (by omega)) ?_
          show Go _ _ _ _ _ _ 58 _ _
          refine g_ald0 dL_areCounts_58 ?_
          refine g_ild6 dL_areCounts_59 ?_
          refine g_callV1 (c_count_st (h := h) w j (by omega) hS n3 (by omega)) mw_2_226 ok_X9_count ⟨by decide, by decide⟩ (by first | assumption | exact lay_item (by omega) | exact lay_drive (by omega) | exact lay_job (by omega) | rfl) (by omega) rfl (by omega) (by omega) (Nat.le_of_ble_eq_true rfl) dL_areCounts_61 (dI_K ?_)
          refine g_ild7 dL_areCounts_64 ?_
          refine g_icmp_eq_t (tgt := 71) dL_areCounts_66 (by decide) (cnI_c j (fun q hq => by rw [(hJ q hq).1.2.2.2])) ?_
          refine g_iinc6 (by decide) dL_areCounts_71 (nI_1 w) ?_
          show Go _ _ _ _ _ _ 74 _ _
          refine g_goto (tgt := 3) dL_areCounts_74 (by decide) ?_
          exact ih (w + 1) _ _ (by omega) (by omega)
        | succ m ih2 =>
          intro j hjn
          refine g_ild8 dL_areCounts_16 ?_
          refine g_ald1 dL_areCounts_18 ?_
          refine g_bipush (v := nI 11) dL_areCounts_19 (by decide +kernel) ?_
          first | refine g_ildr Rw.g rfl (by omega) rfl (by omega) dL_areCounts_21 hL (v := (nI nj)) z5 ?_ | refine g_ildr Rw.t rfl (by omega) rfl (by omega) dL_areCounts_21 hL (v := (nI nj)) z5 ?_ | refine g_ildr Rw.d rfl (by omega) rfl (by omega) dL_areCounts_21 hL (v := (nI nj)) z5 ?_ | refine g_ildr Rw.a rfl (by omega) rfl (by omega) dL_areCounts_21 hL (v := (nI nj)) z5 ?_ | refine g_ildr Rw.b rfl (by omega) rfl (by omega) dL_areCounts_21 hL (v := (nI nj)) z5 ?_ | refine g_ildr Rw.c rfl (by omega) rfl (by omega) dL_areCounts_21 hL (v := (nI nj)) z5 ?_
          refine g_icmp_ge_f (tgt := 58) dL_areCounts_22 (by decide) (nI_ge (by omega) (by omega)) ?_
          show Go _ _ _ _ _ _ 25 _ _
          refine g_ild7 dL_areCounts_25 ?_
          refine g_ald4 dL_areCounts_27 ?_
          refine g_bipush (v := nI 6) dL_areCounts_29 (by decide +kernel) ?_
          refine g_ild8 dL_areCounts_31 ?_
          first | refine g_imul_n dL_areCounts_33 ?_ | refine g_imul dL_areCounts_33 ?_
          refine g_iconst (v := nI 3) dL_areCounts_34 (by decide +kernel) ?_
          show Go _ _ _ _ _ _ 35 _ _
          first | refine g_iadd_n dL_areCounts_35 ?_ | refine g_iadd dL_areCounts_35 ?_
          first | refine g_ildr Rw.g rfl (by omega) rfl (by omega) dL_areCounts_36 hL rfl ?_ | refine g_ildr Rw.t rfl (by omega) rfl (by omega) dL_areCounts_36 hL rfl ?_ | refine g_ildr Rw.d rfl (by omega) rfl (by omega) dL_areCounts_36 hL rfl ?_ | refine g_ildr Rw.a rfl (by omega) rfl (by omega) dL_areCounts_36 hL rfl ?_ | refine g_ildr Rw.b rfl (by omega) rfl (by omega) dL_areCounts_36 hL rfl ?_ | refine g_ildr Rw.c rfl (by omega) rfl (by omega) dL_areCounts_36 hL rfl ?_
          refine g_ild6 dL_areCounts_37 ?_
          refine g_iconst (v := nI 4) dL_areCounts_39 (by decide +kernel) ?_
          refine g_isub dL_areCounts_40 ?_
          refine g_icmp_ne (tgt := 48) dL_areCounts_41 (by decide) (fun c_41 => ?_) (fun c_41 => ?_)
          · skip
            show Go _ _ _ _ _ _ 48 _ _
            refine g_iconst (v := nI 0) dL_areCounts_48 (by decide +kernel) ?_
            refine g_iadd_v dL_areCounts_49 (v := cnI (fun j => M.1 3 (6 * j + 3) = nI w - nI 4) (j + 1)) (congrArg (fun z => cnI (fun j => M.1 3 (6 * j + 3) = nI w - nI 4) j + z) (by first | exact (if_pos c_41).symm | exact (if_neg c_41).symm)) ?_
            refine g_ist7 (by decide) dL_areCounts_50 ?_
            refine g_iinc8 (by decide) dL_areCounts_52 (nI_1 j) ?_
            refine g_goto (tgt := 16) dL_areCounts_55 (by decide) ?_
            exact ih2 (j + 1) (by omega)
          · skip
            refine g_iconst (v := nI 1) dL_areCounts_44 (by decide +kernel) ?_
            show Go _ _ _ _ _ _ 45 _ _
            refine g_goto (tgt := 49) dL_areCounts_45 (by decide) ?_
            refine g_iadd_v dL_areCounts_49 (v := cnI (fun j => M.1 3 (6 * j + 3) = nI w - nI 4) (j + 1)) (congrArg (fun z => cnI (fun j => M.1 3 (6 * j + 3) = nI w - nI 4) j + z) (by first | exact (if_pos c_41).symm | exact (if_neg c_41).symm)) ?_
            refine g_ist7 (by decide) dL_areCounts_50 ?_
            refine g_iinc8 (by decide) dL_areCounts_52 (nI_1 j) ?_
            refine g_goto (tgt := 16) dL_areCounts_55 (by decide) ?_
            exact ih2 (j + 1) (by omega)
      refine g_ild6 dL_areCounts_3 ?_
      refine g_bipush (v := nI 9) dL_areCounts_5 (by decide +kernel) ?_
      refine g_icmp_ge_f (tgt := 77) dL_areCounts_7 (by decide) (nI_ge (by omega) (by omega)) ?_
      refine g_iconst (v := nI 0) dL_areCounts_10 (by decide +kernel) ?_
      refine g_ist7 (by decide) dL_areCounts_11 ?_
      show Go _ _ _ _ _ _ 13 _ _
      refine g_iconst (v := nI 0) dL_areCounts_13 (by decide +kernel) ?_
      refine g_ist8 (by decide) dL_areCounts_14 ?_
      exact loop2 nj 0 (by omega)
  refine g_iconst (v := nI 4) dL_areCounts_0 (by decide +kernel) ?_
  refine g_ist6 (by decide) dL_areCounts_1 ?_
  exact loop1 5 4 _ _ (by omega) (by omega)
end P57
