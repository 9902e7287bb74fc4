/-! ===== the law's areItems ===== -/
theorem st_lt : ∀ q : Fin 5, (nI q.1 < 2 ↔ nI q.1 = 0 ∨ nI q.1 = 1) := by decide
section P56
variable {G : Gl} {h : Hp}
theorem jw_iff (M : Mo) (ni nd nj i j : Nat) (hR : Rb h M ni nd nj) (hJw : Jw M nj) (hj : j < nj) (hi : i < 1000) : jwB h (nI i) j = true ↔ (if M.1 3 (6 * j) = 1 then (M.1 3 (6 * j + 3) = 1 ∧ M.1 4 (6 * j) = nI i) else (M.1 3 (6 * j + 3) < 2 ∧ M.1 3 (6 * j + 1) = nI i)) := by
  obtain ⟨-, -, -, -, hJ, -⟩ := id hR
  obtain ⟨⟨f0, f1, f2, f3⟩, -, f8, -⟩ := hJ j hj
  obtain ⟨⟨q, hq, e⟩, h0, -⟩ := hJw j hj
  unfold jwB
  rw [decide_eq_true_iff]
  unfold jw
  rw [f3, f0, f8, f1]
  by_cases c : M.1 3 (6 * j) = 1
  · rw [if_pos c, if_pos c]
    constructor
    · rintro ⟨w | w, y⟩
      · rw [(h0 w).1.2] at y; exact absurd y.symm (nI_n5 hi)
      · exact ⟨w, y⟩
    · rintro ⟨w, y⟩; exact ⟨Or.inr w, y⟩
  · rw [if_neg c, if_neg c, e, st_lt ⟨q, by omega⟩]
theorem lq_areItems (M : Mo) (ni nd nj T : Nat) (hT : Tn h M ni nd nj T) : Ct G mL_areItems [ga G 0, ga G 449, ga G 450, ga G 451, ga G 453, ga G 454] h 456 456 (dI 1 h) := by
  obtain ⟨hL, hR, hI, hX⟩ := id hT
  obtain ⟨⟨hi, hd, hj⟩, -, hH, hC, hf, hu, -⟩ := id hI.1
  obtain ⟨⟨z1, -, z3, -, z5, -⟩, -⟩ := id hX.1
  obtain ⟨-, ⟨n1, n2, n3, -⟩, hIt, -, hJ, -, -, hS⟩ := id hR
  have hJw := hI.2.2.1
  refine Ct.of rfl (by simp [Value.category, ga]) (Nat.le_of_ble_eq_true rfl) (Nat.le_refl _) ?_
  show Go _ _ _ _ _ _ _ [some (ga G 0), some (ga G 449), some (ga G 450), some (ga G 451), some (ga G 453), some (ga G 454), none, none, none, none, none] []
  have exit : ∀ x7 x8 x9 x10, Go G mL_areItems 456 (dI 1 h) h 456 356 [some (ga G 0), some (ga G 449), some (ga G 450), some (ga G 451), some (ga G 453), some (ga G 454), some (.int (nI ni)), x7, x8, x9, x10] [] := by
    intro x7 x8 x9 x10
    rcases Nat.eq_zero_or_pos ni with hz | hpos
    · skip
      refine g_ald0 dL_areItems_356 ?_
      refine g_ald1 dL_areItems_357 ?_
      refine g_bipush (v := nI 9) dL_areItems_358 (by decide +kernel) ?_
      first | refine g_ildr Rw.g rfl (by omega) rfl (by omega) dL_areItems_360 hL (v := (nI ni)) z1 ?_ | refine g_ildr Rw.t rfl (by omega) rfl (by omega) dL_areItems_360 hL (v := (nI ni)) z1 ?_ | refine g_ildr Rw.d rfl (by omega) rfl (by omega) dL_areItems_360 hL (v := (nI ni)) z1 ?_ | refine g_ildr Rw.a rfl (by omega) rfl (by omega) dL_areItems_360 hL (v := (nI ni)) z1 ?_ | refine g_ildr Rw.b rfl (by omega) rfl (by omega) dL_areItems_360 hL (v := (nI ni)) z1 ?_ | refine g_ildr Rw.c rfl (by omega) rfl (by omega) dL_areItems_360 hL (v := (nI ni)) z1 ?_
      refine g_iconst (v := nI 0) dL_areItems_361 (by decide +kernel) ?_
      show Go _ _ _ _ _ _ 362 _ _
      refine g_callV2 (c_item_n (h := h) (nI ni) (nI 0) ni hS n1 (Or.inr (nI_le (Nat.le_refl _) (by omega)))) mw_2_125 ok_X9_item ⟨by decide, by decide⟩ (by first | assumption | exact lay_item (by omega) | exact lay_drive (by omega) | exact lay_job (by omega) | rfl) (by omega) rfl (by omega) (by omega) (Nat.le_of_ble_eq_true rfl) dL_areItems_362 (dI_K ?_)
      refine g_iconst (v := -1) dL_areItems_365 (by decide +kernel) ?_
      refine g_icmp_ne_f (tgt := 396) dL_areItems_366 (by decide) rfl ?_
      refine g_ald0 dL_areItems_369 ?_
      refine g_iconst (v := nI 0) dL_areItems_370 (by decide +kernel) ?_
      refine g_bipush (v := nI 8) dL_areItems_371 (by decide +kernel) ?_
      show Go _ _ _ _ _ _ 373 _ _
      refine g_callV2 (c_item_n (h := h) (nI 0) (nI 8) ni hS n1 (Or.inr (nI_le (by omega) (by omega)))) mw_2_125 ok_X9_item ⟨by decide, by decide⟩ (by first | assumption | exact lay_item (by omega) | exact lay_drive (by omega) | exact lay_job (by omega) | rfl) (by omega) rfl (by omega) (by omega) (Nat.le_of_ble_eq_true rfl) dL_areItems_373 (dI_K ?_)
      refine g_ald1 dL_areItems_376 ?_
      refine g_bipush (v := nI 9) dL_areItems_377 (by decide +kernel) ?_
      first | refine g_ildr Rw.g rfl (by omega) rfl (by omega) dL_areItems_379 hL (v := (nI ni)) z1 ?_ | refine g_ildr Rw.t rfl (by omega) rfl (by omega) dL_areItems_379 hL (v := (nI ni)) z1 ?_ | refine g_ildr Rw.d rfl (by omega) rfl (by omega) dL_areItems_379 hL (v := (nI ni)) z1 ?_ | refine g_ildr Rw.a rfl (by omega) rfl (by omega) dL_areItems_379 hL (v := (nI ni)) z1 ?_ | refine g_ildr Rw.b rfl (by omega) rfl (by omega) dL_areItems_379 hL (v := (nI ni)) z1 ?_ | refine g_ildr Rw.c rfl (by omega) rfl (by omega) dL_areItems_379 hL (v := (nI ni)) z1 ?_
      refine g_if_le_t (tgt := 388) dL_areItems_380 (by decide) (by rw [hz]; decide) ?_
      refine g_iconst (v := -1) dL_areItems_388 (by decide +kernel) ?_
      show Go _ _ _ _ _ _ 389 _ _
      refine g_icmp_ne_f (tgt := 396) dL_areItems_389 (by decide) rfl ?_
      refine g_iconst (v := nI 1) dL_areItems_392 (by decide +kernel) ?_
      refine g_goto (tgt := 397) dL_areItems_393 (by decide) ?_
      exact g_zret rfl rfl dL_areItems_397 ⟨rfl, rfl⟩
    · skip
      refine g_ald0 dL_areItems_356 ?_
      refine g_ald1 dL_areItems_357 ?_
      refine g_bipush (v := nI 9) dL_areItems_358 (by decide +kernel) ?_
      first | refine g_ildr Rw.g rfl (by omega) rfl (by omega) dL_areItems_360 hL (v := (nI ni)) z1 ?_ | refine g_ildr Rw.t rfl (by omega) rfl (by omega) dL_areItems_360 hL (v := (nI ni)) z1 ?_ | refine g_ildr Rw.d rfl (by omega) rfl (by omega) dL_areItems_360 hL (v := (nI ni)) z1 ?_ | refine g_ildr Rw.a rfl (by omega) rfl (by omega) dL_areItems_360 hL (v := (nI ni)) z1 ?_ | refine g_ildr Rw.b rfl (by omega) rfl (by omega) dL_areItems_360 hL (v := (nI ni)) z1 ?_ | refine g_ildr Rw.c rfl (by omega) rfl (by omega) dL_areItems_360 hL (v := (nI ni)) z1 ?_
      refine g_iconst (v := nI 0) dL_areItems_361 (by decide +kernel) ?_
      show Go _ _ _ _ _ _ 362 _ _
      refine g_callV2 (c_item_n (h := h) (nI ni) (nI 0) ni hS n1 (Or.inr (nI_le (Nat.le_refl _) (by omega)))) mw_2_125 ok_X9_item ⟨by decide, by decide⟩ (by first | assumption | exact lay_item (by omega) | exact lay_drive (by omega) | exact lay_job (by omega) | rfl) (by omega) rfl (by omega) (by omega) (Nat.le_of_ble_eq_true rfl) dL_areItems_362 (dI_K ?_)
      refine g_iconst (v := -1) dL_areItems_365 (by decide +kernel) ?_
      refine g_icmp_ne_f (tgt := 396) dL_areItems_366 (by decide) rfl ?_
      refine g_ald0 dL_areItems_369 ?_
      refine g_iconst (v := nI 0) dL_areItems_370 (by decide +kernel) ?_
      refine g_bipush (v := nI 8) dL_areItems_371 (by decide +kernel) ?_
      show Go _ _ _ _ _ _ 373 _ _
      refine g_callV2 (c_item_8 (h := h) 0 ni hS n1 (by omega) hpos) mw_2_125 ok_X9_item ⟨by decide, by decide⟩ (by first | assumption | exact lay_item (by omega) | exact lay_drive (by omega) | exact lay_job (by omega) | rfl) (by omega) rfl (by omega) (by omega) (Nat.le_of_ble_eq_true rfl) dL_areItems_373 (dI_K ?_)
      refine g_ald1 dL_areItems_376 ?_
      refine g_bipush (v := nI 9) dL_areItems_377 (by decide +kernel) ?_
      first | refine g_ildr Rw.g rfl (by omega) rfl (by omega) dL_areItems_379 hL (v := (nI ni)) z1 ?_ | refine g_ildr Rw.t rfl (by omega) rfl (by omega) dL_areItems_379 hL (v := (nI ni)) z1 ?_ | refine g_ildr Rw.d rfl (by omega) rfl (by omega) dL_areItems_379 hL (v := (nI ni)) z1 ?_ | refine g_ildr Rw.a rfl (by omega) rfl (by omega) dL_areItems_379 hL (v := (nI ni)) z1 ?_ | refine g_ildr Rw.b rfl (by omega) rfl (by omega) dL_areItems_379 hL (v := (nI ni)) z1 ?_ | refine g_ildr Rw.c rfl (by omega) rfl (by omega) dL_areItems_379 hL (v := (nI ni)) z1 ?_
      refine g_if_le_f (tgt := 388) dL_areItems_380 (by decide) (nI_ge (a := 0) hpos (by omega)) ?_
      refine g_bipush (v := -2) dL_areItems_383 (by decide +kernel) ?_
      show Go _ _ _ _ _ _ 385 _ _
      refine g_goto (tgt := 389) dL_areItems_385 (by decide) ?_
      refine g_icmp_ne_f (tgt := 396) dL_areItems_389 (by decide) rfl ?_
      refine g_iconst (v := nI 1) dL_areItems_392 (by decide +kernel) ?_
      refine g_goto (tgt := 397) dL_areItems_393 (by decide) ?_
      exact g_zret rfl rfl dL_areItems_397 ⟨rfl, rfl⟩
  have loop : ∀ m i x7 x8 x9 x10, m + i = ni → Go G mL_areItems 456 (dI 1 h) h 456 3 [some (ga G 0), some (ga G 449), some (ga G 450), some (ga G 451), some (ga G 453), some (ga G 454), some (.int (nI i)), x7, x8, x9, x10] [] := by
    intro m
    induction m with
    | zero =>
      intro i x7 x8 x9 x10 hin
      obtain rfl : i = ni := by omega
      refine g_ild6 dL_areItems_3 ?_
      refine g_ald1 dL_areItems_5 ?_
      refine g_bipush (v := nI 9) dL_areItems_6 (by decide +kernel) ?_
      first | refine g_ildr Rw.g rfl (by omega) rfl (by omega) dL_areItems_8 hL (v := (nI i)) z1 ?_ | refine g_ildr Rw.t rfl (by omega) rfl (by omega) dL_areItems_8 hL (v := (nI i)) z1 ?_ | refine g_ildr Rw.d rfl (by omega) rfl (by omega) dL_areItems_8 hL (v := (nI i)) z1 ?_ | refine g_ildr Rw.a rfl (by omega) rfl (by omega) dL_areItems_8 hL (v := (nI i)) z1 ?_ | refine g_ildr Rw.b rfl (by omega) rfl (by omega) dL_areItems_8 hL (v := (nI i)) z1 ?_ | refine g_ildr Rw.c rfl (by omega) rfl (by omega) dL_areItems_8 hL (v := (nI i)) z1 ?_
      refine g_icmp_ge_t (tgt := 356) dL_areItems_9 (by decide) (nI_le (by omega) (by omega)) ?_
      exact exit _ _ _ _
    | succ m ih =>
      intro i x7 x8 x9 x10 hin
      have hin2 : i < ni := by omega
      obtain ⟨i0, i1, i2, i3, i4, ⟨f, ff1, ff2, ff3, -⟩, i7⟩ := hIt i hin2
      obtain ⟨m1, m2⟩ := hH i hin2
      have hi0 : (if h.1 (4 + i) 0 = 0 then nI 0 else nI 1) = M.1 1 (6 * i) := by
        rw [i0]
        rcases hC i hin2 with c | c
        · rw [c]; rfl
        · rw [c]; rfl
      have k177 : ∀ x10, Go G mL_areItems 456 (dI 1 h) h 456 177 [some (ga G 0), some (ga G 449), some (ga G 450), some (ga G 451), some (ga G 453), some (ga G 454), some (.int (nI i)), some (.int (inD M nd i)), some (.int (cnI (fun j => jwB h (nI i) j = true) nj)), some (.int (nI nj)), x10] [] := by
        intro x10
        refine g_ald0 dL_areItems_177 ?_
        refine g_ild6 dL_areItems_178 ?_
        refine g_iconst (v := nI 0) dL_areItems_180 (by decide +kernel) ?_
        refine g_callV2 (c_item_0 (h := h) i ni hS n1 (by omega) hin2) mw_2_125 ok_X9_item ⟨by decide, by decide⟩ (by first | assumption | exact lay_item (by omega) | exact lay_drive (by omega) | exact lay_job (by omega) | rfl) (by omega) rfl (by omega) (by omega) (Nat.le_of_ble_eq_true rfl) dL_areItems_181 (dI_K ?_)
        refine g_ald2 dL_areItems_184 ?_
        show Go _ _ _ _ _ _ 185 _ _
        refine g_bipush (v := nI 6) dL_areItems_185 (by decide +kernel) ?_
        refine g_ild6 dL_areItems_187 ?_
        first | refine g_imul_n dL_areItems_189 ?_ | refine g_imul dL_areItems_189 ?_
        first | refine g_ildr Rw.g rfl (by omega) rfl (by omega) dL_areItems_190 hL rfl ?_ | refine g_ildr Rw.t rfl (by omega) rfl (by omega) dL_areItems_190 hL rfl ?_ | refine g_ildr Rw.d rfl (by omega) rfl (by omega) dL_areItems_190 hL rfl ?_ | refine g_ildr Rw.a rfl (by omega) rfl (by omega) dL_areItems_190 hL rfl ?_ | refine g_ildr Rw.b rfl (by omega) rfl (by omega) dL_areItems_190 hL rfl ?_ | refine g_ildr Rw.c rfl (by omega) rfl (by omega) dL_areItems_190 hL rfl ?_
        refine g_icmp_ne_f (tgt := 267) dL_areItems_191 (by decide) hi0 ?_
        refine g_ald0 dL_areItems_194 ?_
        show Go _ _ _ _ _ _ 195 _ _
        refine g_ild6 dL_areItems_195 ?_
        refine g_iconst (v := nI 1) dL_areItems_197 (by decide +kernel) ?_
        refine g_callV2 (c_item_1 (h := h) i ni hS n1 (by omega) hin2) mw_2_125 ok_X9_item ⟨by decide, by decide⟩ (by first | assumption | exact lay_item (by omega) | exact lay_drive (by omega) | exact lay_job (by omega) | rfl) (by omega) rfl (by omega) (by omega) (Nat.le_of_ble_eq_true rfl) dL_areItems_198 (dI_K ?_)
        refine g_ald2 dL_areItems_201 ?_
        refine g_bipush (v := nI 6) dL_areItems_202 (by decide +kernel) ?_
        refine g_ild6 dL_areItems_204 ?_
        show Go _ _ _ _ _ _ 206 _ _
        first | refine g_imul_n dL_areItems_206 ?_ | refine g_imul dL_areItems_206 ?_
        refine g_iconst (v := nI 1) dL_areItems_207 (by decide +kernel) ?_
        first | refine g_iadd_n dL_areItems_208 ?_ | refine g_iadd dL_areItems_208 ?_
        first | refine g_ildr Rw.g rfl (by omega) rfl (by omega) dL_areItems_209 hL rfl ?_ | refine g_ildr Rw.t rfl (by omega) rfl (by omega) dL_areItems_209 hL rfl ?_ | refine g_ildr Rw.d rfl (by omega) rfl (by omega) dL_areItems_209 hL rfl ?_ | refine g_ildr Rw.a rfl (by omega) rfl (by omega) dL_areItems_209 hL rfl ?_ | refine g_ildr Rw.b rfl (by omega) rfl (by omega) dL_areItems_209 hL rfl ?_ | refine g_ildr Rw.c rfl (by omega) rfl (by omega) dL_areItems_209 hL rfl ?_
        refine g_icmp_ne_f (tgt := 267) dL_areItems_210 (by decide) i1 ?_
        refine g_ald0 dL_areItems_213 ?_
        show Go _ _ _ _ _ _ 214 _ _
        refine g_ild6 dL_areItems_214 ?_
        refine g_iconst (v := nI 2) dL_areItems_216 (by decide +kernel) ?_
        refine g_callV2 (c_item_2 (h := h) i ni hS n1 (by omega) hin2) mw_2_125 ok_X9_item ⟨by decide, by decide⟩ (by first | assumption | exact lay_item (by omega) | exact lay_drive (by omega) | exact lay_job (by omega) | rfl) (by omega) rfl (by omega) (by omega) (Nat.le_of_ble_eq_true rfl) dL_areItems_217 (dI_K ?_)
        refine g_ald2 dL_areItems_220 ?_
        refine g_bipush (v := nI 6) dL_areItems_221 (by decide +kernel) ?_
        refine g_ild6 dL_areItems_223 ?_
        show Go _ _ _ _ _ _ 225 _ _
        first | refine g_imul_n dL_areItems_225 ?_ | refine g_imul dL_areItems_225 ?_
        refine g_iconst (v := nI 2) dL_areItems_226 (by decide +kernel) ?_
        first | refine g_iadd_n dL_areItems_227 ?_ | refine g_iadd dL_areItems_227 ?_
        first | refine g_ildr Rw.g rfl (by omega) rfl (by omega) dL_areItems_228 hL rfl ?_ | refine g_ildr Rw.t rfl (by omega) rfl (by omega) dL_areItems_228 hL rfl ?_ | refine g_ildr Rw.d rfl (by omega) rfl (by omega) dL_areItems_228 hL rfl ?_ | refine g_ildr Rw.a rfl (by omega) rfl (by omega) dL_areItems_228 hL rfl ?_ | refine g_ildr Rw.b rfl (by omega) rfl (by omega) dL_areItems_228 hL rfl ?_ | refine g_ildr Rw.c rfl (by omega) rfl (by omega) dL_areItems_228 hL rfl ?_
        refine g_icmp_ne_f (tgt := 267) dL_areItems_229 (by decide) i2 ?_
        refine g_ald0 dL_areItems_232 ?_
        show Go _ _ _ _ _ _ 233 _ _
        refine g_ild6 dL_areItems_233 ?_
        refine g_iconst (v := nI 3) dL_areItems_235 (by decide +kernel) ?_
        refine g_callV2 (c_item_3 (h := h) i ni hS n1 (by omega) hin2) mw_2_125 ok_X9_item ⟨by decide, by decide⟩ (by first | assumption | exact lay_item (by omega) | exact lay_drive (by omega) | exact lay_job (by omega) | rfl) (by omega) rfl (by omega) (by omega) (Nat.le_of_ble_eq_true rfl) dL_areItems_236 (dI_K ?_)
        refine g_ild7 dL_areItems_239 ?_
        refine g_icmp_ne_f (tgt := 267) dL_areItems_241 (by decide) i3 ?_
        refine g_ald0 dL_areItems_244 ?_
        show Go _ _ _ _ _ _ 245 _ _
        refine g_ild6 dL_areItems_245 ?_
        refine g_iconst (v := nI 4) dL_areItems_247 (by decide +kernel) ?_
        refine g_callV2 (c_item_4 (h := h) i ni hS n1 (by omega) hin2) mw_2_125 ok_X9_item ⟨by decide, by decide⟩ (by first | assumption | exact lay_item (by omega) | exact lay_drive (by omega) | exact lay_job (by omega) | rfl) (by omega) rfl (by omega) (by omega) (Nat.le_of_ble_eq_true rfl) dL_areItems_248 (dI_K ?_)
        refine g_ald2 dL_areItems_251 ?_
        refine g_bipush (v := nI 6) dL_areItems_252 (by decide +kernel) ?_
        refine g_ild6 dL_areItems_254 ?_
        show Go _ _ _ _ _ _ 256 _ _
        first | refine g_imul_n dL_areItems_256 ?_ | refine g_imul dL_areItems_256 ?_
        refine g_iconst (v := nI 3) dL_areItems_257 (by decide +kernel) ?_
        first | refine g_iadd_n dL_areItems_258 ?_ | refine g_iadd dL_areItems_258 ?_
        first | refine g_ildr Rw.g rfl (by omega) rfl (by omega) dL_areItems_259 hL rfl ?_ | refine g_ildr Rw.t rfl (by omega) rfl (by omega) dL_areItems_259 hL rfl ?_ | refine g_ildr Rw.d rfl (by omega) rfl (by omega) dL_areItems_259 hL rfl ?_ | refine g_ildr Rw.a rfl (by omega) rfl (by omega) dL_areItems_259 hL rfl ?_ | refine g_ildr Rw.b rfl (by omega) rfl (by omega) dL_areItems_259 hL rfl ?_ | refine g_ildr Rw.c rfl (by omega) rfl (by omega) dL_areItems_259 hL rfl ?_
        refine g_icmp_ne_f (tgt := 267) dL_areItems_260 (by decide) i4 ?_
        refine g_iconst (v := nI 1) dL_areItems_263 (by decide +kernel) ?_
        show Go _ _ _ _ _ _ 264 _ _
        refine g_goto (tgt := 268) dL_areItems_264 (by decide) ?_
        refine g_ist9 (by decide) dL_areItems_268 ?_
        refine g_ild9 dL_areItems_270 ?_
        refine g_if_eq_f (tgt := 348) dL_areItems_272 (by decide) (by decide) ?_
        refine g_ald0 dL_areItems_275 ?_
        refine g_ild6 dL_areItems_276 ?_
        show Go _ _ _ _ _ _ 278 _ _
        refine g_iconst (v := nI 5) dL_areItems_278 (by decide +kernel) ?_
        refine g_callV2 (c_item_5 (h := h) i ni hS n1 (by omega) hin2) mw_2_125 ok_X9_item ⟨by decide, by decide⟩ (by first | assumption | exact lay_item (by omega) | exact lay_drive (by omega) | exact lay_job (by omega) | rfl) (by omega) rfl (by omega) (by omega) (Nat.le_of_ble_eq_true rfl) dL_areItems_279 (dI_K ?_)
        refine g_ald2 dL_areItems_282 ?_
        refine g_bipush (v := nI 6) dL_areItems_283 (by decide +kernel) ?_
        refine g_ild6 dL_areItems_285 ?_
        first | refine g_imul_n dL_areItems_287 ?_ | refine g_imul dL_areItems_287 ?_
        show Go _ _ _ _ _ _ 288 _ _
        refine g_iconst (v := nI 4) dL_areItems_288 (by decide +kernel) ?_
        first | refine g_iadd_n dL_areItems_289 ?_ | refine g_iadd dL_areItems_289 ?_
        first | refine g_ildr Rw.g rfl (by omega) rfl (by omega) dL_areItems_290 hL (v := (nI f)) ff2 ?_ | refine g_ildr Rw.t rfl (by omega) rfl (by omega) dL_areItems_290 hL (v := (nI f)) ff2 ?_ | refine g_ildr Rw.d rfl (by omega) rfl (by omega) dL_areItems_290 hL (v := (nI f)) ff2 ?_ | refine g_ildr Rw.a rfl (by omega) rfl (by omega) dL_areItems_290 hL (v := (nI f)) ff2 ?_ | refine g_ildr Rw.b rfl (by omega) rfl (by omega) dL_areItems_290 hL (v := (nI f)) ff2 ?_ | refine g_ildr Rw.c rfl (by omega) rfl (by omega) dL_areItems_290 hL (v := (nI f)) ff2 ?_
        refine g_callS1 (l_bits (h := h) f (by omega)) mw_2_152 ok_L_bits ⟨by decide, by decide⟩ (by omega) (by omega) (Nat.le_of_ble_eq_true rfl) dL_areItems_291 (dI_K ?_)
        refine g_icmp_ne_f (tgt := 348) dL_areItems_294 (by decide) (ff3.trans (bt_9 ⟨f, ff1⟩).2.2) ?_
        refine g_ald0 dL_areItems_297 ?_
        show Go _ _ _ _ _ _ 298 _ _
        refine g_ild6 dL_areItems_298 ?_
        refine g_bipush (v := nI 6) dL_areItems_300 (by decide +kernel) ?_
        refine g_callV2 (c_item_6 (h := h) i ni hS n1 (by omega) hin2) mw_2_125 ok_X9_item ⟨by decide, by decide⟩ (by first | assumption | exact lay_item (by omega) | exact lay_drive (by omega) | exact lay_job (by omega) | rfl) (by omega) rfl (by omega) (by omega) (Nat.le_of_ble_eq_true rfl) dL_areItems_302 (dI_K ?_)
        refine g_ald2 dL_areItems_305 ?_
        refine g_bipush (v := nI 6) dL_areItems_306 (by decide +kernel) ?_
        refine g_ild6 dL_areItems_308 ?_
        show Go _ _ _ _ _ _ 310 _ _
        first | refine g_imul_n dL_areItems_310 ?_ | refine g_imul dL_areItems_310 ?_
        refine g_iconst (v := nI 5) dL_areItems_311 (by decide +kernel) ?_
        first | refine g_iadd_n dL_areItems_312 ?_ | refine g_iadd dL_areItems_312 ?_
        first | refine g_ildr Rw.g rfl (by omega) rfl (by omega) dL_areItems_313 hL rfl ?_ | refine g_ildr Rw.t rfl (by omega) rfl (by omega) dL_areItems_313 hL rfl ?_ | refine g_ildr Rw.d rfl (by omega) rfl (by omega) dL_areItems_313 hL rfl ?_ | refine g_ildr Rw.a rfl (by omega) rfl (by omega) dL_areItems_313 hL rfl ?_ | refine g_ildr Rw.b rfl (by omega) rfl (by omega) dL_areItems_313 hL rfl ?_ | refine g_ildr Rw.c rfl (by omega) rfl (by omega) dL_areItems_313 hL rfl ?_
        refine g_icmp_ne_f (tgt := 348) dL_areItems_314 (by decide) i7 ?_
        refine g_ald0 dL_areItems_317 ?_
        show Go _ _ _ _ _ _ 318 _ _
        refine g_ild6 dL_areItems_318 ?_
        refine g_bipush (v := nI 7) dL_areItems_320 (by decide +kernel) ?_
        refine g_callV2 (c_item_7 (h := h) i ni nj hS n1 (by omega) hin2 n3 (by omega)) mw_2_125 ok_X9_item ⟨by decide, by decide⟩ (by first | assumption | exact lay_item (by omega) | exact lay_drive (by omega) | exact lay_job (by omega) | rfl) (by omega) rfl (by omega) (by omega) (Nat.le_of_ble_eq_true rfl) dL_areItems_322 (dI_K ?_)
        refine g_ild8 dL_areItems_325 ?_
        refine g_icmp_ne_f (tgt := 348) dL_areItems_327 (by decide) rfl ?_
        refine g_ald0 dL_areItems_330 ?_
        show Go _ _ _ _ _ _ 331 _ _
        refine g_ald2 dL_areItems_331 ?_
        refine g_bipush (v := nI 6) dL_areItems_332 (by decide +kernel) ?_
        refine g_ild6 dL_areItems_334 ?_
        first | refine g_imul_n dL_areItems_336 ?_ | refine g_imul dL_areItems_336 ?_
        refine g_iconst (v := nI 1) dL_areItems_337 (by decide +kernel) ?_
        first | refine g_iadd_n dL_areItems_338 ?_ | refine g_iadd dL_areItems_338 ?_
        show Go _ _ _ _ _ _ 339 _ _
        first | refine g_ildr Rw.g rfl (by omega) rfl (by omega) dL_areItems_339 hL (v := (nI (hm M i))) m2 ?_ | refine g_ildr Rw.t rfl (by omega) rfl (by omega) dL_areItems_339 hL (v := (nI (hm M i))) m2 ?_ | refine g_ildr Rw.d rfl (by omega) rfl (by omega) dL_areItems_339 hL (v := (nI (hm M i))) m2 ?_ | refine g_ildr Rw.a rfl (by omega) rfl (by omega) dL_areItems_339 hL (v := (nI (hm M i))) m2 ?_ | refine g_ildr Rw.b rfl (by omega) rfl (by omega) dL_areItems_339 hL (v := (nI (hm M i))) m2 ?_ | refine g_ildr Rw.c rfl (by omega) rfl (by omega) dL_areItems_339 hL (v := (nI (hm M i))) m2 ?_
        refine g_callV1 (c_homeOf (h := h) (hm M i) ni m1 hS n1 (by omega)) mw_2_155 ok_X9_homeOf ⟨by decide, by decide⟩ (by first | assumption | exact lay_item (by omega) | exact lay_drive (by omega) | exact lay_job (by omega) | rfl) (by omega) rfl (by omega) (by omega) (Nat.le_of_ble_eq_true rfl) dL_areItems_340 (rI_K ?_)
        rintro r h ⟨rfl, hm2⟩
        obtain rfl : r = nI i := by
          have hne : ¬ r = -5 := fun e => hm2.no e (by omega) i hin2 (i1.trans m2)
          obtain ⟨i', hi', e1, e2⟩ := hm2.yes hne
          rw [e2, hu i' i hi' hin2 (((hIt i' hi').2.1.symm.trans e1).trans m2.symm)]
        refine g_ild6 dL_areItems_343 ?_
        refine g_icmp_eq_t (tgt := 350) dL_areItems_345 (by decide) rfl ?_
        refine g_iinc6 (by decide) dL_areItems_350 (nI_1 i) ?_
        refine g_goto (tgt := 3) dL_areItems_353 (by decide) ?_
        exact ih (i + 1) _ _ _ _ (by omega)
      have loop2 : ∀ m j x10, m + j = nj → Go G mL_areItems 456 (dI 1 h) h 456 64 [some (ga G 0), some (ga G 449), some (ga G 450), some (ga G 451), some (ga G 453), some (ga G 454), some (.int (nI i)), some (.int (inD M nd i)), some (.int (cnI (fun j => jwB h (nI i) j = true) j)), some (.int (nI j)), x10] [] := by
        intro m
        induction m with
        | zero =>
          intro j x10 hjn
          obtain rfl : j = nj := by omega
          refine g_ild9 dL_areItems_64 ?_
          refine g_ald1 dL_areItems_66 ?_
          refine g_bipush (v := nI 11) dL_areItems_67 (by decide +kernel) ?_
          first | refine g_ildr Rw.g rfl (by omega) rfl (by omega) dL_areItems_69 hL (v := (nI j)) z5 ?_ | refine g_ildr Rw.t rfl (by omega) rfl (by omega) dL_areItems_69 hL (v := (nI j)) z5 ?_ | refine g_ildr Rw.d rfl (by omega) rfl (by omega) dL_areItems_69 hL (v := (nI j)) z5 ?_ | refine g_ildr Rw.a rfl (by omega) rfl (by omega) dL_areItems_69 hL (v := (nI j)) z5 ?_ | refine g_ildr Rw.b rfl (by omega) rfl (by omega) dL_areItems_69 hL (v := (nI j)) z5 ?_ | refine g_ildr Rw.c rfl (by omega) rfl (by omega) dL_areItems_69 hL (v := (nI j)) z5 ?_
          refine g_icmp_ge_t (tgt := 177) dL_areItems_70 (by decide) (nI_le (by omega) (by omega)) ?_
          exact k177 _
        | succ m ih2 =>
          intro j x10 hjn
          have hj2 : j < nj := by omega
          have hjw : jwB h (nI i) j = true ↔ (if M.1 3 (6 * j) = nI 1 then (M.1 3 (6 * j + 3) = nI 1 ∧ M.1 4 (6 * j) = nI i) else (M.1 3 (6 * j + 3) < nI 2 ∧ M.1 3 (6 * j + 1) = nI i)) := jw_iff M ni nd nj i j hR hJw hj2 (by omega)
          have k154 : ∀ b : Int32, ((b = 1 ∧ jwB h (nI i) j = true) ∨ (b = 0 ∧ ¬ jwB h (nI i) j = true)) → Go G mL_areItems 456 (dI 1 h) h 456 154 [some (ga G 0), some (ga G 449), some (ga G 450), some (ga G 451), some (ga G 453), some (ga G 454), some (.int (nI i)), some (.int (inD M nd i)), some (.int (cnI (fun j => jwB h (nI i) j = true) j)), some (.int (nI j)), x10] [.int b] := by
            rintro b (⟨rfl, hb⟩ | ⟨rfl, hb⟩)
            · skip
              refine g_ist10 (by decide) dL_areItems_154 ?_
              refine g_ild8 dL_areItems_156 ?_
              refine g_ild10 dL_areItems_158 ?_
              refine g_if_eq_f (tgt := 167) dL_areItems_160 (by decide) (by decide) ?_
              refine g_iconst (v := nI 1) dL_areItems_163 (by decide +kernel) ?_
              show Go _ _ _ _ _ _ 164 _ _
              refine g_goto (tgt := 168) dL_areItems_164 (by decide) ?_
              refine g_iadd_v dL_areItems_168 (v := cnI (fun j => jwB h (nI i) j = true) (j + 1)) (congrArg (fun z => cnI (fun j => jwB h (nI i) j = true) j + z) (if_pos hb).symm) ?_
              refine g_ist8 (by decide) dL_areItems_169 ?_
              refine g_iinc9 (by decide) dL_areItems_171 (nI_1 j) ?_
              refine g_goto (tgt := 64) dL_areItems_174 (by decide) ?_
              exact ih2 (j + 1) _ (by omega)
            · skip
              refine g_ist10 (by decide) dL_areItems_154 ?_
              refine g_ild8 dL_areItems_156 ?_
              refine g_ild10 dL_areItems_158 ?_
              refine g_if_eq_t (tgt := 167) dL_areItems_160 (by decide) rfl ?_
              refine g_iconst (v := nI 0) dL_areItems_167 (by decide +kernel) ?_
              show Go _ _ _ _ _ _ 168 _ _
              refine g_iadd_v dL_areItems_168 (v := cnI (fun j => jwB h (nI i) j = true) (j + 1)) (congrArg (fun z => cnI (fun j => jwB h (nI i) j = true) j + z) (if_neg hb).symm) ?_
              refine g_ist8 (by decide) dL_areItems_169 ?_
              refine g_iinc9 (by decide) dL_areItems_171 (nI_1 j) ?_
              refine g_goto (tgt := 64) dL_areItems_174 (by decide) ?_
              exact ih2 (j + 1) _ (by omega)
          refine g_ild9 dL_areItems_64 ?_
          refine g_ald1 dL_areItems_66 ?_
          refine g_bipush (v := nI 11) dL_areItems_67 (by decide +kernel) ?_
          first | refine g_ildr Rw.g rfl (by omega) rfl (by omega) dL_areItems_69 hL (v := (nI nj)) z5 ?_ | refine g_ildr Rw.t rfl (by omega) rfl (by omega) dL_areItems_69 hL (v := (nI nj)) z5 ?_ | refine g_ildr Rw.d rfl (by omega) rfl (by omega) dL_areItems_69 hL (v := (nI nj)) z5 ?_ | refine g_ildr Rw.a rfl (by omega) rfl (by omega) dL_areItems_69 hL (v := (nI nj)) z5 ?_ | refine g_ildr Rw.b rfl (by omega) rfl (by omega) dL_areItems_69 hL (v := (nI nj)) z5 ?_ | refine g_ildr Rw.c rfl (by omega) rfl (by omega) dL_areItems_69 hL (v := (nI nj)) z5 ?_
          refine g_icmp_ge_f (tgt := 177) dL_areItems_70 (by decide) (nI_ge (by omega) (by omega)) ?_
          show Go _ _ _ _ _ _ 73 _ _
          refine g_ald4 dL_areItems_73 ?_
          refine g_bipush (v := nI 6) dL_areItems_75 (by decide +kernel) ?_
          refine g_ild9 dL_areItems_77 ?_
          first | refine g_imul_n dL_areItems_79 ?_ | refine g_imul dL_areItems_79 ?_
          first | refine g_ildr Rw.g rfl (by omega) rfl (by omega) dL_areItems_80 hL rfl ?_ | refine g_ildr Rw.t rfl (by omega) rfl (by omega) dL_areItems_80 hL rfl ?_ | refine g_ildr Rw.d rfl (by omega) rfl (by omega) dL_areItems_80 hL rfl ?_ | refine g_ildr Rw.a rfl (by omega) rfl (by omega) dL_areItems_80 hL rfl ?_ | refine g_ildr Rw.b rfl (by omega) rfl (by omega) dL_areItems_80 hL rfl ?_ | refine g_ildr Rw.c rfl (by omega) rfl (by omega) dL_areItems_80 hL rfl ?_
          refine g_iconst (v := nI 1) dL_areItems_81 (by decide +kernel) ?_
          show Go _ _ _ _ _ _ 82 _ _
          refine g_icmp_ne (tgt := 120) dL_areItems_82 (by decide) (fun c_82 => ?_) (fun c_82 => ?_)
          · skip
            refine g_ald4 dL_areItems_120 ?_
            refine g_bipush (v := nI 6) dL_areItems_122 (by decide +kernel) ?_
            refine g_ild9 dL_areItems_124 ?_
            first | refine g_imul_n dL_areItems_126 ?_ | refine g_imul dL_areItems_126 ?_
            refine g_iconst (v := nI 3) dL_areItems_127 (by decide +kernel) ?_
            show Go _ _ _ _ _ _ 128 _ _
            first | refine g_iadd_n dL_areItems_128 ?_ | refine g_iadd dL_areItems_128 ?_
            first | refine g_ildr Rw.g rfl (by omega) rfl (by omega) dL_areItems_129 hL rfl ?_ | refine g_ildr Rw.t rfl (by omega) rfl (by omega) dL_areItems_129 hL rfl ?_ | refine g_ildr Rw.d rfl (by omega) rfl (by omega) dL_areItems_129 hL rfl ?_ | refine g_ildr Rw.a rfl (by omega) rfl (by omega) dL_areItems_129 hL rfl ?_ | refine g_ildr Rw.b rfl (by omega) rfl (by omega) dL_areItems_129 hL rfl ?_ | refine g_ildr Rw.c rfl (by omega) rfl (by omega) dL_areItems_129 hL rfl ?_
            refine g_iconst (v := nI 2) dL_areItems_130 (by decide +kernel) ?_
            refine g_icmp_ge (tgt := 153) dL_areItems_131 (by decide) (fun c_131 => ?_) (fun c_131 => ?_)
            · skip
              refine g_iconst (v := nI 0) dL_areItems_153 (by decide +kernel) ?_
              first | exact k154 1 (Or.inl ⟨rfl, hjw.mpr (by rw [if_pos c_82]; exact ⟨c_96, c_109⟩)⟩) | exact k154 0 (Or.inr ⟨rfl, fun z => by have y := hjw.mp z; rw [if_pos c_82] at y; exact c_109 y.2⟩) | exact k154 0 (Or.inr ⟨rfl, fun z => by have y := hjw.mp z; rw [if_pos c_82] at y; exact c_96 y.1⟩) | exact k154 0 (Or.inr ⟨rfl, fun z => by have y := hjw.mp z; rw [if_neg c_82] at y; exact c_146 y.2⟩) | exact k154 1 (Or.inl ⟨rfl, hjw.mpr (by rw [if_neg c_82]; exact ⟨Int32.not_le.mp c_131, c_146⟩)⟩) | exact k154 0 (Or.inr ⟨rfl, fun z => by have y := hjw.mp z; rw [if_neg c_82] at y; exact absurd c_131 (Int32.not_le.mpr y.1)⟩)
            · skip
              refine g_ald4 dL_areItems_134 ?_
              show Go _ _ _ _ _ _ 136 _ _
              refine g_bipush (v := nI 6) dL_areItems_136 (by decide +kernel) ?_
              refine g_ild9 dL_areItems_138 ?_
              first | refine g_imul_n dL_areItems_140 ?_ | refine g_imul dL_areItems_140 ?_
              refine g_iconst (v := nI 1) dL_areItems_141 (by decide +kernel) ?_
              first | refine g_iadd_n dL_areItems_142 ?_ | refine g_iadd dL_areItems_142 ?_
              first | refine g_ildr Rw.g rfl (by omega) rfl (by omega) dL_areItems_143 hL rfl ?_ | refine g_ildr Rw.t rfl (by omega) rfl (by omega) dL_areItems_143 hL rfl ?_ | refine g_ildr Rw.d rfl (by omega) rfl (by omega) dL_areItems_143 hL rfl ?_ | refine g_ildr Rw.a rfl (by omega) rfl (by omega) dL_areItems_143 hL rfl ?_ | refine g_ildr Rw.b rfl (by omega) rfl (by omega) dL_areItems_143 hL rfl ?_ | refine g_ildr Rw.c rfl (by omega) rfl (by omega) dL_areItems_143 hL rfl ?_
              show Go _ _ _ _ _ _ 144 _ _
              refine g_ild6 dL_areItems_144 ?_
              refine g_icmp_ne (tgt := 153) dL_areItems_146 (by decide) (fun c_146 => ?_) (fun c_146 => ?_)
              · skip
                refine g_iconst (v := nI 0) dL_areItems_153 (by decide +kernel) ?_
                first | exact k154 1 (Or.inl ⟨rfl, hjw.mpr (by rw [if_pos c_82]; exact ⟨c_96, c_109⟩)⟩) | exact k154 0 (Or.inr ⟨rfl, fun z => by have y := hjw.mp z; rw [if_pos c_82] at y; exact c_109 y.2⟩) | exact k154 0 (Or.inr ⟨rfl, fun z => by have y := hjw.mp z; rw [if_pos c_82] at y; exact c_96 y.1⟩) | exact k154 0 (Or.inr ⟨rfl, fun z => by have y := hjw.mp z; rw [if_neg c_82] at y; exact c_146 y.2⟩) | exact k154 1 (Or.inl ⟨rfl, hjw.mpr (by rw [if_neg c_82]; exact ⟨Int32.not_le.mp c_131, c_146⟩)⟩) | exact k154 0 (Or.inr ⟨rfl, fun z => by have y := hjw.mp z; rw [if_neg c_82] at y; exact absurd c_131 (Int32.not_le.mpr y.1)⟩)
              · skip
                refine g_iconst (v := nI 1) dL_areItems_149 (by decide +kernel) ?_
                refine g_goto (tgt := 154) dL_areItems_150 (by decide) ?_
                first | exact k154 1 (Or.inl ⟨rfl, hjw.mpr (by rw [if_pos c_82]; exact ⟨c_96, c_109⟩)⟩) | exact k154 0 (Or.inr ⟨rfl, fun z => by have y := hjw.mp z; rw [if_pos c_82] at y; exact c_109 y.2⟩) | exact k154 0 (Or.inr ⟨rfl, fun z => by have y := hjw.mp z; rw [if_pos c_82] at y; exact c_96 y.1⟩) | exact k154 0 (Or.inr ⟨rfl, fun z => by have y := hjw.mp z; rw [if_neg c_82] at y; exact c_146 y.2⟩) | exact k154 1 (Or.inl ⟨rfl, hjw.mpr (by rw [if_neg c_82]; exact ⟨Int32.not_le.mp c_131, c_146⟩)⟩) | exact k154 0 (Or.inr ⟨rfl, fun z => by have y := hjw.mp z; rw [if_neg c_82] at y; exact absurd c_131 (Int32.not_le.mpr y.1)⟩)
          · skip
            refine g_ald4 dL_areItems_85 ?_
            show Go _ _ _ _ _ _ 87 _ _
            refine g_bipush (v := nI 6) dL_areItems_87 (by decide +kernel) ?_
            refine g_ild9 dL_areItems_89 ?_
            first | refine g_imul_n dL_areItems_91 ?_ | refine g_imul dL_areItems_91 ?_
            refine g_iconst (v := nI 3) dL_areItems_92 (by decide +kernel) ?_
            first | refine g_iadd_n dL_areItems_93 ?_ | refine g_iadd dL_areItems_93 ?_
            first | refine g_ildr Rw.g rfl (by omega) rfl (by omega) dL_areItems_94 hL rfl ?_ | refine g_ildr Rw.t rfl (by omega) rfl (by omega) dL_areItems_94 hL rfl ?_ | refine g_ildr Rw.d rfl (by omega) rfl (by omega) dL_areItems_94 hL rfl ?_ | refine g_ildr Rw.a rfl (by omega) rfl (by omega) dL_areItems_94 hL rfl ?_ | refine g_ildr Rw.b rfl (by omega) rfl (by omega) dL_areItems_94 hL rfl ?_ | refine g_ildr Rw.c rfl (by omega) rfl (by omega) dL_areItems_94 hL rfl ?_
            show Go _ _ _ _ _ _ 95 _ _
            refine g_iconst (v := nI 1) dL_areItems_95 (by decide +kernel) ?_
            refine g_icmp_ne (tgt := 116) dL_areItems_96 (by decide) (fun c_96 => ?_) (fun c_96 => ?_)
            · skip
              refine g_iconst (v := nI 0) dL_areItems_116 (by decide +kernel) ?_
              refine g_goto (tgt := 154) dL_areItems_117 (by decide) ?_
              first | exact k154 1 (Or.inl ⟨rfl, hjw.mpr (by rw [if_pos c_82]; exact ⟨c_96, c_109⟩)⟩) | exact k154 0 (Or.inr ⟨rfl, fun z => by have y := hjw.mp z; rw [if_pos c_82] at y; exact c_109 y.2⟩) | exact k154 0 (Or.inr ⟨rfl, fun z => by have y := hjw.mp z; rw [if_pos c_82] at y; exact c_96 y.1⟩) | exact k154 0 (Or.inr ⟨rfl, fun z => by have y := hjw.mp z; rw [if_neg c_82] at y; exact c_146 y.2⟩) | exact k154 1 (Or.inl ⟨rfl, hjw.mpr (by rw [if_neg c_82]; exact ⟨Int32.not_le.mp c_131, c_146⟩)⟩) | exact k154 0 (Or.inr ⟨rfl, fun z => by have y := hjw.mp z; rw [if_neg c_82] at y; exact absurd c_131 (Int32.not_le.mpr y.1)⟩)
            · skip
              refine g_ald5 dL_areItems_99 ?_
              refine g_bipush (v := nI 6) dL_areItems_101 (by decide +kernel) ?_
              show Go _ _ _ _ _ _ 103 _ _
              refine g_ild9 dL_areItems_103 ?_
              first | refine g_imul_n dL_areItems_105 ?_ | refine g_imul dL_areItems_105 ?_
              first | refine g_ildr Rw.g rfl (by omega) rfl (by omega) dL_areItems_106 hL rfl ?_ | refine g_ildr Rw.t rfl (by omega) rfl (by omega) dL_areItems_106 hL rfl ?_ | refine g_ildr Rw.d rfl (by omega) rfl (by omega) dL_areItems_106 hL rfl ?_ | refine g_ildr Rw.a rfl (by omega) rfl (by omega) dL_areItems_106 hL rfl ?_ | refine g_ildr Rw.b rfl (by omega) rfl (by omega) dL_areItems_106 hL rfl ?_ | refine g_ildr Rw.c rfl (by omega) rfl (by omega) dL_areItems_106 hL rfl ?_
              refine g_ild6 dL_areItems_107 ?_
              refine g_icmp_ne (tgt := 116) dL_areItems_109 (by decide) (fun c_109 => ?_) (fun c_109 => ?_)
              · skip
                refine g_iconst (v := nI 0) dL_areItems_116 (by decide +kernel) ?_
                show Go _ _ _ _ _ _ 117 _ _
                refine g_goto (tgt := 154) dL_areItems_117 (by decide) ?_
                first | exact k154 1 (Or.inl ⟨rfl, hjw.mpr (by rw [if_pos c_82]; exact ⟨c_96, c_109⟩)⟩) | exact k154 0 (Or.inr ⟨rfl, fun z => by have y := hjw.mp z; rw [if_pos c_82] at y; exact c_109 y.2⟩) | exact k154 0 (Or.inr ⟨rfl, fun z => by have y := hjw.mp z; rw [if_pos c_82] at y; exact c_96 y.1⟩) | exact k154 0 (Or.inr ⟨rfl, fun z => by have y := hjw.mp z; rw [if_neg c_82] at y; exact c_146 y.2⟩) | exact k154 1 (Or.inl ⟨rfl, hjw.mpr (by rw [if_neg c_82]; exact ⟨Int32.not_le.mp c_131, c_146⟩)⟩) | exact k154 0 (Or.inr ⟨rfl, fun z => by have y := hjw.mp z; rw [if_neg c_82] at y; exact absurd c_131 (Int32.not_le.mpr y.1)⟩)
              · skip
                refine g_iconst (v := nI 1) dL_areItems_112 (by decide +kernel) ?_
                refine g_goto (tgt := 154) dL_areItems_113 (by decide) ?_
                first | exact k154 1 (Or.inl ⟨rfl, hjw.mpr (by rw [if_pos c_82]; exact ⟨c_96, c_109⟩)⟩) | exact k154 0 (Or.inr ⟨rfl, fun z => by have y := hjw.mp z; rw [if_pos c_82] at y; exact c_109 y.2⟩) | exact k154 0 (Or.inr ⟨rfl, fun z => by have y := hjw.mp z; rw [if_pos c_82] at y; exact c_96 y.1⟩) | exact k154 0 (Or.inr ⟨rfl, fun z => by have y := hjw.mp z; rw [if_neg c_82] at y; exact c_146 y.2⟩) | exact k154 1 (Or.inl ⟨rfl, hjw.mpr (by rw [if_neg c_82]; exact ⟨Int32.not_le.mp c_131, c_146⟩)⟩) | exact k154 0 (Or.inr ⟨rfl, fun z => by have y := hjw.mp z; rw [if_neg c_82] at y; exact absurd c_131 (Int32.not_le.mpr y.1)⟩)
      have loop1 : ∀ m k x9 x10, m + k = nd → Go G mL_areItems 456 (dI 1 h) h 456 19 [some (ga G 0), some (ga G 449), some (ga G 450), some (ga G 451), some (ga G 453), some (ga G 454), some (.int (nI i)), some (.int (inD M k i)), some (.int (nI k)), x9, x10] [] := by
        intro m
        induction m with
        | zero =>
          intro k x9 x10 hk
          obtain rfl : k = nd := by omega
          refine g_ild8 dL_areItems_19 ?_
          refine g_ald1 dL_areItems_21 ?_
          refine g_bipush (v := nI 10) dL_areItems_22 (by decide +kernel) ?_
          first | refine g_ildr Rw.g rfl (by omega) rfl (by omega) dL_areItems_24 hL (v := (nI k)) z3 ?_ | refine g_ildr Rw.t rfl (by omega) rfl (by omega) dL_areItems_24 hL (v := (nI k)) z3 ?_ | refine g_ildr Rw.d rfl (by omega) rfl (by omega) dL_areItems_24 hL (v := (nI k)) z3 ?_ | refine g_ildr Rw.a rfl (by omega) rfl (by omega) dL_areItems_24 hL (v := (nI k)) z3 ?_ | refine g_ildr Rw.b rfl (by omega) rfl (by omega) dL_areItems_24 hL (v := (nI k)) z3 ?_ | refine g_ildr Rw.c rfl (by omega) rfl (by omega) dL_areItems_24 hL (v := (nI k)) z3 ?_
          refine g_icmp_ge_t (tgt := 58) dL_areItems_25 (by decide) (nI_le (by omega) (by omega)) ?_
          show Go _ _ _ _ _ _ 58 _ _
          refine g_iconst (v := nI 0) dL_areItems_58 (by decide +kernel) ?_
          refine g_ist8 (by decide) dL_areItems_59 ?_
          refine g_iconst (v := nI 0) dL_areItems_61 (by decide +kernel) ?_
          refine g_ist9 (by decide) dL_areItems_62 ?_
          exact loop2 nj 0 _ (by omega)
        | succ m ih3 =>
          intro k x9 x10 hk
          refine g_ild8 dL_areItems_19 ?_
          refine g_ald1 dL_areItems_21 ?_
          refine g_bipush (v := nI 10) dL_areItems_22 (by decide +kernel) ?_
          first | refine g_ildr Rw.g rfl (by omega) rfl (by omega) dL_areItems_24 hL (v := (nI nd)) z3 ?_ | refine g_ildr Rw.t rfl (by omega) rfl (by omega) dL_areItems_24 hL (v := (nI nd)) z3 ?_ | refine g_ildr Rw.d rfl (by omega) rfl (by omega) dL_areItems_24 hL (v := (nI nd)) z3 ?_ | refine g_ildr Rw.a rfl (by omega) rfl (by omega) dL_areItems_24 hL (v := (nI nd)) z3 ?_ | refine g_ildr Rw.b rfl (by omega) rfl (by omega) dL_areItems_24 hL (v := (nI nd)) z3 ?_ | refine g_ildr Rw.c rfl (by omega) rfl (by omega) dL_areItems_24 hL (v := (nI nd)) z3 ?_
          refine g_icmp_ge_f (tgt := 58) dL_areItems_25 (by decide) (nI_ge (by omega) (by omega)) ?_
          show Go _ _ _ _ _ _ 28 _ _
          refine g_ald3 dL_areItems_28 ?_
          refine g_bipush (v := nI 7) dL_areItems_29 (by decide +kernel) ?_
          refine g_ild8 dL_areItems_31 ?_
          first | refine g_imul_n dL_areItems_33 ?_ | refine g_imul dL_areItems_33 ?_
          refine g_bipush (v := nI 6) dL_areItems_34 (by decide +kernel) ?_
          first | refine g_iadd_n dL_areItems_36 ?_ | refine g_iadd dL_areItems_36 ?_
          show Go _ _ _ _ _ _ 37 _ _
          first | refine g_ildr Rw.g rfl (by omega) rfl (by omega) dL_areItems_37 hL rfl ?_ | refine g_ildr Rw.t rfl (by omega) rfl (by omega) dL_areItems_37 hL rfl ?_ | refine g_ildr Rw.d rfl (by omega) rfl (by omega) dL_areItems_37 hL rfl ?_ | refine g_ildr Rw.a rfl (by omega) rfl (by omega) dL_areItems_37 hL rfl ?_ | refine g_ildr Rw.b rfl (by omega) rfl (by omega) dL_areItems_37 hL rfl ?_ | refine g_ildr Rw.c rfl (by omega) rfl (by omega) dL_areItems_37 hL rfl ?_
          refine g_ild6 dL_areItems_38 ?_
          refine g_icmp_ne (tgt := 48) dL_areItems_40 (by decide) (fun c_40 => ?_) (fun c_40 => ?_)
          · skip
            refine g_ild7 dL_areItems_48 ?_
            refine g_ist7 (by decide) dL_areItems_50 ?_
            refine g_iinc8 (by decide) dL_areItems_52 (nI_1 k) ?_
            show Go _ _ _ _ _ _ 55 _ _
            refine g_goto (tgt := 19) dL_areItems_55 (by decide) ?_
            first | (have y := ih3 (k + 1) x9 x10 (by omega); rw [show inD M (k + 1) i = nI k from if_pos c_40] at y; exact y) | (have y := ih3 (k + 1) x9 x10 (by omega); rw [show inD M (k + 1) i = inD M k i from if_neg c_40] at y; exact y)
          · skip
            refine g_ild8 dL_areItems_43 ?_
            refine g_goto (tgt := 50) dL_areItems_45 (by decide) ?_
            refine g_ist7 (by decide) dL_areItems_50 ?_
            refine g_iinc8 (by decide) dL_areItems_52 (nI_1 k) ?_
            refine g_goto (tgt := 19) dL_areItems_55 (by decide) ?_
            first | (have y := ih3 (k + 1) x9 x10 (by omega); rw [show inD M (k + 1) i = nI k from if_pos c_40] at y; exact y) | (have y := ih3 (k + 1) x9 x10 (by omega); rw [show inD M (k + 1) i = inD M k i from if_neg c_40] at y; exact y)
      refine g_ild6 dL_areItems_3 ?_
      refine g_ald1 dL_areItems_5 ?_
      refine g_bipush (v := nI 9) dL_areItems_6 (by decide +kernel) ?_
      first | refine g_ildr Rw.g rfl (by omega) rfl (by omega) dL_areItems_8 hL (v := (nI ni)) z1 ?_ | refine g_ildr Rw.t rfl (by omega) rfl (by omega) dL_areItems_8 hL (v := (nI ni)) z1 ?_ | refine g_ildr Rw.d rfl (by omega) rfl (by omega) dL_areItems_8 hL (v := (nI ni)) z1 ?_ | refine g_ildr Rw.a rfl (by omega) rfl (by omega) dL_areItems_8 hL (v := (nI ni)) z1 ?_ | refine g_ildr Rw.b rfl (by omega) rfl (by omega) dL_areItems_8 hL (v := (nI ni)) z1 ?_ | refine g_ildr Rw.c rfl (by omega) rfl (by omega) dL_areItems_8 hL (v := (nI ni)) z1 ?_
      refine g_icmp_ge_f (tgt := 356) dL_areItems_9 (by decide) (nI_ge (by omega) (by omega)) ?_
      show Go _ _ _ _ _ _ 12 _ _
      refine g_bipush (v := -5) dL_areItems_12 (by decide +kernel) ?_
      refine g_ist7 (by decide) dL_areItems_14 ?_
      refine g_iconst (v := nI 0) dL_areItems_16 (by decide +kernel) ?_
      refine g_ist8 (by decide) dL_areItems_17 ?_
      exact loop1 nd 0 _ _ (by omega)
  refine g_iconst (v := nI 0) dL_areItems_0 (by decide +kernel) ?_
  refine g_ist6 (by decide) dL_areItems_1 ?_
  exact loop ni 0 _ _ _ _ (by omega)
end P56
