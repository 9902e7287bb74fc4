/-! ===== the law's gives ===== -/
section P45
variable {G : Gl} {h : Hp}
theorem lq_gives (M : Mo) (ni nd nj T : Nat) (x : Int32) (hT : Tn h M ni nd nj T) : Ct G mL_gives [ga G 0, ga G 449, ga G 450, ga G 453, ga G 454, .int x] h 456 456 (rI (fun r h' => r = 1 ∧ ∃ M' nj', Tn h' M' ni nd nj' T)) := by
  obtain ⟨hL, hR, hI, hX⟩ := id hT
  obtain ⟨⟨hi, hd, hj10⟩, -, -, hC, -⟩ := id hI.1
  obtain ⟨⟨z1, -, z3, -, z5, -⟩, -, -, hU⟩ := id hX.1
  have hNc := hI.2.2.2.2.1
  have hK := KR.rf h
  refine Ct.of rfl (by simp [Value.category, ga]) (Nat.le_of_ble_eq_true rfl) (Nat.le_refl _) ?_
  show Go _ _ _ _ _ _ _ [some (ga G 0), some (ga G 449), some (ga G 450), some (ga G 453), some (ga G 454), some (.int x), none, none, none, none, none, none] []
  have k73_0 : ∀ q, q ≤ 8 → Go G mL_gives 456 (rI (fun r h' => r = 1 ∧ ∃ M' nj', Tn h' M' ni nd nj' T)) h 456 73 [some (ga G 0), some (ga G 449), some (ga G 450), some (ga G 453), some (ga G 454), some (.int x), some (.int (nI 0)), some (.int (nI q)), none, none, none, none] [.int (-5)] := by
    intro q hq8
    rcases Nat.lt_or_ge q ni with hq | hq
    · rcases hC q hq with ht | ht
      · rcases Nat.lt_or_ge nj 10 with hj | hj
        · skip
          refine g_ist8 (by decide) dL_gives_73 ?_
          refine g_ild6 dL_gives_75 ?_
          refine g_iconst (v := nI 1) dL_gives_77 (by decide +kernel) ?_
          refine g_icmp_ne_t (tgt := 98) dL_gives_78 (by decide) (by decide) ?_
          refine g_ild7 dL_gives_98 ?_
          show Go _ _ _ _ _ _ 100 _ _
          refine g_ald1 dL_gives_100 ?_
          refine g_bipush (v := nI 9) dL_gives_101 (by decide +kernel) ?_
          first | refine g_ildr Rw.g rfl (by omega) rfl (by omega) dL_gives_103 hL (v := (nI ni)) z1 ?_ | refine g_ildr Rw.t rfl (by omega) rfl (by omega) dL_gives_103 hL (v := (nI ni)) z1 ?_ | refine g_ildr Rw.d rfl (by omega) rfl (by omega) dL_gives_103 hL (v := (nI ni)) z1 ?_ | refine g_ildr Rw.a rfl (by omega) rfl (by omega) dL_gives_103 hL (v := (nI ni)) z1 ?_ | refine g_ildr Rw.b rfl (by omega) rfl (by omega) dL_gives_103 hL (v := (nI ni)) z1 ?_ | refine g_ildr Rw.c rfl (by omega) rfl (by omega) dL_gives_103 hL (v := (nI ni)) z1 ?_
          refine g_icmp_ge_f (tgt := 123) dL_gives_104 (by decide) (nI_ge hq (by omega)) ?_
          refine g_ild6 dL_gives_107 ?_
          refine g_if_eq_t (tgt := 119) dL_gives_109 (by decide) rfl ?_
          show Go _ _ _ _ _ _ 119 _ _
          refine g_iconst (v := nI 1) dL_gives_119 (by decide +kernel) ?_
          refine g_goto (tgt := 124) dL_gives_120 (by decide) ?_
          refine g_ist9 (by decide) dL_gives_124 ?_
          refine g_ild9 dL_gives_126 ?_
          refine g_if_ne_t (tgt := 135) dL_gives_128 (by decide) (by decide) ?_
          refine g_ild6 dL_gives_135 ?_
          show Go _ _ _ _ _ _ 137 _ _
          refine g_if_ne_f (tgt := 156) dL_gives_137 (by decide) rfl ?_
          refine g_ald2 dL_gives_140 ?_
          refine g_bipush (v := nI 6) dL_gives_141 (by decide +kernel) ?_
          refine g_ild7 dL_gives_143 ?_
          first | refine g_imul_n dL_gives_145 ?_ | refine g_imul dL_gives_145 ?_
          first | refine g_ildr Rw.g rfl (by omega) rfl (by omega) dL_gives_146 hL (v := (0 : Int32)) ht ?_ | refine g_ildr Rw.t rfl (by omega) rfl (by omega) dL_gives_146 hL (v := (0 : Int32)) ht ?_ | refine g_ildr Rw.d rfl (by omega) rfl (by omega) dL_gives_146 hL (v := (0 : Int32)) ht ?_ | refine g_ildr Rw.a rfl (by omega) rfl (by omega) dL_gives_146 hL (v := (0 : Int32)) ht ?_ | refine g_ildr Rw.b rfl (by omega) rfl (by omega) dL_gives_146 hL (v := (0 : Int32)) ht ?_ | refine g_ildr Rw.c rfl (by omega) rfl (by omega) dL_gives_146 hL (v := (0 : Int32)) ht ?_
          show Go _ _ _ _ _ _ 147 _ _
          refine g_iconst (v := nI 1) dL_gives_147 (by decide +kernel) ?_
          refine g_icmp_ne_t (tgt := 156) dL_gives_148 (by decide) (by decide) ?_
          refine g_ald1 dL_gives_156 ?_
          refine g_bipush (v := nI 11) dL_gives_157 (by decide +kernel) ?_
          first | refine g_ildr Rw.g rfl (by omega) rfl (by omega) dL_gives_159 hL (v := (nI nj)) z5 ?_ | refine g_ildr Rw.t rfl (by omega) rfl (by omega) dL_gives_159 hL (v := (nI nj)) z5 ?_ | refine g_ildr Rw.d rfl (by omega) rfl (by omega) dL_gives_159 hL (v := (nI nj)) z5 ?_ | refine g_ildr Rw.a rfl (by omega) rfl (by omega) dL_gives_159 hL (v := (nI nj)) z5 ?_ | refine g_ildr Rw.b rfl (by omega) rfl (by omega) dL_gives_159 hL (v := (nI nj)) z5 ?_ | refine g_ildr Rw.c rfl (by omega) rfl (by omega) dL_gives_159 hL (v := (nI nj)) z5 ?_
          refine g_ist10 (by decide) dL_gives_160 ?_
          show Go _ _ _ _ _ _ 162 _ _
          refine g_ild10 dL_gives_162 ?_
          refine g_if_lt_f (tgt := 178) dL_gives_164 (by decide) (Int32.not_lt.mpr (nI_pos' (by omega))) ?_
          refine g_ald1 dL_gives_167 ?_
          refine g_bipush (v := nI 11) dL_gives_168 (by decide +kernel) ?_
          first | refine g_ildr Rw.g rfl (by omega) rfl (by omega) dL_gives_170 hL (v := (nI nj)) z5 ?_ | refine g_ildr Rw.t rfl (by omega) rfl (by omega) dL_gives_170 hL (v := (nI nj)) z5 ?_ | refine g_ildr Rw.d rfl (by omega) rfl (by omega) dL_gives_170 hL (v := (nI nj)) z5 ?_ | refine g_ildr Rw.a rfl (by omega) rfl (by omega) dL_gives_170 hL (v := (nI nj)) z5 ?_ | refine g_ildr Rw.b rfl (by omega) rfl (by omega) dL_gives_170 hL (v := (nI nj)) z5 ?_ | refine g_ildr Rw.c rfl (by omega) rfl (by omega) dL_gives_170 hL (v := (nI nj)) z5 ?_
          refine g_bipush (v := nI 10) dL_gives_171 (by decide +kernel) ?_
          show Go _ _ _ _ _ _ 173 _ _
          refine g_icmp_ne_t (tgt := 178) dL_gives_173 (by decide) (fun z => by have := (nI_eq (a := nj) (b := 10) (by omega) (by omega)).mp z; omega) ?_
          refine g_ild10 dL_gives_178 ?_
          refine g_if_lt_f (tgt := 295) dL_gives_180 (by decide) (Int32.not_lt.mpr (nI_pos' (by omega))) ?_
          refine g_bipush (v := nI 6) dL_gives_183 (by decide +kernel) ?_
          refine g_ald1 dL_gives_185 ?_
          refine g_bipush (v := nI 11) dL_gives_186 (by decide +kernel) ?_
          show Go _ _ _ _ _ _ 188 _ _
          first | refine g_ildr Rw.g rfl (by omega) rfl (by omega) dL_gives_188 hL (v := (nI nj)) z5 ?_ | refine g_ildr Rw.t rfl (by omega) rfl (by omega) dL_gives_188 hL (v := (nI nj)) z5 ?_ | refine g_ildr Rw.d rfl (by omega) rfl (by omega) dL_gives_188 hL (v := (nI nj)) z5 ?_ | refine g_ildr Rw.a rfl (by omega) rfl (by omega) dL_gives_188 hL (v := (nI nj)) z5 ?_ | refine g_ildr Rw.b rfl (by omega) rfl (by omega) dL_gives_188 hL (v := (nI nj)) z5 ?_ | refine g_ildr Rw.c rfl (by omega) rfl (by omega) dL_gives_188 hL (v := (nI nj)) z5 ?_
          first | refine g_imul_n dL_gives_189 ?_ | refine g_imul dL_gives_189 ?_
          refine g_ist11 (by decide) dL_gives_190 ?_
          refine g_ald3 dL_gives_192 ?_
          refine g_ild11 dL_gives_193 ?_
          refine g_ild6 dL_gives_195 ?_
          show Go _ _ _ _ _ _ 197 _ _
          first | refine g_istr Rw.g rfl (by omega) rfl (by omega) dL_gives_197 hL hK ?_ | refine g_istr Rw.t rfl (by omega) rfl (by omega) dL_gives_197 hL hK ?_ | refine g_istr Rw.d rfl (by omega) rfl (by omega) dL_gives_197 hL hK ?_ | refine g_istr Rw.a rfl (by omega) rfl (by omega) dL_gives_197 hL hK ?_ | refine g_istr Rw.b rfl (by omega) rfl (by omega) dL_gives_197 hL hK ?_ | refine g_istr Rw.c rfl (by omega) rfl (by omega) dL_gives_197 hL hK ?_
          intro h hL hK
          refine g_ald3 dL_gives_198 ?_
          refine g_ild11 dL_gives_199 ?_
          refine g_iconst (v := nI 1) dL_gives_201 (by decide +kernel) ?_
          first | refine g_iadd_n dL_gives_202 ?_ | refine g_iadd dL_gives_202 ?_
          refine g_ild7 dL_gives_203 ?_
          show Go _ _ _ _ _ _ 205 _ _
          first | refine g_istr Rw.g rfl (by omega) rfl (by omega) dL_gives_205 hL hK ?_ | refine g_istr Rw.t rfl (by omega) rfl (by omega) dL_gives_205 hL hK ?_ | refine g_istr Rw.d rfl (by omega) rfl (by omega) dL_gives_205 hL hK ?_ | refine g_istr Rw.a rfl (by omega) rfl (by omega) dL_gives_205 hL hK ?_ | refine g_istr Rw.b rfl (by omega) rfl (by omega) dL_gives_205 hL hK ?_ | refine g_istr Rw.c rfl (by omega) rfl (by omega) dL_gives_205 hL hK ?_
          intro h hL hK
          refine g_ald3 dL_gives_206 ?_
          refine g_ild11 dL_gives_207 ?_
          refine g_iconst (v := nI 2) dL_gives_209 (by decide +kernel) ?_
          first | refine g_iadd_n dL_gives_210 ?_ | refine g_iadd dL_gives_210 ?_
          refine g_ild8 dL_gives_211 ?_
          show Go _ _ _ _ _ _ 213 _ _
          first | refine g_istr Rw.g rfl (by omega) rfl (by omega) dL_gives_213 hL hK ?_ | refine g_istr Rw.t rfl (by omega) rfl (by omega) dL_gives_213 hL hK ?_ | refine g_istr Rw.d rfl (by omega) rfl (by omega) dL_gives_213 hL hK ?_ | refine g_istr Rw.a rfl (by omega) rfl (by omega) dL_gives_213 hL hK ?_ | refine g_istr Rw.b rfl (by omega) rfl (by omega) dL_gives_213 hL hK ?_ | refine g_istr Rw.c rfl (by omega) rfl (by omega) dL_gives_213 hL hK ?_
          intro h hL hK
          refine g_ald3 dL_gives_214 ?_
          refine g_ild11 dL_gives_215 ?_
          refine g_iconst (v := nI 3) dL_gives_217 (by decide +kernel) ?_
          first | refine g_iadd_n dL_gives_218 ?_ | refine g_iadd dL_gives_218 ?_
          refine g_iconst (v := nI 0) dL_gives_219 (by decide +kernel) ?_
          show Go _ _ _ _ _ _ 220 _ _
          first | refine g_istr Rw.g rfl (by omega) rfl (by omega) dL_gives_220 hL hK ?_ | refine g_istr Rw.t rfl (by omega) rfl (by omega) dL_gives_220 hL hK ?_ | refine g_istr Rw.d rfl (by omega) rfl (by omega) dL_gives_220 hL hK ?_ | refine g_istr Rw.a rfl (by omega) rfl (by omega) dL_gives_220 hL hK ?_ | refine g_istr Rw.b rfl (by omega) rfl (by omega) dL_gives_220 hL hK ?_ | refine g_istr Rw.c rfl (by omega) rfl (by omega) dL_gives_220 hL hK ?_
          intro h hL hK
          refine g_ald3 dL_gives_221 ?_
          refine g_ild11 dL_gives_222 ?_
          refine g_iconst (v := nI 4) dL_gives_224 (by decide +kernel) ?_
          first | refine g_iadd_n dL_gives_225 ?_ | refine g_iadd dL_gives_225 ?_
          refine g_bipush (v := -5) dL_gives_226 (by decide +kernel) ?_
          show Go _ _ _ _ _ _ 228 _ _
          first | refine g_istr Rw.g rfl (by omega) rfl (by omega) dL_gives_228 hL hK ?_ | refine g_istr Rw.t rfl (by omega) rfl (by omega) dL_gives_228 hL hK ?_ | refine g_istr Rw.d rfl (by omega) rfl (by omega) dL_gives_228 hL hK ?_ | refine g_istr Rw.a rfl (by omega) rfl (by omega) dL_gives_228 hL hK ?_ | refine g_istr Rw.b rfl (by omega) rfl (by omega) dL_gives_228 hL hK ?_ | refine g_istr Rw.c rfl (by omega) rfl (by omega) dL_gives_228 hL hK ?_
          intro h hL hK
          refine g_ald3 dL_gives_229 ?_
          refine g_ild11 dL_gives_230 ?_
          refine g_iconst (v := nI 5) dL_gives_232 (by decide +kernel) ?_
          first | refine g_iadd_n dL_gives_233 ?_ | refine g_iadd dL_gives_233 ?_
          refine g_bipush (v := -5) dL_gives_234 (by decide +kernel) ?_
          show Go _ _ _ _ _ _ 236 _ _
          first | refine g_istr Rw.g rfl (by omega) rfl (by omega) dL_gives_236 hL hK ?_ | refine g_istr Rw.t rfl (by omega) rfl (by omega) dL_gives_236 hL hK ?_ | refine g_istr Rw.d rfl (by omega) rfl (by omega) dL_gives_236 hL hK ?_ | refine g_istr Rw.a rfl (by omega) rfl (by omega) dL_gives_236 hL hK ?_ | refine g_istr Rw.b rfl (by omega) rfl (by omega) dL_gives_236 hL hK ?_ | refine g_istr Rw.c rfl (by omega) rfl (by omega) dL_gives_236 hL hK ?_
          intro h hL hK
          refine g_ald4 dL_gives_237 ?_
          refine g_ild11 dL_gives_239 ?_
          refine g_bipush (v := -5) dL_gives_241 (by decide +kernel) ?_
          first | refine g_istr Rw.g rfl (by omega) rfl (by omega) dL_gives_243 hL hK ?_ | refine g_istr Rw.t rfl (by omega) rfl (by omega) dL_gives_243 hL hK ?_ | refine g_istr Rw.d rfl (by omega) rfl (by omega) dL_gives_243 hL hK ?_ | refine g_istr Rw.a rfl (by omega) rfl (by omega) dL_gives_243 hL hK ?_ | refine g_istr Rw.b rfl (by omega) rfl (by omega) dL_gives_243 hL hK ?_ | refine g_istr Rw.c rfl (by omega) rfl (by omega) dL_gives_243 hL hK ?_
          intro h hL hK
          refine g_ald4 dL_gives_244 ?_
          show Go _ _ _ _ _ _ 246 _ _
          refine g_ild11 dL_gives_246 ?_
          refine g_iconst (v := nI 1) dL_gives_248 (by decide +kernel) ?_
          first | refine g_iadd_n dL_gives_249 ?_ | refine g_iadd dL_gives_249 ?_
          refine g_bipush (v := -5) dL_gives_250 (by decide +kernel) ?_
          first | refine g_istr Rw.g rfl (by omega) rfl (by omega) dL_gives_252 hL hK ?_ | refine g_istr Rw.t rfl (by omega) rfl (by omega) dL_gives_252 hL hK ?_ | refine g_istr Rw.d rfl (by omega) rfl (by omega) dL_gives_252 hL hK ?_ | refine g_istr Rw.a rfl (by omega) rfl (by omega) dL_gives_252 hL hK ?_ | refine g_istr Rw.b rfl (by omega) rfl (by omega) dL_gives_252 hL hK ?_ | refine g_istr Rw.c rfl (by omega) rfl (by omega) dL_gives_252 hL hK ?_
          intro h hL hK
          refine g_ald4 dL_gives_253 ?_
          show Go _ _ _ _ _ _ 255 _ _
          refine g_ild11 dL_gives_255 ?_
          refine g_iconst (v := nI 2) dL_gives_257 (by decide +kernel) ?_
          first | refine g_iadd_n dL_gives_258 ?_ | refine g_iadd dL_gives_258 ?_
          refine g_iconst (v := nI 0) dL_gives_259 (by decide +kernel) ?_
          first | refine g_istr Rw.g rfl (by omega) rfl (by omega) dL_gives_260 hL hK ?_ | refine g_istr Rw.t rfl (by omega) rfl (by omega) dL_gives_260 hL hK ?_ | refine g_istr Rw.d rfl (by omega) rfl (by omega) dL_gives_260 hL hK ?_ | refine g_istr Rw.a rfl (by omega) rfl (by omega) dL_gives_260 hL hK ?_ | refine g_istr Rw.b rfl (by omega) rfl (by omega) dL_gives_260 hL hK ?_ | refine g_istr Rw.c rfl (by omega) rfl (by omega) dL_gives_260 hL hK ?_
          intro h hL hK
          refine g_ald4 dL_gives_261 ?_
          show Go _ _ _ _ _ _ 263 _ _
          refine g_ild11 dL_gives_263 ?_
          refine g_iconst (v := nI 3) dL_gives_265 (by decide +kernel) ?_
          first | refine g_iadd_n dL_gives_266 ?_ | refine g_iadd dL_gives_266 ?_
          refine g_iconst (v := nI 0) dL_gives_267 (by decide +kernel) ?_
          first | refine g_istr Rw.g rfl (by omega) rfl (by omega) dL_gives_268 hL hK ?_ | refine g_istr Rw.t rfl (by omega) rfl (by omega) dL_gives_268 hL hK ?_ | refine g_istr Rw.d rfl (by omega) rfl (by omega) dL_gives_268 hL hK ?_ | refine g_istr Rw.a rfl (by omega) rfl (by omega) dL_gives_268 hL hK ?_ | refine g_istr Rw.b rfl (by omega) rfl (by omega) dL_gives_268 hL hK ?_ | refine g_istr Rw.c rfl (by omega) rfl (by omega) dL_gives_268 hL hK ?_
          intro h hL hK
          refine g_ald4 dL_gives_269 ?_
          show Go _ _ _ _ _ _ 271 _ _
          refine g_ild11 dL_gives_271 ?_
          refine g_iconst (v := nI 4) dL_gives_273 (by decide +kernel) ?_
          first | refine g_iadd_n dL_gives_274 ?_ | refine g_iadd dL_gives_274 ?_
          refine g_bipush (v := -5) dL_gives_275 (by decide +kernel) ?_
          first | refine g_istr Rw.g rfl (by omega) rfl (by omega) dL_gives_277 hL hK ?_ | refine g_istr Rw.t rfl (by omega) rfl (by omega) dL_gives_277 hL hK ?_ | refine g_istr Rw.d rfl (by omega) rfl (by omega) dL_gives_277 hL hK ?_ | refine g_istr Rw.a rfl (by omega) rfl (by omega) dL_gives_277 hL hK ?_ | refine g_istr Rw.b rfl (by omega) rfl (by omega) dL_gives_277 hL hK ?_ | refine g_istr Rw.c rfl (by omega) rfl (by omega) dL_gives_277 hL hK ?_
          intro h hL hK
          refine g_ald4 dL_gives_278 ?_
          show Go _ _ _ _ _ _ 280 _ _
          refine g_ild11 dL_gives_280 ?_
          refine g_iconst (v := nI 5) dL_gives_282 (by decide +kernel) ?_
          first | refine g_iadd_n dL_gives_283 ?_ | refine g_iadd dL_gives_283 ?_
          refine g_bipush (v := -5) dL_gives_284 (by decide +kernel) ?_
          first | refine g_istr Rw.g rfl (by omega) rfl (by omega) dL_gives_286 hL hK ?_ | refine g_istr Rw.t rfl (by omega) rfl (by omega) dL_gives_286 hL hK ?_ | refine g_istr Rw.d rfl (by omega) rfl (by omega) dL_gives_286 hL hK ?_ | refine g_istr Rw.a rfl (by omega) rfl (by omega) dL_gives_286 hL hK ?_ | refine g_istr Rw.b rfl (by omega) rfl (by omega) dL_gives_286 hL hK ?_ | refine g_istr Rw.c rfl (by omega) rfl (by omega) dL_gives_286 hL hK ?_
          intro h hL hK
          refine g_ald1 dL_gives_287 ?_
          show Go _ _ _ _ _ _ 288 _ _
          refine g_bipush (v := nI 11) dL_gives_288 (by decide +kernel) ?_
          refine g_dup2 dL_gives_290 rfl rfl ?_
          first | refine g_ildr Rw.g rfl (by omega) rfl (by omega) dL_gives_291 hL (v := (nI nj)) (by simp (disch := omega) only [up_ne]; exact z5) ?_ | refine g_ildr Rw.t rfl (by omega) rfl (by omega) dL_gives_291 hL (v := (nI nj)) (by simp (disch := omega) only [up_ne]; exact z5) ?_ | refine g_ildr Rw.d rfl (by omega) rfl (by omega) dL_gives_291 hL (v := (nI nj)) (by simp (disch := omega) only [up_ne]; exact z5) ?_ | refine g_ildr Rw.a rfl (by omega) rfl (by omega) dL_gives_291 hL (v := (nI nj)) (by simp (disch := omega) only [up_ne]; exact z5) ?_ | refine g_ildr Rw.b rfl (by omega) rfl (by omega) dL_gives_291 hL (v := (nI nj)) (by simp (disch := omega) only [up_ne]; exact z5) ?_ | refine g_ildr Rw.c rfl (by omega) rfl (by omega) dL_gives_291 hL (v := (nI nj)) (by simp (disch := omega) only [up_ne]; exact z5) ?_
          refine g_iconst (v := nI 1) dL_gives_292 (by decide +kernel) ?_
          first | refine g_iadd_n dL_gives_293 ?_ | refine g_iadd dL_gives_293 ?_
          first | refine g_istr Rw.g rfl (by omega) rfl (by omega) dL_gives_294 hL hK ?_ | refine g_istr Rw.t rfl (by omega) rfl (by omega) dL_gives_294 hL hK ?_ | refine g_istr Rw.d rfl (by omega) rfl (by omega) dL_gives_294 hL hK ?_ | refine g_istr Rw.a rfl (by omega) rfl (by omega) dL_gives_294 hL hK ?_ | refine g_istr Rw.b rfl (by omega) rfl (by omega) dL_gives_294 hL hK ?_ | refine g_istr Rw.c rfl (by omega) rfl (by omega) dL_gives_294 hL hK ?_
          intro h hL hK
          show Go _ _ _ _ _ _ 295 _ _
          refine g_ild10 dL_gives_295 ?_
          refine g_ild6 dL_gives_297 ?_
          refine g_if_ne_f (tgt := 311) dL_gives_299 (by decide) rfl ?_
          refine g_ald0 dL_gives_302 ?_
          refine g_ild7 dL_gives_303 ?_
          refine g_callV1 (c_read (h := h) M ni nd nj q (hR.kr hi hd hj10 hK) hi hd (by omega) hC (hNc nj (Nat.le_refl _)) (by omega) (Or.inr (Or.inr (Or.inl ⟨rfl, hq, ht, rfl⟩)))) mw_3_165 ok_X9_read ⟨by decide, by decide⟩ (by first | assumption | exact lay_item (by omega) | exact lay_drive (by omega) | exact lay_job (by omega) | rfl) (by omega) rfl (by omega) (by omega) (Nat.le_of_ble_eq_true rfl) dL_gives_305 (rI_K ?_)
          rintro r h2 ⟨rfl, R2, K2⟩
          show Go _ _ _ _ _ _ 308 _ _
          refine g_goto (tgt := 334) dL_gives_308 (by decide) ?_
          refine g_icmp_ne_f (tgt := 341) dL_gives_334 (by decide) rfl ?_
          refine g_iconst (v := nI 1) dL_gives_337 (by decide +kernel) ?_
          refine g_goto (tgt := 342) dL_gives_338 (by decide) ?_
          exact g_zret rfl rfl dL_gives_342 ⟨1, rfl, rfl, _, nj + 1, hL.kl K2, R2, (inv_give hI hX (by omega) (by omega) (Or.inr (Or.inr (Or.inl ⟨rfl, hq, ht, rfl⟩)))).1, (inv_give hI hX (by omega) (by omega) (Or.inr (Or.inr (Or.inl ⟨rfl, hq, ht, rfl⟩)))).2⟩
        · obtain rfl : nj = 10 := by omega
          refine g_ist8 (by decide) dL_gives_73 ?_
          refine g_ild6 dL_gives_75 ?_
          refine g_iconst (v := nI 1) dL_gives_77 (by decide +kernel) ?_
          refine g_icmp_ne_t (tgt := 98) dL_gives_78 (by decide) (by decide) ?_
          refine g_ild7 dL_gives_98 ?_
          show Go _ _ _ _ _ _ 100 _ _
          refine g_ald1 dL_gives_100 ?_
          refine g_bipush (v := nI 9) dL_gives_101 (by decide +kernel) ?_
          first | refine g_ildr Rw.g rfl (by omega) rfl (by omega) dL_gives_103 hL (v := (nI ni)) z1 ?_ | refine g_ildr Rw.t rfl (by omega) rfl (by omega) dL_gives_103 hL (v := (nI ni)) z1 ?_ | refine g_ildr Rw.d rfl (by omega) rfl (by omega) dL_gives_103 hL (v := (nI ni)) z1 ?_ | refine g_ildr Rw.a rfl (by omega) rfl (by omega) dL_gives_103 hL (v := (nI ni)) z1 ?_ | refine g_ildr Rw.b rfl (by omega) rfl (by omega) dL_gives_103 hL (v := (nI ni)) z1 ?_ | refine g_ildr Rw.c rfl (by omega) rfl (by omega) dL_gives_103 hL (v := (nI ni)) z1 ?_
          refine g_icmp_ge_f (tgt := 123) dL_gives_104 (by decide) (nI_ge hq (by omega)) ?_
          refine g_ild6 dL_gives_107 ?_
          refine g_if_eq_t (tgt := 119) dL_gives_109 (by decide) rfl ?_
          show Go _ _ _ _ _ _ 119 _ _
          refine g_iconst (v := nI 1) dL_gives_119 (by decide +kernel) ?_
          refine g_goto (tgt := 124) dL_gives_120 (by decide) ?_
          refine g_ist9 (by decide) dL_gives_124 ?_
          refine g_ild9 dL_gives_126 ?_
          refine g_if_ne_t (tgt := 135) dL_gives_128 (by decide) (by decide) ?_
          refine g_ild6 dL_gives_135 ?_
          show Go _ _ _ _ _ _ 137 _ _
          refine g_if_ne_f (tgt := 156) dL_gives_137 (by decide) rfl ?_
          refine g_ald2 dL_gives_140 ?_
          refine g_bipush (v := nI 6) dL_gives_141 (by decide +kernel) ?_
          refine g_ild7 dL_gives_143 ?_
          first | refine g_imul_n dL_gives_145 ?_ | refine g_imul dL_gives_145 ?_
          first | refine g_ildr Rw.g rfl (by omega) rfl (by omega) dL_gives_146 hL (v := (0 : Int32)) ht ?_ | refine g_ildr Rw.t rfl (by omega) rfl (by omega) dL_gives_146 hL (v := (0 : Int32)) ht ?_ | refine g_ildr Rw.d rfl (by omega) rfl (by omega) dL_gives_146 hL (v := (0 : Int32)) ht ?_ | refine g_ildr Rw.a rfl (by omega) rfl (by omega) dL_gives_146 hL (v := (0 : Int32)) ht ?_ | refine g_ildr Rw.b rfl (by omega) rfl (by omega) dL_gives_146 hL (v := (0 : Int32)) ht ?_ | refine g_ildr Rw.c rfl (by omega) rfl (by omega) dL_gives_146 hL (v := (0 : Int32)) ht ?_
          show Go _ _ _ _ _ _ 147 _ _
          refine g_iconst (v := nI 1) dL_gives_147 (by decide +kernel) ?_
          refine g_icmp_ne_t (tgt := 156) dL_gives_148 (by decide) (by decide) ?_
          refine g_ald1 dL_gives_156 ?_
          refine g_bipush (v := nI 11) dL_gives_157 (by decide +kernel) ?_
          first | refine g_ildr Rw.g rfl (by omega) rfl (by omega) dL_gives_159 hL (v := (nI 10)) z5 ?_ | refine g_ildr Rw.t rfl (by omega) rfl (by omega) dL_gives_159 hL (v := (nI 10)) z5 ?_ | refine g_ildr Rw.d rfl (by omega) rfl (by omega) dL_gives_159 hL (v := (nI 10)) z5 ?_ | refine g_ildr Rw.a rfl (by omega) rfl (by omega) dL_gives_159 hL (v := (nI 10)) z5 ?_ | refine g_ildr Rw.b rfl (by omega) rfl (by omega) dL_gives_159 hL (v := (nI 10)) z5 ?_ | refine g_ildr Rw.c rfl (by omega) rfl (by omega) dL_gives_159 hL (v := (nI 10)) z5 ?_
          refine g_ist10 (by decide) dL_gives_160 ?_
          show Go _ _ _ _ _ _ 162 _ _
          refine g_ild10 dL_gives_162 ?_
          refine g_if_lt_f (tgt := 178) dL_gives_164 (by decide) (Int32.not_lt.mpr (nI_pos' (by omega))) ?_
          refine g_ald1 dL_gives_167 ?_
          refine g_bipush (v := nI 11) dL_gives_168 (by decide +kernel) ?_
          first | refine g_ildr Rw.g rfl (by omega) rfl (by omega) dL_gives_170 hL (v := (nI 10)) z5 ?_ | refine g_ildr Rw.t rfl (by omega) rfl (by omega) dL_gives_170 hL (v := (nI 10)) z5 ?_ | refine g_ildr Rw.d rfl (by omega) rfl (by omega) dL_gives_170 hL (v := (nI 10)) z5 ?_ | refine g_ildr Rw.a rfl (by omega) rfl (by omega) dL_gives_170 hL (v := (nI 10)) z5 ?_ | refine g_ildr Rw.b rfl (by omega) rfl (by omega) dL_gives_170 hL (v := (nI 10)) z5 ?_ | refine g_ildr Rw.c rfl (by omega) rfl (by omega) dL_gives_170 hL (v := (nI 10)) z5 ?_
          refine g_bipush (v := nI 10) dL_gives_171 (by decide +kernel) ?_
          show Go _ _ _ _ _ _ 173 _ _
          refine g_icmp_ne_f (tgt := 178) dL_gives_173 (by decide) rfl ?_
          refine g_iconst (v := nI 1) dL_gives_176 (by decide +kernel) ?_
          exact g_zret rfl rfl dL_gives_177 ⟨1, rfl, rfl, M, 10, hT⟩
      · skip
        refine g_ist8 (by decide) dL_gives_73 ?_
        refine g_ild6 dL_gives_75 ?_
        refine g_iconst (v := nI 1) dL_gives_77 (by decide +kernel) ?_
        refine g_icmp_ne_t (tgt := 98) dL_gives_78 (by decide) (by decide) ?_
        refine g_ild7 dL_gives_98 ?_
        show Go _ _ _ _ _ _ 100 _ _
        refine g_ald1 dL_gives_100 ?_
        refine g_bipush (v := nI 9) dL_gives_101 (by decide +kernel) ?_
        first | refine g_ildr Rw.g rfl (by omega) rfl (by omega) dL_gives_103 hL (v := (nI ni)) z1 ?_ | refine g_ildr Rw.t rfl (by omega) rfl (by omega) dL_gives_103 hL (v := (nI ni)) z1 ?_ | refine g_ildr Rw.d rfl (by omega) rfl (by omega) dL_gives_103 hL (v := (nI ni)) z1 ?_ | refine g_ildr Rw.a rfl (by omega) rfl (by omega) dL_gives_103 hL (v := (nI ni)) z1 ?_ | refine g_ildr Rw.b rfl (by omega) rfl (by omega) dL_gives_103 hL (v := (nI ni)) z1 ?_ | refine g_ildr Rw.c rfl (by omega) rfl (by omega) dL_gives_103 hL (v := (nI ni)) z1 ?_
        refine g_icmp_ge_f (tgt := 123) dL_gives_104 (by decide) (nI_ge hq (by omega)) ?_
        refine g_ild6 dL_gives_107 ?_
        refine g_if_eq_t (tgt := 119) dL_gives_109 (by decide) rfl ?_
        show Go _ _ _ _ _ _ 119 _ _
        refine g_iconst (v := nI 1) dL_gives_119 (by decide +kernel) ?_
        refine g_goto (tgt := 124) dL_gives_120 (by decide) ?_
        refine g_ist9 (by decide) dL_gives_124 ?_
        refine g_ild9 dL_gives_126 ?_
        refine g_if_ne_t (tgt := 135) dL_gives_128 (by decide) (by decide) ?_
        refine g_ild6 dL_gives_135 ?_
        show Go _ _ _ _ _ _ 137 _ _
        refine g_if_ne_f (tgt := 156) dL_gives_137 (by decide) rfl ?_
        refine g_ald2 dL_gives_140 ?_
        refine g_bipush (v := nI 6) dL_gives_141 (by decide +kernel) ?_
        refine g_ild7 dL_gives_143 ?_
        first | refine g_imul_n dL_gives_145 ?_ | refine g_imul dL_gives_145 ?_
        first | refine g_ildr Rw.g rfl (by omega) rfl (by omega) dL_gives_146 hL (v := (1 : Int32)) ht ?_ | refine g_ildr Rw.t rfl (by omega) rfl (by omega) dL_gives_146 hL (v := (1 : Int32)) ht ?_ | refine g_ildr Rw.d rfl (by omega) rfl (by omega) dL_gives_146 hL (v := (1 : Int32)) ht ?_ | refine g_ildr Rw.a rfl (by omega) rfl (by omega) dL_gives_146 hL (v := (1 : Int32)) ht ?_ | refine g_ildr Rw.b rfl (by omega) rfl (by omega) dL_gives_146 hL (v := (1 : Int32)) ht ?_ | refine g_ildr Rw.c rfl (by omega) rfl (by omega) dL_gives_146 hL (v := (1 : Int32)) ht ?_
        show Go _ _ _ _ _ _ 147 _ _
        refine g_iconst (v := nI 1) dL_gives_147 (by decide +kernel) ?_
        refine g_icmp_ne_f (tgt := 156) dL_gives_148 (by decide) rfl ?_
        refine g_bipush (v := -4) dL_gives_151 (by decide +kernel) ?_
        refine g_goto (tgt := 160) dL_gives_153 (by decide) ?_
        refine g_ist10 (by decide) dL_gives_160 ?_
        refine g_ild10 dL_gives_162 ?_
        show Go _ _ _ _ _ _ 164 _ _
        refine g_if_lt_t (tgt := 178) dL_gives_164 (by decide) (by decide) ?_
        refine g_ild10 dL_gives_178 ?_
        refine g_if_lt_t (tgt := 295) dL_gives_180 (by decide) (by decide) ?_
        refine g_ild10 dL_gives_295 ?_
        refine g_ild6 dL_gives_297 ?_
        refine g_if_ne_f (tgt := 311) dL_gives_299 (by decide) rfl ?_
        show Go _ _ _ _ _ _ 302 _ _
        refine g_ald0 dL_gives_302 ?_
        refine g_ild7 dL_gives_303 ?_
        refine g_callV1 (c_read_f (h := h) M ni nd nj q (-4) hR hi hd (by omega) (Or.inr (Or.inl ⟨rfl, hq, ht, rfl⟩)) (by decide)) mw_3_165 ok_X9_read ⟨by decide, by decide⟩ (by first | assumption | exact lay_item (by omega) | exact lay_drive (by omega) | exact lay_job (by omega) | rfl) (by omega) rfl (by omega) (by omega) (Nat.le_of_ble_eq_true rfl) dL_gives_305 (dI_K ?_)
        refine g_goto (tgt := 334) dL_gives_308 (by decide) ?_
        refine g_icmp_ne_f (tgt := 341) dL_gives_334 (by decide) rfl ?_
        refine g_iconst (v := nI 1) dL_gives_337 (by decide +kernel) ?_
        show Go _ _ _ _ _ _ 338 _ _
        refine g_goto (tgt := 342) dL_gives_338 (by decide) ?_
        exact g_zret rfl rfl dL_gives_342 ⟨1, rfl, rfl, M, nj, hT⟩
    · skip
      refine g_ist8 (by decide) dL_gives_73 ?_
      refine g_ild6 dL_gives_75 ?_
      refine g_iconst (v := nI 1) dL_gives_77 (by decide +kernel) ?_
      refine g_icmp_ne_t (tgt := 98) dL_gives_78 (by decide) (by decide) ?_
      refine g_ild7 dL_gives_98 ?_
      show Go _ _ _ _ _ _ 100 _ _
      refine g_ald1 dL_gives_100 ?_
      refine g_bipush (v := nI 9) dL_gives_101 (by decide +kernel) ?_
      first | refine g_ildr Rw.g rfl (by omega) rfl (by omega) dL_gives_103 hL (v := (nI ni)) z1 ?_ | refine g_ildr Rw.t rfl (by omega) rfl (by omega) dL_gives_103 hL (v := (nI ni)) z1 ?_ | refine g_ildr Rw.d rfl (by omega) rfl (by omega) dL_gives_103 hL (v := (nI ni)) z1 ?_ | refine g_ildr Rw.a rfl (by omega) rfl (by omega) dL_gives_103 hL (v := (nI ni)) z1 ?_ | refine g_ildr Rw.b rfl (by omega) rfl (by omega) dL_gives_103 hL (v := (nI ni)) z1 ?_ | refine g_ildr Rw.c rfl (by omega) rfl (by omega) dL_gives_103 hL (v := (nI ni)) z1 ?_
      refine g_icmp_ge_t (tgt := 123) dL_gives_104 (by decide) (nI_le hq (by omega)) ?_
      refine g_iconst (v := nI 0) dL_gives_123 (by decide +kernel) ?_
      refine g_ist9 (by decide) dL_gives_124 ?_
      show Go _ _ _ _ _ _ 126 _ _
      refine g_ild9 dL_gives_126 ?_
      refine g_if_ne_f (tgt := 135) dL_gives_128 (by decide) rfl ?_
      refine g_iconst (v := -1) dL_gives_131 (by decide +kernel) ?_
      refine g_goto (tgt := 160) dL_gives_132 (by decide) ?_
      refine g_ist10 (by decide) dL_gives_160 ?_
      refine g_ild10 dL_gives_162 ?_
      show Go _ _ _ _ _ _ 164 _ _
      refine g_if_lt_t (tgt := 178) dL_gives_164 (by decide) (by decide) ?_
      refine g_ild10 dL_gives_178 ?_
      refine g_if_lt_t (tgt := 295) dL_gives_180 (by decide) (by decide) ?_
      refine g_ild10 dL_gives_295 ?_
      refine g_ild6 dL_gives_297 ?_
      refine g_if_ne_f (tgt := 311) dL_gives_299 (by decide) rfl ?_
      show Go _ _ _ _ _ _ 302 _ _
      refine g_ald0 dL_gives_302 ?_
      refine g_ild7 dL_gives_303 ?_
      refine g_callV1 (c_read_f (h := h) M ni nd nj q (-1) hR hi hd (by omega) (Or.inl ⟨rfl, hq, rfl⟩) (by decide)) mw_3_165 ok_X9_read ⟨by decide, by decide⟩ (by first | assumption | exact lay_item (by omega) | exact lay_drive (by omega) | exact lay_job (by omega) | rfl) (by omega) rfl (by omega) (by omega) (Nat.le_of_ble_eq_true rfl) dL_gives_305 (dI_K ?_)
      refine g_goto (tgt := 334) dL_gives_308 (by decide) ?_
      refine g_icmp_ne_f (tgt := 341) dL_gives_334 (by decide) rfl ?_
      refine g_iconst (v := nI 1) dL_gives_337 (by decide +kernel) ?_
      show Go _ _ _ _ _ _ 338 _ _
      refine g_goto (tgt := 342) dL_gives_338 (by decide) ?_
      exact g_zret rfl rfl dL_gives_342 ⟨1, rfl, rfl, M, nj, hT⟩
  have k73_1 : ∀ q, q ≤ 8 → Go G mL_gives 456 (rI (fun r h' => r = 1 ∧ ∃ M' nj', Tn h' M' ni nd nj' T)) h 456 73 [some (ga G 0), some (ga G 449), some (ga G 450), some (ga G 453), some (ga G 454), some (.int x), some (.int (nI 1)), some (.int (nI q)), none, none, none, none] [.int (-5)] := by
    intro q hq8
    rcases Nat.lt_or_ge q nd with hq | hq
    · rcases Nat.lt_or_ge nj 10 with hj | hj
      · skip
        refine g_ist8 (by decide) dL_gives_73 ?_
        refine g_ild6 dL_gives_75 ?_
        refine g_iconst (v := nI 1) dL_gives_77 (by decide +kernel) ?_
        refine g_icmp_ne_f (tgt := 98) dL_gives_78 (by decide) rfl ?_
        refine g_ild7 dL_gives_81 ?_
        show Go _ _ _ _ _ _ 83 _ _
        refine g_ald1 dL_gives_83 ?_
        refine g_bipush (v := nI 10) dL_gives_84 (by decide +kernel) ?_
        first | refine g_ildr Rw.g rfl (by omega) rfl (by omega) dL_gives_86 hL (v := (nI nd)) z3 ?_ | refine g_ildr Rw.t rfl (by omega) rfl (by omega) dL_gives_86 hL (v := (nI nd)) z3 ?_ | refine g_ildr Rw.d rfl (by omega) rfl (by omega) dL_gives_86 hL (v := (nI nd)) z3 ?_ | refine g_ildr Rw.a rfl (by omega) rfl (by omega) dL_gives_86 hL (v := (nI nd)) z3 ?_ | refine g_ildr Rw.b rfl (by omega) rfl (by omega) dL_gives_86 hL (v := (nI nd)) z3 ?_ | refine g_ildr Rw.c rfl (by omega) rfl (by omega) dL_gives_86 hL (v := (nI nd)) z3 ?_
        refine g_icmp_ge_f (tgt := 94) dL_gives_87 (by decide) (nI_ge hq (by omega)) ?_
        refine g_iconst (v := nI 1) dL_gives_90 (by decide +kernel) ?_
        refine g_goto (tgt := 124) dL_gives_91 (by decide) ?_
        show Go _ _ _ _ _ _ 124 _ _
        refine g_ist9 (by decide) dL_gives_124 ?_
        refine g_ild9 dL_gives_126 ?_
        refine g_if_ne_t (tgt := 135) dL_gives_128 (by decide) (by decide) ?_
        refine g_ild6 dL_gives_135 ?_
        refine g_if_ne_t (tgt := 156) dL_gives_137 (by decide) (by decide) ?_
        refine g_ald1 dL_gives_156 ?_
        show Go _ _ _ _ _ _ 157 _ _
        refine g_bipush (v := nI 11) dL_gives_157 (by decide +kernel) ?_
        first | refine g_ildr Rw.g rfl (by omega) rfl (by omega) dL_gives_159 hL (v := (nI nj)) z5 ?_ | refine g_ildr Rw.t rfl (by omega) rfl (by omega) dL_gives_159 hL (v := (nI nj)) z5 ?_ | refine g_ildr Rw.d rfl (by omega) rfl (by omega) dL_gives_159 hL (v := (nI nj)) z5 ?_ | refine g_ildr Rw.a rfl (by omega) rfl (by omega) dL_gives_159 hL (v := (nI nj)) z5 ?_ | refine g_ildr Rw.b rfl (by omega) rfl (by omega) dL_gives_159 hL (v := (nI nj)) z5 ?_ | refine g_ildr Rw.c rfl (by omega) rfl (by omega) dL_gives_159 hL (v := (nI nj)) z5 ?_
        refine g_ist10 (by decide) dL_gives_160 ?_
        refine g_ild10 dL_gives_162 ?_
        refine g_if_lt_f (tgt := 178) dL_gives_164 (by decide) (Int32.not_lt.mpr (nI_pos' (by omega))) ?_
        refine g_ald1 dL_gives_167 ?_
        show Go _ _ _ _ _ _ 168 _ _
        refine g_bipush (v := nI 11) dL_gives_168 (by decide +kernel) ?_
        first | refine g_ildr Rw.g rfl (by omega) rfl (by omega) dL_gives_170 hL (v := (nI nj)) z5 ?_ | refine g_ildr Rw.t rfl (by omega) rfl (by omega) dL_gives_170 hL (v := (nI nj)) z5 ?_ | refine g_ildr Rw.d rfl (by omega) rfl (by omega) dL_gives_170 hL (v := (nI nj)) z5 ?_ | refine g_ildr Rw.a rfl (by omega) rfl (by omega) dL_gives_170 hL (v := (nI nj)) z5 ?_ | refine g_ildr Rw.b rfl (by omega) rfl (by omega) dL_gives_170 hL (v := (nI nj)) z5 ?_ | refine g_ildr Rw.c rfl (by omega) rfl (by omega) dL_gives_170 hL (v := (nI nj)) z5 ?_
        refine g_bipush (v := nI 10) dL_gives_171 (by decide +kernel) ?_
        refine g_icmp_ne_t (tgt := 178) dL_gives_173 (by decide) (fun z => by have := (nI_eq (a := nj) (b := 10) (by omega) (by omega)).mp z; omega) ?_
        refine g_ild10 dL_gives_178 ?_
        refine g_if_lt_f (tgt := 295) dL_gives_180 (by decide) (Int32.not_lt.mpr (nI_pos' (by omega))) ?_
        show Go _ _ _ _ _ _ 183 _ _
        refine g_bipush (v := nI 6) dL_gives_183 (by decide +kernel) ?_
        refine g_ald1 dL_gives_185 ?_
        refine g_bipush (v := nI 11) dL_gives_186 (by decide +kernel) ?_
        first | refine g_ildr Rw.g rfl (by omega) rfl (by omega) dL_gives_188 hL (v := (nI nj)) z5 ?_ | refine g_ildr Rw.t rfl (by omega) rfl (by omega) dL_gives_188 hL (v := (nI nj)) z5 ?_ | refine g_ildr Rw.d rfl (by omega) rfl (by omega) dL_gives_188 hL (v := (nI nj)) z5 ?_ | refine g_ildr Rw.a rfl (by omega) rfl (by omega) dL_gives_188 hL (v := (nI nj)) z5 ?_ | refine g_ildr Rw.b rfl (by omega) rfl (by omega) dL_gives_188 hL (v := (nI nj)) z5 ?_ | refine g_ildr Rw.c rfl (by omega) rfl (by omega) dL_gives_188 hL (v := (nI nj)) z5 ?_
        first | refine g_imul_n dL_gives_189 ?_ | refine g_imul dL_gives_189 ?_
        refine g_ist11 (by decide) dL_gives_190 ?_
        show Go _ _ _ _ _ _ 192 _ _
        refine g_ald3 dL_gives_192 ?_
        refine g_ild11 dL_gives_193 ?_
        refine g_ild6 dL_gives_195 ?_
        first | refine g_istr Rw.g rfl (by omega) rfl (by omega) dL_gives_197 hL hK ?_ | refine g_istr Rw.t rfl (by omega) rfl (by omega) dL_gives_197 hL hK ?_ | refine g_istr Rw.d rfl (by omega) rfl (by omega) dL_gives_197 hL hK ?_ | refine g_istr Rw.a rfl (by omega) rfl (by omega) dL_gives_197 hL hK ?_ | refine g_istr Rw.b rfl (by omega) rfl (by omega) dL_gives_197 hL hK ?_ | refine g_istr Rw.c rfl (by omega) rfl (by omega) dL_gives_197 hL hK ?_
        intro h hL hK
        refine g_ald3 dL_gives_198 ?_
        refine g_ild11 dL_gives_199 ?_
        show Go _ _ _ _ _ _ 201 _ _
        refine g_iconst (v := nI 1) dL_gives_201 (by decide +kernel) ?_
        first | refine g_iadd_n dL_gives_202 ?_ | refine g_iadd dL_gives_202 ?_
        refine g_ild7 dL_gives_203 ?_
        first | refine g_istr Rw.g rfl (by omega) rfl (by omega) dL_gives_205 hL hK ?_ | refine g_istr Rw.t rfl (by omega) rfl (by omega) dL_gives_205 hL hK ?_ | refine g_istr Rw.d rfl (by omega) rfl (by omega) dL_gives_205 hL hK ?_ | refine g_istr Rw.a rfl (by omega) rfl (by omega) dL_gives_205 hL hK ?_ | refine g_istr Rw.b rfl (by omega) rfl (by omega) dL_gives_205 hL hK ?_ | refine g_istr Rw.c rfl (by omega) rfl (by omega) dL_gives_205 hL hK ?_
        intro h hL hK
        refine g_ald3 dL_gives_206 ?_
        refine g_ild11 dL_gives_207 ?_
        show Go _ _ _ _ _ _ 209 _ _
        refine g_iconst (v := nI 2) dL_gives_209 (by decide +kernel) ?_
        first | refine g_iadd_n dL_gives_210 ?_ | refine g_iadd dL_gives_210 ?_
        refine g_ild8 dL_gives_211 ?_
        first | refine g_istr Rw.g rfl (by omega) rfl (by omega) dL_gives_213 hL hK ?_ | refine g_istr Rw.t rfl (by omega) rfl (by omega) dL_gives_213 hL hK ?_ | refine g_istr Rw.d rfl (by omega) rfl (by omega) dL_gives_213 hL hK ?_ | refine g_istr Rw.a rfl (by omega) rfl (by omega) dL_gives_213 hL hK ?_ | refine g_istr Rw.b rfl (by omega) rfl (by omega) dL_gives_213 hL hK ?_ | refine g_istr Rw.c rfl (by omega) rfl (by omega) dL_gives_213 hL hK ?_
        intro h hL hK
        refine g_ald3 dL_gives_214 ?_
        refine g_ild11 dL_gives_215 ?_
        show Go _ _ _ _ _ _ 217 _ _
        refine g_iconst (v := nI 3) dL_gives_217 (by decide +kernel) ?_
        first | refine g_iadd_n dL_gives_218 ?_ | refine g_iadd dL_gives_218 ?_
        refine g_iconst (v := nI 0) dL_gives_219 (by decide +kernel) ?_
        first | refine g_istr Rw.g rfl (by omega) rfl (by omega) dL_gives_220 hL hK ?_ | refine g_istr Rw.t rfl (by omega) rfl (by omega) dL_gives_220 hL hK ?_ | refine g_istr Rw.d rfl (by omega) rfl (by omega) dL_gives_220 hL hK ?_ | refine g_istr Rw.a rfl (by omega) rfl (by omega) dL_gives_220 hL hK ?_ | refine g_istr Rw.b rfl (by omega) rfl (by omega) dL_gives_220 hL hK ?_ | refine g_istr Rw.c rfl (by omega) rfl (by omega) dL_gives_220 hL hK ?_
        intro h hL hK
        refine g_ald3 dL_gives_221 ?_
        refine g_ild11 dL_gives_222 ?_
        show Go _ _ _ _ _ _ 224 _ _
        refine g_iconst (v := nI 4) dL_gives_224 (by decide +kernel) ?_
        first | refine g_iadd_n dL_gives_225 ?_ | refine g_iadd dL_gives_225 ?_
        refine g_bipush (v := -5) dL_gives_226 (by decide +kernel) ?_
        first | refine g_istr Rw.g rfl (by omega) rfl (by omega) dL_gives_228 hL hK ?_ | refine g_istr Rw.t rfl (by omega) rfl (by omega) dL_gives_228 hL hK ?_ | refine g_istr Rw.d rfl (by omega) rfl (by omega) dL_gives_228 hL hK ?_ | refine g_istr Rw.a rfl (by omega) rfl (by omega) dL_gives_228 hL hK ?_ | refine g_istr Rw.b rfl (by omega) rfl (by omega) dL_gives_228 hL hK ?_ | refine g_istr Rw.c rfl (by omega) rfl (by omega) dL_gives_228 hL hK ?_
        intro h hL hK
        refine g_ald3 dL_gives_229 ?_
        refine g_ild11 dL_gives_230 ?_
        show Go _ _ _ _ _ _ 232 _ _
        refine g_iconst (v := nI 5) dL_gives_232 (by decide +kernel) ?_
        first | refine g_iadd_n dL_gives_233 ?_ | refine g_iadd dL_gives_233 ?_
        refine g_bipush (v := -5) dL_gives_234 (by decide +kernel) ?_
        first | refine g_istr Rw.g rfl (by omega) rfl (by omega) dL_gives_236 hL hK ?_ | refine g_istr Rw.t rfl (by omega) rfl (by omega) dL_gives_236 hL hK ?_ | refine g_istr Rw.d rfl (by omega) rfl (by omega) dL_gives_236 hL hK ?_ | refine g_istr Rw.a rfl (by omega) rfl (by omega) dL_gives_236 hL hK ?_ | refine g_istr Rw.b rfl (by omega) rfl (by omega) dL_gives_236 hL hK ?_ | refine g_istr Rw.c rfl (by omega) rfl (by omega) dL_gives_236 hL hK ?_
        intro h hL hK
        refine g_ald4 dL_gives_237 ?_
        refine g_ild11 dL_gives_239 ?_
        show Go _ _ _ _ _ _ 241 _ _
        refine g_bipush (v := -5) dL_gives_241 (by decide +kernel) ?_
        first | refine g_istr Rw.g rfl (by omega) rfl (by omega) dL_gives_243 hL hK ?_ | refine g_istr Rw.t rfl (by omega) rfl (by omega) dL_gives_243 hL hK ?_ | refine g_istr Rw.d rfl (by omega) rfl (by omega) dL_gives_243 hL hK ?_ | refine g_istr Rw.a rfl (by omega) rfl (by omega) dL_gives_243 hL hK ?_ | refine g_istr Rw.b rfl (by omega) rfl (by omega) dL_gives_243 hL hK ?_ | refine g_istr Rw.c rfl (by omega) rfl (by omega) dL_gives_243 hL hK ?_
        intro h hL hK
        refine g_ald4 dL_gives_244 ?_
        refine g_ild11 dL_gives_246 ?_
        refine g_iconst (v := nI 1) dL_gives_248 (by decide +kernel) ?_
        first | refine g_iadd_n dL_gives_249 ?_ | refine g_iadd dL_gives_249 ?_
        show Go _ _ _ _ _ _ 250 _ _
        refine g_bipush (v := -5) dL_gives_250 (by decide +kernel) ?_
        first | refine g_istr Rw.g rfl (by omega) rfl (by omega) dL_gives_252 hL hK ?_ | refine g_istr Rw.t rfl (by omega) rfl (by omega) dL_gives_252 hL hK ?_ | refine g_istr Rw.d rfl (by omega) rfl (by omega) dL_gives_252 hL hK ?_ | refine g_istr Rw.a rfl (by omega) rfl (by omega) dL_gives_252 hL hK ?_ | refine g_istr Rw.b rfl (by omega) rfl (by omega) dL_gives_252 hL hK ?_ | refine g_istr Rw.c rfl (by omega) rfl (by omega) dL_gives_252 hL hK ?_
        intro h hL hK
        refine g_ald4 dL_gives_253 ?_
        refine g_ild11 dL_gives_255 ?_
        refine g_iconst (v := nI 2) dL_gives_257 (by decide +kernel) ?_
        first | refine g_iadd_n dL_gives_258 ?_ | refine g_iadd dL_gives_258 ?_
        show Go _ _ _ _ _ _ 259 _ _
        refine g_iconst (v := nI 0) dL_gives_259 (by decide +kernel) ?_
        first | refine g_istr Rw.g rfl (by omega) rfl (by omega) dL_gives_260 hL hK ?_ | refine g_istr Rw.t rfl (by omega) rfl (by omega) dL_gives_260 hL hK ?_ | refine g_istr Rw.d rfl (by omega) rfl (by omega) dL_gives_260 hL hK ?_ | refine g_istr Rw.a rfl (by omega) rfl (by omega) dL_gives_260 hL hK ?_ | refine g_istr Rw.b rfl (by omega) rfl (by omega) dL_gives_260 hL hK ?_ | refine g_istr Rw.c rfl (by omega) rfl (by omega) dL_gives_260 hL hK ?_
        intro h hL hK
        refine g_ald4 dL_gives_261 ?_
        refine g_ild11 dL_gives_263 ?_
        refine g_iconst (v := nI 3) dL_gives_265 (by decide +kernel) ?_
        first | refine g_iadd_n dL_gives_266 ?_ | refine g_iadd dL_gives_266 ?_
        show Go _ _ _ _ _ _ 267 _ _
        refine g_iconst (v := nI 0) dL_gives_267 (by decide +kernel) ?_
        first | refine g_istr Rw.g rfl (by omega) rfl (by omega) dL_gives_268 hL hK ?_ | refine g_istr Rw.t rfl (by omega) rfl (by omega) dL_gives_268 hL hK ?_ | refine g_istr Rw.d rfl (by omega) rfl (by omega) dL_gives_268 hL hK ?_ | refine g_istr Rw.a rfl (by omega) rfl (by omega) dL_gives_268 hL hK ?_ | refine g_istr Rw.b rfl (by omega) rfl (by omega) dL_gives_268 hL hK ?_ | refine g_istr Rw.c rfl (by omega) rfl (by omega) dL_gives_268 hL hK ?_
        intro h hL hK
        refine g_ald4 dL_gives_269 ?_
        refine g_ild11 dL_gives_271 ?_
        refine g_iconst (v := nI 4) dL_gives_273 (by decide +kernel) ?_
        first | refine g_iadd_n dL_gives_274 ?_ | refine g_iadd dL_gives_274 ?_
        show Go _ _ _ _ _ _ 275 _ _
        refine g_bipush (v := -5) dL_gives_275 (by decide +kernel) ?_
        first | refine g_istr Rw.g rfl (by omega) rfl (by omega) dL_gives_277 hL hK ?_ | refine g_istr Rw.t rfl (by omega) rfl (by omega) dL_gives_277 hL hK ?_ | refine g_istr Rw.d rfl (by omega) rfl (by omega) dL_gives_277 hL hK ?_ | refine g_istr Rw.a rfl (by omega) rfl (by omega) dL_gives_277 hL hK ?_ | refine g_istr Rw.b rfl (by omega) rfl (by omega) dL_gives_277 hL hK ?_ | refine g_istr Rw.c rfl (by omega) rfl (by omega) dL_gives_277 hL hK ?_
        intro h hL hK
        refine g_ald4 dL_gives_278 ?_
        refine g_ild11 dL_gives_280 ?_
        refine g_iconst (v := nI 5) dL_gives_282 (by decide +kernel) ?_
        first | refine g_iadd_n dL_gives_283 ?_ | refine g_iadd dL_gives_283 ?_
        show Go _ _ _ _ _ _ 284 _ _
        refine g_bipush (v := -5) dL_gives_284 (by decide +kernel) ?_
        first | refine g_istr Rw.g rfl (by omega) rfl (by omega) dL_gives_286 hL hK ?_ | refine g_istr Rw.t rfl (by omega) rfl (by omega) dL_gives_286 hL hK ?_ | refine g_istr Rw.d rfl (by omega) rfl (by omega) dL_gives_286 hL hK ?_ | refine g_istr Rw.a rfl (by omega) rfl (by omega) dL_gives_286 hL hK ?_ | refine g_istr Rw.b rfl (by omega) rfl (by omega) dL_gives_286 hL hK ?_ | refine g_istr Rw.c rfl (by omega) rfl (by omega) dL_gives_286 hL hK ?_
        intro h hL hK
        refine g_ald1 dL_gives_287 ?_
        refine g_bipush (v := nI 11) dL_gives_288 (by decide +kernel) ?_
        refine g_dup2 dL_gives_290 rfl rfl ?_
        first | refine g_ildr Rw.g rfl (by omega) rfl (by omega) dL_gives_291 hL (v := (nI nj)) (by simp (disch := omega) only [up_ne]; exact z5) ?_ | refine g_ildr Rw.t rfl (by omega) rfl (by omega) dL_gives_291 hL (v := (nI nj)) (by simp (disch := omega) only [up_ne]; exact z5) ?_ | refine g_ildr Rw.d rfl (by omega) rfl (by omega) dL_gives_291 hL (v := (nI nj)) (by simp (disch := omega) only [up_ne]; exact z5) ?_ | refine g_ildr Rw.a rfl (by omega) rfl (by omega) dL_gives_291 hL (v := (nI nj)) (by simp (disch := omega) only [up_ne]; exact z5) ?_ | refine g_ildr Rw.b rfl (by omega) rfl (by omega) dL_gives_291 hL (v := (nI nj)) (by simp (disch := omega) only [up_ne]; exact z5) ?_ | refine g_ildr Rw.c rfl (by omega) rfl (by omega) dL_gives_291 hL (v := (nI nj)) (by simp (disch := omega) only [up_ne]; exact z5) ?_
        show Go _ _ _ _ _ _ 292 _ _
        refine g_iconst (v := nI 1) dL_gives_292 (by decide +kernel) ?_
        first | refine g_iadd_n dL_gives_293 ?_ | refine g_iadd dL_gives_293 ?_
        first | refine g_istr Rw.g rfl (by omega) rfl (by omega) dL_gives_294 hL hK ?_ | refine g_istr Rw.t rfl (by omega) rfl (by omega) dL_gives_294 hL hK ?_ | refine g_istr Rw.d rfl (by omega) rfl (by omega) dL_gives_294 hL hK ?_ | refine g_istr Rw.a rfl (by omega) rfl (by omega) dL_gives_294 hL hK ?_ | refine g_istr Rw.b rfl (by omega) rfl (by omega) dL_gives_294 hL hK ?_ | refine g_istr Rw.c rfl (by omega) rfl (by omega) dL_gives_294 hL hK ?_
        intro h hL hK
        refine g_ild10 dL_gives_295 ?_
        refine g_ild6 dL_gives_297 ?_
        refine g_if_ne_t (tgt := 311) dL_gives_299 (by decide) (by decide) ?_
        show Go _ _ _ _ _ _ 311 _ _
        refine g_ild6 dL_gives_311 ?_
        refine g_iconst (v := nI 1) dL_gives_313 (by decide +kernel) ?_
        refine g_icmp_ne_f (tgt := 326) dL_gives_314 (by decide) rfl ?_
        refine g_ald0 dL_gives_317 ?_
        refine g_ild7 dL_gives_318 ?_
        refine g_callV1 (c_clean (h := h) M ni nd nj q (hR.kr hi hd hj10 hK) hi hd (by omega) hC (hNc nj (Nat.le_refl _)) (by omega) (Or.inr (Or.inr (Or.inr (Or.inr (Or.inl ⟨rfl, hq, rfl⟩)))))) mw_3_187 ok_X9_clean ⟨by decide, by decide⟩ (by first | assumption | exact lay_item (by omega) | exact lay_drive (by omega) | exact lay_job (by omega) | rfl) (by omega) rfl (by omega) (by omega) (Nat.le_of_ble_eq_true rfl) dL_gives_320 (rI_K ?_)
        rintro r h2 ⟨rfl, R2, K2⟩
        show Go _ _ _ _ _ _ 323 _ _
        refine g_goto (tgt := 334) dL_gives_323 (by decide) ?_
        refine g_icmp_ne_f (tgt := 341) dL_gives_334 (by decide) rfl ?_
        refine g_iconst (v := nI 1) dL_gives_337 (by decide +kernel) ?_
        refine g_goto (tgt := 342) dL_gives_338 (by decide) ?_
        exact g_zret rfl rfl dL_gives_342 ⟨1, rfl, rfl, _, nj + 1, hL.kl K2, R2, (inv_give hI hX (by omega) (by omega) (Or.inr (Or.inr (Or.inr (Or.inr (Or.inl ⟨rfl, hq, rfl⟩)))))).1, (inv_give hI hX (by omega) (by omega) (Or.inr (Or.inr (Or.inr (Or.inr (Or.inl ⟨rfl, hq, rfl⟩)))))).2⟩
      · obtain rfl : nj = 10 := by omega
        refine g_ist8 (by decide) dL_gives_73 ?_
        refine g_ild6 dL_gives_75 ?_
        refine g_iconst (v := nI 1) dL_gives_77 (by decide +kernel) ?_
        refine g_icmp_ne_f (tgt := 98) dL_gives_78 (by decide) rfl ?_
        refine g_ild7 dL_gives_81 ?_
        show Go _ _ _ _ _ _ 83 _ _
        refine g_ald1 dL_gives_83 ?_
        refine g_bipush (v := nI 10) dL_gives_84 (by decide +kernel) ?_
        first | refine g_ildr Rw.g rfl (by omega) rfl (by omega) dL_gives_86 hL (v := (nI nd)) z3 ?_ | refine g_ildr Rw.t rfl (by omega) rfl (by omega) dL_gives_86 hL (v := (nI nd)) z3 ?_ | refine g_ildr Rw.d rfl (by omega) rfl (by omega) dL_gives_86 hL (v := (nI nd)) z3 ?_ | refine g_ildr Rw.a rfl (by omega) rfl (by omega) dL_gives_86 hL (v := (nI nd)) z3 ?_ | refine g_ildr Rw.b rfl (by omega) rfl (by omega) dL_gives_86 hL (v := (nI nd)) z3 ?_ | refine g_ildr Rw.c rfl (by omega) rfl (by omega) dL_gives_86 hL (v := (nI nd)) z3 ?_
        refine g_icmp_ge_f (tgt := 94) dL_gives_87 (by decide) (nI_ge hq (by omega)) ?_
        refine g_iconst (v := nI 1) dL_gives_90 (by decide +kernel) ?_
        refine g_goto (tgt := 124) dL_gives_91 (by decide) ?_
        show Go _ _ _ _ _ _ 124 _ _
        refine g_ist9 (by decide) dL_gives_124 ?_
        refine g_ild9 dL_gives_126 ?_
        refine g_if_ne_t (tgt := 135) dL_gives_128 (by decide) (by decide) ?_
        refine g_ild6 dL_gives_135 ?_
        refine g_if_ne_t (tgt := 156) dL_gives_137 (by decide) (by decide) ?_
        refine g_ald1 dL_gives_156 ?_
        show Go _ _ _ _ _ _ 157 _ _
        refine g_bipush (v := nI 11) dL_gives_157 (by decide +kernel) ?_
        first | refine g_ildr Rw.g rfl (by omega) rfl (by omega) dL_gives_159 hL (v := (nI 10)) z5 ?_ | refine g_ildr Rw.t rfl (by omega) rfl (by omega) dL_gives_159 hL (v := (nI 10)) z5 ?_ | refine g_ildr Rw.d rfl (by omega) rfl (by omega) dL_gives_159 hL (v := (nI 10)) z5 ?_ | refine g_ildr Rw.a rfl (by omega) rfl (by omega) dL_gives_159 hL (v := (nI 10)) z5 ?_ | refine g_ildr Rw.b rfl (by omega) rfl (by omega) dL_gives_159 hL (v := (nI 10)) z5 ?_ | refine g_ildr Rw.c rfl (by omega) rfl (by omega) dL_gives_159 hL (v := (nI 10)) z5 ?_
        refine g_ist10 (by decide) dL_gives_160 ?_
        refine g_ild10 dL_gives_162 ?_
        refine g_if_lt_f (tgt := 178) dL_gives_164 (by decide) (Int32.not_lt.mpr (nI_pos' (by omega))) ?_
        refine g_ald1 dL_gives_167 ?_
        show Go _ _ _ _ _ _ 168 _ _
        refine g_bipush (v := nI 11) dL_gives_168 (by decide +kernel) ?_
        first | refine g_ildr Rw.g rfl (by omega) rfl (by omega) dL_gives_170 hL (v := (nI 10)) z5 ?_ | refine g_ildr Rw.t rfl (by omega) rfl (by omega) dL_gives_170 hL (v := (nI 10)) z5 ?_ | refine g_ildr Rw.d rfl (by omega) rfl (by omega) dL_gives_170 hL (v := (nI 10)) z5 ?_ | refine g_ildr Rw.a rfl (by omega) rfl (by omega) dL_gives_170 hL (v := (nI 10)) z5 ?_ | refine g_ildr Rw.b rfl (by omega) rfl (by omega) dL_gives_170 hL (v := (nI 10)) z5 ?_ | refine g_ildr Rw.c rfl (by omega) rfl (by omega) dL_gives_170 hL (v := (nI 10)) z5 ?_
        refine g_bipush (v := nI 10) dL_gives_171 (by decide +kernel) ?_
        refine g_icmp_ne_f (tgt := 178) dL_gives_173 (by decide) rfl ?_
        refine g_iconst (v := nI 1) dL_gives_176 (by decide +kernel) ?_
        exact g_zret rfl rfl dL_gives_177 ⟨1, rfl, rfl, M, 10, hT⟩
    · skip
      refine g_ist8 (by decide) dL_gives_73 ?_
      refine g_ild6 dL_gives_75 ?_
      refine g_iconst (v := nI 1) dL_gives_77 (by decide +kernel) ?_
      refine g_icmp_ne_f (tgt := 98) dL_gives_78 (by decide) rfl ?_
      refine g_ild7 dL_gives_81 ?_
      show Go _ _ _ _ _ _ 83 _ _
      refine g_ald1 dL_gives_83 ?_
      refine g_bipush (v := nI 10) dL_gives_84 (by decide +kernel) ?_
      first | refine g_ildr Rw.g rfl (by omega) rfl (by omega) dL_gives_86 hL (v := (nI nd)) z3 ?_ | refine g_ildr Rw.t rfl (by omega) rfl (by omega) dL_gives_86 hL (v := (nI nd)) z3 ?_ | refine g_ildr Rw.d rfl (by omega) rfl (by omega) dL_gives_86 hL (v := (nI nd)) z3 ?_ | refine g_ildr Rw.a rfl (by omega) rfl (by omega) dL_gives_86 hL (v := (nI nd)) z3 ?_ | refine g_ildr Rw.b rfl (by omega) rfl (by omega) dL_gives_86 hL (v := (nI nd)) z3 ?_ | refine g_ildr Rw.c rfl (by omega) rfl (by omega) dL_gives_86 hL (v := (nI nd)) z3 ?_
      refine g_icmp_ge_t (tgt := 94) dL_gives_87 (by decide) (nI_le hq (by omega)) ?_
      refine g_iconst (v := nI 0) dL_gives_94 (by decide +kernel) ?_
      refine g_goto (tgt := 124) dL_gives_95 (by decide) ?_
      show Go _ _ _ _ _ _ 124 _ _
      refine g_ist9 (by decide) dL_gives_124 ?_
      refine g_ild9 dL_gives_126 ?_
      refine g_if_ne_f (tgt := 135) dL_gives_128 (by decide) rfl ?_
      refine g_iconst (v := -1) dL_gives_131 (by decide +kernel) ?_
      refine g_goto (tgt := 160) dL_gives_132 (by decide) ?_
      refine g_ist10 (by decide) dL_gives_160 ?_
      show Go _ _ _ _ _ _ 162 _ _
      refine g_ild10 dL_gives_162 ?_
      refine g_if_lt_t (tgt := 178) dL_gives_164 (by decide) (by decide) ?_
      refine g_ild10 dL_gives_178 ?_
      refine g_if_lt_t (tgt := 295) dL_gives_180 (by decide) (by decide) ?_
      refine g_ild10 dL_gives_295 ?_
      refine g_ild6 dL_gives_297 ?_
      show Go _ _ _ _ _ _ 299 _ _
      refine g_if_ne_t (tgt := 311) dL_gives_299 (by decide) (by decide) ?_
      refine g_ild6 dL_gives_311 ?_
      refine g_iconst (v := nI 1) dL_gives_313 (by decide +kernel) ?_
      refine g_icmp_ne_f (tgt := 326) dL_gives_314 (by decide) rfl ?_
      refine g_ald0 dL_gives_317 ?_
      refine g_ild7 dL_gives_318 ?_
      show Go _ _ _ _ _ _ 320 _ _
      refine g_callV1 (c_clean_f (h := h) M ni nd nj q (-1) hR hi hd (by omega) (Or.inr (Or.inr (Or.inr (Or.inl ⟨rfl, hq, rfl⟩)))) (by decide)) mw_3_187 ok_X9_clean ⟨by decide, by decide⟩ (by first | assumption | exact lay_item (by omega) | exact lay_drive (by omega) | exact lay_job (by omega) | rfl) (by omega) rfl (by omega) (by omega) (Nat.le_of_ble_eq_true rfl) dL_gives_320 (dI_K ?_)
      refine g_goto (tgt := 334) dL_gives_323 (by decide) ?_
      refine g_icmp_ne_f (tgt := 341) dL_gives_334 (by decide) rfl ?_
      refine g_iconst (v := nI 1) dL_gives_337 (by decide +kernel) ?_
      refine g_goto (tgt := 342) dL_gives_338 (by decide) ?_
      exact g_zret rfl rfl dL_gives_342 ⟨1, rfl, rfl, M, nj, hT⟩
  have k73_2 : ∀ q t, q ≤ 8 → t < 25 → Go G mL_gives 456 (rI (fun r h' => r = 1 ∧ ∃ M' nj', Tn h' M' ni nd nj' T)) h 456 73 [some (ga G 0), some (ga G 449), some (ga G 450), some (ga G 453), some (ga G 454), some (.int x), some (.int (nI 2)), some (.int (nI q)), none, none, none, none] [.int (nI t)] := by
    intro q t hq8 ht25
    rcases Nat.lt_or_ge q ni with hq | hq
    · rcases Nat.lt_or_ge t 24 with ht | ht
      · rcases Nat.lt_or_ge nj 10 with hj | hj
        · skip
          refine g_ist8 (by decide) dL_gives_73 ?_
          refine g_ild6 dL_gives_75 ?_
          refine g_iconst (v := nI 1) dL_gives_77 (by decide +kernel) ?_
          refine g_icmp_ne_t (tgt := 98) dL_gives_78 (by decide) (by decide) ?_
          refine g_ild7 dL_gives_98 ?_
          show Go _ _ _ _ _ _ 100 _ _
          refine g_ald1 dL_gives_100 ?_
          refine g_bipush (v := nI 9) dL_gives_101 (by decide +kernel) ?_
          first | refine g_ildr Rw.g rfl (by omega) rfl (by omega) dL_gives_103 hL (v := (nI ni)) z1 ?_ | refine g_ildr Rw.t rfl (by omega) rfl (by omega) dL_gives_103 hL (v := (nI ni)) z1 ?_ | refine g_ildr Rw.d rfl (by omega) rfl (by omega) dL_gives_103 hL (v := (nI ni)) z1 ?_ | refine g_ildr Rw.a rfl (by omega) rfl (by omega) dL_gives_103 hL (v := (nI ni)) z1 ?_ | refine g_ildr Rw.b rfl (by omega) rfl (by omega) dL_gives_103 hL (v := (nI ni)) z1 ?_ | refine g_ildr Rw.c rfl (by omega) rfl (by omega) dL_gives_103 hL (v := (nI ni)) z1 ?_
          refine g_icmp_ge_f (tgt := 123) dL_gives_104 (by decide) (nI_ge hq (by omega)) ?_
          refine g_ild6 dL_gives_107 ?_
          refine g_if_eq_f (tgt := 119) dL_gives_109 (by decide) (by decide) ?_
          show Go _ _ _ _ _ _ 112 _ _
          refine g_ild8 dL_gives_112 ?_
          refine g_bipush (v := nI 24) dL_gives_114 (by decide +kernel) ?_
          refine g_icmp_ge_f (tgt := 123) dL_gives_116 (by decide) (nI_ge ht (by omega)) ?_
          refine g_iconst (v := nI 1) dL_gives_119 (by decide +kernel) ?_
          refine g_goto (tgt := 124) dL_gives_120 (by decide) ?_
          refine g_ist9 (by decide) dL_gives_124 ?_
          show Go _ _ _ _ _ _ 126 _ _
          refine g_ild9 dL_gives_126 ?_
          refine g_if_ne_t (tgt := 135) dL_gives_128 (by decide) (by decide) ?_
          refine g_ild6 dL_gives_135 ?_
          refine g_if_ne_t (tgt := 156) dL_gives_137 (by decide) (by decide) ?_
          refine g_ald1 dL_gives_156 ?_
          refine g_bipush (v := nI 11) dL_gives_157 (by decide +kernel) ?_
          show Go _ _ _ _ _ _ 159 _ _
          first | refine g_ildr Rw.g rfl (by omega) rfl (by omega) dL_gives_159 hL (v := (nI nj)) z5 ?_ | refine g_ildr Rw.t rfl (by omega) rfl (by omega) dL_gives_159 hL (v := (nI nj)) z5 ?_ | refine g_ildr Rw.d rfl (by omega) rfl (by omega) dL_gives_159 hL (v := (nI nj)) z5 ?_ | refine g_ildr Rw.a rfl (by omega) rfl (by omega) dL_gives_159 hL (v := (nI nj)) z5 ?_ | refine g_ildr Rw.b rfl (by omega) rfl (by omega) dL_gives_159 hL (v := (nI nj)) z5 ?_ | refine g_ildr Rw.c rfl (by omega) rfl (by omega) dL_gives_159 hL (v := (nI nj)) z5 ?_
          refine g_ist10 (by decide) dL_gives_160 ?_
          refine g_ild10 dL_gives_162 ?_
          refine g_if_lt_f (tgt := 178) dL_gives_164 (by decide) (Int32.not_lt.mpr (nI_pos' (by omega))) ?_
          refine g_ald1 dL_gives_167 ?_
          refine g_bipush (v := nI 11) dL_gives_168 (by decide +kernel) ?_
          show Go _ _ _ _ _ _ 170 _ _
          first | refine g_ildr Rw.g rfl (by omega) rfl (by omega) dL_gives_170 hL (v := (nI nj)) z5 ?_ | refine g_ildr Rw.t rfl (by omega) rfl (by omega) dL_gives_170 hL (v := (nI nj)) z5 ?_ | refine g_ildr Rw.d rfl (by omega) rfl (by omega) dL_gives_170 hL (v := (nI nj)) z5 ?_ | refine g_ildr Rw.a rfl (by omega) rfl (by omega) dL_gives_170 hL (v := (nI nj)) z5 ?_ | refine g_ildr Rw.b rfl (by omega) rfl (by omega) dL_gives_170 hL (v := (nI nj)) z5 ?_ | refine g_ildr Rw.c rfl (by omega) rfl (by omega) dL_gives_170 hL (v := (nI nj)) z5 ?_
          refine g_bipush (v := nI 10) dL_gives_171 (by decide +kernel) ?_
          refine g_icmp_ne_t (tgt := 178) dL_gives_173 (by decide) (fun z => by have := (nI_eq (a := nj) (b := 10) (by omega) (by omega)).mp z; omega) ?_
          refine g_ild10 dL_gives_178 ?_
          refine g_if_lt_f (tgt := 295) dL_gives_180 (by decide) (Int32.not_lt.mpr (nI_pos' (by omega))) ?_
          refine g_bipush (v := nI 6) dL_gives_183 (by decide +kernel) ?_
          show Go _ _ _ _ _ _ 185 _ _
          refine g_ald1 dL_gives_185 ?_
          refine g_bipush (v := nI 11) dL_gives_186 (by decide +kernel) ?_
          first | refine g_ildr Rw.g rfl (by omega) rfl (by omega) dL_gives_188 hL (v := (nI nj)) z5 ?_ | refine g_ildr Rw.t rfl (by omega) rfl (by omega) dL_gives_188 hL (v := (nI nj)) z5 ?_ | refine g_ildr Rw.d rfl (by omega) rfl (by omega) dL_gives_188 hL (v := (nI nj)) z5 ?_ | refine g_ildr Rw.a rfl (by omega) rfl (by omega) dL_gives_188 hL (v := (nI nj)) z5 ?_ | refine g_ildr Rw.b rfl (by omega) rfl (by omega) dL_gives_188 hL (v := (nI nj)) z5 ?_ | refine g_ildr Rw.c rfl (by omega) rfl (by omega) dL_gives_188 hL (v := (nI nj)) z5 ?_
          first | refine g_imul_n dL_gives_189 ?_ | refine g_imul dL_gives_189 ?_
          refine g_ist11 (by decide) dL_gives_190 ?_
          refine g_ald3 dL_gives_192 ?_
          show Go _ _ _ _ _ _ 193 _ _
          refine g_ild11 dL_gives_193 ?_
          refine g_ild6 dL_gives_195 ?_
          first | refine g_istr Rw.g rfl (by omega) rfl (by omega) dL_gives_197 hL hK ?_ | refine g_istr Rw.t rfl (by omega) rfl (by omega) dL_gives_197 hL hK ?_ | refine g_istr Rw.d rfl (by omega) rfl (by omega) dL_gives_197 hL hK ?_ | refine g_istr Rw.a rfl (by omega) rfl (by omega) dL_gives_197 hL hK ?_ | refine g_istr Rw.b rfl (by omega) rfl (by omega) dL_gives_197 hL hK ?_ | refine g_istr Rw.c rfl (by omega) rfl (by omega) dL_gives_197 hL hK ?_
          intro h hL hK
          refine g_ald3 dL_gives_198 ?_
          refine g_ild11 dL_gives_199 ?_
          refine g_iconst (v := nI 1) dL_gives_201 (by decide +kernel) ?_
          show Go _ _ _ _ _ _ 202 _ _
          first | refine g_iadd_n dL_gives_202 ?_ | refine g_iadd dL_gives_202 ?_
          refine g_ild7 dL_gives_203 ?_
          first | refine g_istr Rw.g rfl (by omega) rfl (by omega) dL_gives_205 hL hK ?_ | refine g_istr Rw.t rfl (by omega) rfl (by omega) dL_gives_205 hL hK ?_ | refine g_istr Rw.d rfl (by omega) rfl (by omega) dL_gives_205 hL hK ?_ | refine g_istr Rw.a rfl (by omega) rfl (by omega) dL_gives_205 hL hK ?_ | refine g_istr Rw.b rfl (by omega) rfl (by omega) dL_gives_205 hL hK ?_ | refine g_istr Rw.c rfl (by omega) rfl (by omega) dL_gives_205 hL hK ?_
          intro h hL hK
          refine g_ald3 dL_gives_206 ?_
          refine g_ild11 dL_gives_207 ?_
          refine g_iconst (v := nI 2) dL_gives_209 (by decide +kernel) ?_
          show Go _ _ _ _ _ _ 210 _ _
          first | refine g_iadd_n dL_gives_210 ?_ | refine g_iadd dL_gives_210 ?_
          refine g_ild8 dL_gives_211 ?_
          first | refine g_istr Rw.g rfl (by omega) rfl (by omega) dL_gives_213 hL hK ?_ | refine g_istr Rw.t rfl (by omega) rfl (by omega) dL_gives_213 hL hK ?_ | refine g_istr Rw.d rfl (by omega) rfl (by omega) dL_gives_213 hL hK ?_ | refine g_istr Rw.a rfl (by omega) rfl (by omega) dL_gives_213 hL hK ?_ | refine g_istr Rw.b rfl (by omega) rfl (by omega) dL_gives_213 hL hK ?_ | refine g_istr Rw.c rfl (by omega) rfl (by omega) dL_gives_213 hL hK ?_
          intro h hL hK
          refine g_ald3 dL_gives_214 ?_
          refine g_ild11 dL_gives_215 ?_
          refine g_iconst (v := nI 3) dL_gives_217 (by decide +kernel) ?_
          show Go _ _ _ _ _ _ 218 _ _
          first | refine g_iadd_n dL_gives_218 ?_ | refine g_iadd dL_gives_218 ?_
          refine g_iconst (v := nI 0) dL_gives_219 (by decide +kernel) ?_
          first | refine g_istr Rw.g rfl (by omega) rfl (by omega) dL_gives_220 hL hK ?_ | refine g_istr Rw.t rfl (by omega) rfl (by omega) dL_gives_220 hL hK ?_ | refine g_istr Rw.d rfl (by omega) rfl (by omega) dL_gives_220 hL hK ?_ | refine g_istr Rw.a rfl (by omega) rfl (by omega) dL_gives_220 hL hK ?_ | refine g_istr Rw.b rfl (by omega) rfl (by omega) dL_gives_220 hL hK ?_ | refine g_istr Rw.c rfl (by omega) rfl (by omega) dL_gives_220 hL hK ?_
          intro h hL hK
          refine g_ald3 dL_gives_221 ?_
          refine g_ild11 dL_gives_222 ?_
          refine g_iconst (v := nI 4) dL_gives_224 (by decide +kernel) ?_
          show Go _ _ _ _ _ _ 225 _ _
          first | refine g_iadd_n dL_gives_225 ?_ | refine g_iadd dL_gives_225 ?_
          refine g_bipush (v := -5) dL_gives_226 (by decide +kernel) ?_
          first | refine g_istr Rw.g rfl (by omega) rfl (by omega) dL_gives_228 hL hK ?_ | refine g_istr Rw.t rfl (by omega) rfl (by omega) dL_gives_228 hL hK ?_ | refine g_istr Rw.d rfl (by omega) rfl (by omega) dL_gives_228 hL hK ?_ | refine g_istr Rw.a rfl (by omega) rfl (by omega) dL_gives_228 hL hK ?_ | refine g_istr Rw.b rfl (by omega) rfl (by omega) dL_gives_228 hL hK ?_ | refine g_istr Rw.c rfl (by omega) rfl (by omega) dL_gives_228 hL hK ?_
          intro h hL hK
          refine g_ald3 dL_gives_229 ?_
          refine g_ild11 dL_gives_230 ?_
          refine g_iconst (v := nI 5) dL_gives_232 (by decide +kernel) ?_
          show Go _ _ _ _ _ _ 233 _ _
          first | refine g_iadd_n dL_gives_233 ?_ | refine g_iadd dL_gives_233 ?_
          refine g_bipush (v := -5) dL_gives_234 (by decide +kernel) ?_
          first | refine g_istr Rw.g rfl (by omega) rfl (by omega) dL_gives_236 hL hK ?_ | refine g_istr Rw.t rfl (by omega) rfl (by omega) dL_gives_236 hL hK ?_ | refine g_istr Rw.d rfl (by omega) rfl (by omega) dL_gives_236 hL hK ?_ | refine g_istr Rw.a rfl (by omega) rfl (by omega) dL_gives_236 hL hK ?_ | refine g_istr Rw.b rfl (by omega) rfl (by omega) dL_gives_236 hL hK ?_ | refine g_istr Rw.c rfl (by omega) rfl (by omega) dL_gives_236 hL hK ?_
          intro h hL hK
          refine g_ald4 dL_gives_237 ?_
          refine g_ild11 dL_gives_239 ?_
          refine g_bipush (v := -5) dL_gives_241 (by decide +kernel) ?_
          show Go _ _ _ _ _ _ 243 _ _
          first | refine g_istr Rw.g rfl (by omega) rfl (by omega) dL_gives_243 hL hK ?_ | refine g_istr Rw.t rfl (by omega) rfl (by omega) dL_gives_243 hL hK ?_ | refine g_istr Rw.d rfl (by omega) rfl (by omega) dL_gives_243 hL hK ?_ | refine g_istr Rw.a rfl (by omega) rfl (by omega) dL_gives_243 hL hK ?_ | refine g_istr Rw.b rfl (by omega) rfl (by omega) dL_gives_243 hL hK ?_ | refine g_istr Rw.c rfl (by omega) rfl (by omega) dL_gives_243 hL hK ?_
          intro h hL hK
          refine g_ald4 dL_gives_244 ?_
          refine g_ild11 dL_gives_246 ?_
          refine g_iconst (v := nI 1) dL_gives_248 (by decide +kernel) ?_
          first | refine g_iadd_n dL_gives_249 ?_ | refine g_iadd dL_gives_249 ?_
          refine g_bipush (v := -5) dL_gives_250 (by decide +kernel) ?_
          show Go _ _ _ _ _ _ 252 _ _
          first | refine g_istr Rw.g rfl (by omega) rfl (by omega) dL_gives_252 hL hK ?_ | refine g_istr Rw.t rfl (by omega) rfl (by omega) dL_gives_252 hL hK ?_ | refine g_istr Rw.d rfl (by omega) rfl (by omega) dL_gives_252 hL hK ?_ | refine g_istr Rw.a rfl (by omega) rfl (by omega) dL_gives_252 hL hK ?_ | refine g_istr Rw.b rfl (by omega) rfl (by omega) dL_gives_252 hL hK ?_ | refine g_istr Rw.c rfl (by omega) rfl (by omega) dL_gives_252 hL hK ?_
          intro h hL hK
          refine g_ald4 dL_gives_253 ?_
          refine g_ild11 dL_gives_255 ?_
          refine g_iconst (v := nI 2) dL_gives_257 (by decide +kernel) ?_
          first | refine g_iadd_n dL_gives_258 ?_ | refine g_iadd dL_gives_258 ?_
          refine g_iconst (v := nI 0) dL_gives_259 (by decide +kernel) ?_
          show Go _ _ _ _ _ _ 260 _ _
          first | refine g_istr Rw.g rfl (by omega) rfl (by omega) dL_gives_260 hL hK ?_ | refine g_istr Rw.t rfl (by omega) rfl (by omega) dL_gives_260 hL hK ?_ | refine g_istr Rw.d rfl (by omega) rfl (by omega) dL_gives_260 hL hK ?_ | refine g_istr Rw.a rfl (by omega) rfl (by omega) dL_gives_260 hL hK ?_ | refine g_istr Rw.b rfl (by omega) rfl (by omega) dL_gives_260 hL hK ?_ | refine g_istr Rw.c rfl (by omega) rfl (by omega) dL_gives_260 hL hK ?_
          intro h hL hK
          refine g_ald4 dL_gives_261 ?_
          refine g_ild11 dL_gives_263 ?_
          refine g_iconst (v := nI 3) dL_gives_265 (by decide +kernel) ?_
          first | refine g_iadd_n dL_gives_266 ?_ | refine g_iadd dL_gives_266 ?_
          refine g_iconst (v := nI 0) dL_gives_267 (by decide +kernel) ?_
          show Go _ _ _ _ _ _ 268 _ _
          first | refine g_istr Rw.g rfl (by omega) rfl (by omega) dL_gives_268 hL hK ?_ | refine g_istr Rw.t rfl (by omega) rfl (by omega) dL_gives_268 hL hK ?_ | refine g_istr Rw.d rfl (by omega) rfl (by omega) dL_gives_268 hL hK ?_ | refine g_istr Rw.a rfl (by omega) rfl (by omega) dL_gives_268 hL hK ?_ | refine g_istr Rw.b rfl (by omega) rfl (by omega) dL_gives_268 hL hK ?_ | refine g_istr Rw.c rfl (by omega) rfl (by omega) dL_gives_268 hL hK ?_
          intro h hL hK
          refine g_ald4 dL_gives_269 ?_
          refine g_ild11 dL_gives_271 ?_
          refine g_iconst (v := nI 4) dL_gives_273 (by decide +kernel) ?_
          first | refine g_iadd_n dL_gives_274 ?_ | refine g_iadd dL_gives_274 ?_
          refine g_bipush (v := -5) dL_gives_275 (by decide +kernel) ?_
          show Go _ _ _ _ _ _ 277 _ _
          first | refine g_istr Rw.g rfl (by omega) rfl (by omega) dL_gives_277 hL hK ?_ | refine g_istr Rw.t rfl (by omega) rfl (by omega) dL_gives_277 hL hK ?_ | refine g_istr Rw.d rfl (by omega) rfl (by omega) dL_gives_277 hL hK ?_ | refine g_istr Rw.a rfl (by omega) rfl (by omega) dL_gives_277 hL hK ?_ | refine g_istr Rw.b rfl (by omega) rfl (by omega) dL_gives_277 hL hK ?_ | refine g_istr Rw.c rfl (by omega) rfl (by omega) dL_gives_277 hL hK ?_
          intro h hL hK
          refine g_ald4 dL_gives_278 ?_
          refine g_ild11 dL_gives_280 ?_
          refine g_iconst (v := nI 5) dL_gives_282 (by decide +kernel) ?_
          first | refine g_iadd_n dL_gives_283 ?_ | refine g_iadd dL_gives_283 ?_
          refine g_bipush (v := -5) dL_gives_284 (by decide +kernel) ?_
          show Go _ _ _ _ _ _ 286 _ _
          first | refine g_istr Rw.g rfl (by omega) rfl (by omega) dL_gives_286 hL hK ?_ | refine g_istr Rw.t rfl (by omega) rfl (by omega) dL_gives_286 hL hK ?_ | refine g_istr Rw.d rfl (by omega) rfl (by omega) dL_gives_286 hL hK ?_ | refine g_istr Rw.a rfl (by omega) rfl (by omega) dL_gives_286 hL hK ?_ | refine g_istr Rw.b rfl (by omega) rfl (by omega) dL_gives_286 hL hK ?_ | refine g_istr Rw.c rfl (by omega) rfl (by omega) dL_gives_286 hL hK ?_
          intro h hL hK
          refine g_ald1 dL_gives_287 ?_
          refine g_bipush (v := nI 11) dL_gives_288 (by decide +kernel) ?_
          refine g_dup2 dL_gives_290 rfl rfl ?_
          first | refine g_ildr Rw.g rfl (by omega) rfl (by omega) dL_gives_291 hL (v := (nI nj)) (by simp (disch := omega) only [up_ne]; exact z5) ?_ | refine g_ildr Rw.t rfl (by omega) rfl (by omega) dL_gives_291 hL (v := (nI nj)) (by simp (disch := omega) only [up_ne]; exact z5) ?_ | refine g_ildr Rw.d rfl (by omega) rfl (by omega) dL_gives_291 hL (v := (nI nj)) (by simp (disch := omega) only [up_ne]; exact z5) ?_ | refine g_ildr Rw.a rfl (by omega) rfl (by omega) dL_gives_291 hL (v := (nI nj)) (by simp (disch := omega) only [up_ne]; exact z5) ?_ | refine g_ildr Rw.b rfl (by omega) rfl (by omega) dL_gives_291 hL (v := (nI nj)) (by simp (disch := omega) only [up_ne]; exact z5) ?_ | refine g_ildr Rw.c rfl (by omega) rfl (by omega) dL_gives_291 hL (v := (nI nj)) (by simp (disch := omega) only [up_ne]; exact z5) ?_
          refine g_iconst (v := nI 1) dL_gives_292 (by decide +kernel) ?_
          show Go _ _ _ _ _ _ 293 _ _
          first | refine g_iadd_n dL_gives_293 ?_ | refine g_iadd dL_gives_293 ?_
          first | refine g_istr Rw.g rfl (by omega) rfl (by omega) dL_gives_294 hL hK ?_ | refine g_istr Rw.t rfl (by omega) rfl (by omega) dL_gives_294 hL hK ?_ | refine g_istr Rw.d rfl (by omega) rfl (by omega) dL_gives_294 hL hK ?_ | refine g_istr Rw.a rfl (by omega) rfl (by omega) dL_gives_294 hL hK ?_ | refine g_istr Rw.b rfl (by omega) rfl (by omega) dL_gives_294 hL hK ?_ | refine g_istr Rw.c rfl (by omega) rfl (by omega) dL_gives_294 hL hK ?_
          intro h hL hK
          refine g_ild10 dL_gives_295 ?_
          refine g_ild6 dL_gives_297 ?_
          refine g_if_ne_t (tgt := 311) dL_gives_299 (by decide) (by decide) ?_
          refine g_ild6 dL_gives_311 ?_
          show Go _ _ _ _ _ _ 313 _ _
          refine g_iconst (v := nI 1) dL_gives_313 (by decide +kernel) ?_
          refine g_icmp_ne_t (tgt := 326) dL_gives_314 (by decide) (by decide) ?_
          refine g_ald0 dL_gives_326 ?_
          refine g_ild7 dL_gives_327 ?_
          refine g_ild8 dL_gives_329 ?_
          refine g_callV2 (c_move (h := h) M ni nd nj q (nI t) (hR.kr hi hd hj10 hK) hi hd (by omega) hC (hNc nj (Nat.le_refl _)) (by omega) (Or.inr (Or.inr (Or.inr (Or.inr (Or.inr (Or.inr (Or.inr ⟨rfl, hq, ⟨t, ht, rfl⟩, rfl⟩)))))))) mw_3_191 ok_X9_move ⟨by decide, by decide⟩ (by first | assumption | exact lay_item (by omega) | exact lay_drive (by omega) | exact lay_job (by omega) | rfl) (by omega) rfl (by omega) (by omega) (Nat.le_of_ble_eq_true rfl) dL_gives_331 (rI_K ?_)
          rintro r h2 ⟨rfl, R2, K2⟩
          show Go _ _ _ _ _ _ 334 _ _
          refine g_icmp_ne_f (tgt := 341) dL_gives_334 (by decide) rfl ?_
          refine g_iconst (v := nI 1) dL_gives_337 (by decide +kernel) ?_
          refine g_goto (tgt := 342) dL_gives_338 (by decide) ?_
          exact g_zret rfl rfl dL_gives_342 ⟨1, rfl, rfl, _, nj + 1, hL.kl K2, R2, (inv_give hI hX (by omega) (by omega) (Or.inr (Or.inr (Or.inr (Or.inr (Or.inr (Or.inr (Or.inr ⟨rfl, hq, ⟨t, ht, rfl⟩, rfl⟩)))))))).1, (inv_give hI hX (by omega) (by omega) (Or.inr (Or.inr (Or.inr (Or.inr (Or.inr (Or.inr (Or.inr ⟨rfl, hq, ⟨t, ht, rfl⟩, rfl⟩)))))))).2⟩
        · obtain rfl : nj = 10 := by omega
          refine g_ist8 (by decide) dL_gives_73 ?_
          refine g_ild6 dL_gives_75 ?_
          refine g_iconst (v := nI 1) dL_gives_77 (by decide +kernel) ?_
          refine g_icmp_ne_t (tgt := 98) dL_gives_78 (by decide) (by decide) ?_
          refine g_ild7 dL_gives_98 ?_
          show Go _ _ _ _ _ _ 100 _ _
          refine g_ald1 dL_gives_100 ?_
          refine g_bipush (v := nI 9) dL_gives_101 (by decide +kernel) ?_
          first | refine g_ildr Rw.g rfl (by omega) rfl (by omega) dL_gives_103 hL (v := (nI ni)) z1 ?_ | refine g_ildr Rw.t rfl (by omega) rfl (by omega) dL_gives_103 hL (v := (nI ni)) z1 ?_ | refine g_ildr Rw.d rfl (by omega) rfl (by omega) dL_gives_103 hL (v := (nI ni)) z1 ?_ | refine g_ildr Rw.a rfl (by omega) rfl (by omega) dL_gives_103 hL (v := (nI ni)) z1 ?_ | refine g_ildr Rw.b rfl (by omega) rfl (by omega) dL_gives_103 hL (v := (nI ni)) z1 ?_ | refine g_ildr Rw.c rfl (by omega) rfl (by omega) dL_gives_103 hL (v := (nI ni)) z1 ?_
          refine g_icmp_ge_f (tgt := 123) dL_gives_104 (by decide) (nI_ge hq (by omega)) ?_
          refine g_ild6 dL_gives_107 ?_
          refine g_if_eq_f (tgt := 119) dL_gives_109 (by decide) (by decide) ?_
          show Go _ _ _ _ _ _ 112 _ _
          refine g_ild8 dL_gives_112 ?_
          refine g_bipush (v := nI 24) dL_gives_114 (by decide +kernel) ?_
          refine g_icmp_ge_f (tgt := 123) dL_gives_116 (by decide) (nI_ge ht (by omega)) ?_
          refine g_iconst (v := nI 1) dL_gives_119 (by decide +kernel) ?_
          refine g_goto (tgt := 124) dL_gives_120 (by decide) ?_
          refine g_ist9 (by decide) dL_gives_124 ?_
          show Go _ _ _ _ _ _ 126 _ _
          refine g_ild9 dL_gives_126 ?_
          refine g_if_ne_t (tgt := 135) dL_gives_128 (by decide) (by decide) ?_
          refine g_ild6 dL_gives_135 ?_
          refine g_if_ne_t (tgt := 156) dL_gives_137 (by decide) (by decide) ?_
          refine g_ald1 dL_gives_156 ?_
          refine g_bipush (v := nI 11) dL_gives_157 (by decide +kernel) ?_
          show Go _ _ _ _ _ _ 159 _ _
          first | refine g_ildr Rw.g rfl (by omega) rfl (by omega) dL_gives_159 hL (v := (nI 10)) z5 ?_ | refine g_ildr Rw.t rfl (by omega) rfl (by omega) dL_gives_159 hL (v := (nI 10)) z5 ?_ | refine g_ildr Rw.d rfl (by omega) rfl (by omega) dL_gives_159 hL (v := (nI 10)) z5 ?_ | refine g_ildr Rw.a rfl (by omega) rfl (by omega) dL_gives_159 hL (v := (nI 10)) z5 ?_ | refine g_ildr Rw.b rfl (by omega) rfl (by omega) dL_gives_159 hL (v := (nI 10)) z5 ?_ | refine g_ildr Rw.c rfl (by omega) rfl (by omega) dL_gives_159 hL (v := (nI 10)) z5 ?_
          refine g_ist10 (by decide) dL_gives_160 ?_
          refine g_ild10 dL_gives_162 ?_
          refine g_if_lt_f (tgt := 178) dL_gives_164 (by decide) (Int32.not_lt.mpr (nI_pos' (by omega))) ?_
          refine g_ald1 dL_gives_167 ?_
          refine g_bipush (v := nI 11) dL_gives_168 (by decide +kernel) ?_
          show Go _ _ _ _ _ _ 170 _ _
          first | refine g_ildr Rw.g rfl (by omega) rfl (by omega) dL_gives_170 hL (v := (nI 10)) z5 ?_ | refine g_ildr Rw.t rfl (by omega) rfl (by omega) dL_gives_170 hL (v := (nI 10)) z5 ?_ | refine g_ildr Rw.d rfl (by omega) rfl (by omega) dL_gives_170 hL (v := (nI 10)) z5 ?_ | refine g_ildr Rw.a rfl (by omega) rfl (by omega) dL_gives_170 hL (v := (nI 10)) z5 ?_ | refine g_ildr Rw.b rfl (by omega) rfl (by omega) dL_gives_170 hL (v := (nI 10)) z5 ?_ | refine g_ildr Rw.c rfl (by omega) rfl (by omega) dL_gives_170 hL (v := (nI 10)) z5 ?_
          refine g_bipush (v := nI 10) dL_gives_171 (by decide +kernel) ?_
          refine g_icmp_ne_f (tgt := 178) dL_gives_173 (by decide) rfl ?_
          refine g_iconst (v := nI 1) dL_gives_176 (by decide +kernel) ?_
          exact g_zret rfl rfl dL_gives_177 ⟨1, rfl, rfl, M, 10, hT⟩
      · skip
        refine g_ist8 (by decide) dL_gives_73 ?_
        refine g_ild6 dL_gives_75 ?_
        refine g_iconst (v := nI 1) dL_gives_77 (by decide +kernel) ?_
        refine g_icmp_ne_t (tgt := 98) dL_gives_78 (by decide) (by decide) ?_
        refine g_ild7 dL_gives_98 ?_
        show Go _ _ _ _ _ _ 100 _ _
        refine g_ald1 dL_gives_100 ?_
        refine g_bipush (v := nI 9) dL_gives_101 (by decide +kernel) ?_
        first | refine g_ildr Rw.g rfl (by omega) rfl (by omega) dL_gives_103 hL (v := (nI ni)) z1 ?_ | refine g_ildr Rw.t rfl (by omega) rfl (by omega) dL_gives_103 hL (v := (nI ni)) z1 ?_ | refine g_ildr Rw.d rfl (by omega) rfl (by omega) dL_gives_103 hL (v := (nI ni)) z1 ?_ | refine g_ildr Rw.a rfl (by omega) rfl (by omega) dL_gives_103 hL (v := (nI ni)) z1 ?_ | refine g_ildr Rw.b rfl (by omega) rfl (by omega) dL_gives_103 hL (v := (nI ni)) z1 ?_ | refine g_ildr Rw.c rfl (by omega) rfl (by omega) dL_gives_103 hL (v := (nI ni)) z1 ?_
        refine g_icmp_ge_f (tgt := 123) dL_gives_104 (by decide) (nI_ge hq (by omega)) ?_
        refine g_ild6 dL_gives_107 ?_
        refine g_if_eq_f (tgt := 119) dL_gives_109 (by decide) (by decide) ?_
        show Go _ _ _ _ _ _ 112 _ _
        refine g_ild8 dL_gives_112 ?_
        refine g_bipush (v := nI 24) dL_gives_114 (by decide +kernel) ?_
        refine g_icmp_ge_t (tgt := 123) dL_gives_116 (by decide) (nI_le ht (by omega)) ?_
        refine g_iconst (v := nI 0) dL_gives_123 (by decide +kernel) ?_
        refine g_ist9 (by decide) dL_gives_124 ?_
        refine g_ild9 dL_gives_126 ?_
        show Go _ _ _ _ _ _ 128 _ _
        refine g_if_ne_f (tgt := 135) dL_gives_128 (by decide) rfl ?_
        refine g_iconst (v := -1) dL_gives_131 (by decide +kernel) ?_
        refine g_goto (tgt := 160) dL_gives_132 (by decide) ?_
        refine g_ist10 (by decide) dL_gives_160 ?_
        refine g_ild10 dL_gives_162 ?_
        refine g_if_lt_t (tgt := 178) dL_gives_164 (by decide) (by decide) ?_
        show Go _ _ _ _ _ _ 178 _ _
        refine g_ild10 dL_gives_178 ?_
        refine g_if_lt_t (tgt := 295) dL_gives_180 (by decide) (by decide) ?_
        refine g_ild10 dL_gives_295 ?_
        refine g_ild6 dL_gives_297 ?_
        refine g_if_ne_t (tgt := 311) dL_gives_299 (by decide) (by decide) ?_
        refine g_ild6 dL_gives_311 ?_
        show Go _ _ _ _ _ _ 313 _ _
        refine g_iconst (v := nI 1) dL_gives_313 (by decide +kernel) ?_
        refine g_icmp_ne_t (tgt := 326) dL_gives_314 (by decide) (by decide) ?_
        refine g_ald0 dL_gives_326 ?_
        refine g_ild7 dL_gives_327 ?_
        refine g_ild8 dL_gives_329 ?_
        refine g_callV2 (c_move_f (h := h) M ni nd nj q (nI t) (-1) hR hi hd (by omega) (Or.inr (Or.inr (Or.inr (Or.inr (Or.inr (Or.inr (Or.inl ⟨rfl, hq, ⟨t, ht, by omega, rfl⟩, rfl⟩))))))) (by decide)) mw_3_191 ok_X9_move ⟨by decide, by decide⟩ (by first | assumption | exact lay_item (by omega) | exact lay_drive (by omega) | exact lay_job (by omega) | rfl) (by omega) rfl (by omega) (by omega) (Nat.le_of_ble_eq_true rfl) dL_gives_331 (dI_K ?_)
        show Go _ _ _ _ _ _ 334 _ _
        refine g_icmp_ne_f (tgt := 341) dL_gives_334 (by decide) rfl ?_
        refine g_iconst (v := nI 1) dL_gives_337 (by decide +kernel) ?_
        refine g_goto (tgt := 342) dL_gives_338 (by decide) ?_
        exact g_zret rfl rfl dL_gives_342 ⟨1, rfl, rfl, M, nj, hT⟩
    · skip
      refine g_ist8 (by decide) dL_gives_73 ?_
      refine g_ild6 dL_gives_75 ?_
      refine g_iconst (v := nI 1) dL_gives_77 (by decide +kernel) ?_
      refine g_icmp_ne_t (tgt := 98) dL_gives_78 (by decide) (by decide) ?_
      refine g_ild7 dL_gives_98 ?_
      show Go _ _ _ _ _ _ 100 _ _
      refine g_ald1 dL_gives_100 ?_
      refine g_bipush (v := nI 9) dL_gives_101 (by decide +kernel) ?_
      first | refine g_ildr Rw.g rfl (by omega) rfl (by omega) dL_gives_103 hL (v := (nI ni)) z1 ?_ | refine g_ildr Rw.t rfl (by omega) rfl (by omega) dL_gives_103 hL (v := (nI ni)) z1 ?_ | refine g_ildr Rw.d rfl (by omega) rfl (by omega) dL_gives_103 hL (v := (nI ni)) z1 ?_ | refine g_ildr Rw.a rfl (by omega) rfl (by omega) dL_gives_103 hL (v := (nI ni)) z1 ?_ | refine g_ildr Rw.b rfl (by omega) rfl (by omega) dL_gives_103 hL (v := (nI ni)) z1 ?_ | refine g_ildr Rw.c rfl (by omega) rfl (by omega) dL_gives_103 hL (v := (nI ni)) z1 ?_
      refine g_icmp_ge_t (tgt := 123) dL_gives_104 (by decide) (nI_le hq (by omega)) ?_
      refine g_iconst (v := nI 0) dL_gives_123 (by decide +kernel) ?_
      refine g_ist9 (by decide) dL_gives_124 ?_
      show Go _ _ _ _ _ _ 126 _ _
      refine g_ild9 dL_gives_126 ?_
      refine g_if_ne_f (tgt := 135) dL_gives_128 (by decide) rfl ?_
      refine g_iconst (v := -1) dL_gives_131 (by decide +kernel) ?_
      refine g_goto (tgt := 160) dL_gives_132 (by decide) ?_
      refine g_ist10 (by decide) dL_gives_160 ?_
      refine g_ild10 dL_gives_162 ?_
      show Go _ _ _ _ _ _ 164 _ _
      refine g_if_lt_t (tgt := 178) dL_gives_164 (by decide) (by decide) ?_
      refine g_ild10 dL_gives_178 ?_
      refine g_if_lt_t (tgt := 295) dL_gives_180 (by decide) (by decide) ?_
      refine g_ild10 dL_gives_295 ?_
      refine g_ild6 dL_gives_297 ?_
      refine g_if_ne_t (tgt := 311) dL_gives_299 (by decide) (by decide) ?_
      show Go _ _ _ _ _ _ 311 _ _
      refine g_ild6 dL_gives_311 ?_
      refine g_iconst (v := nI 1) dL_gives_313 (by decide +kernel) ?_
      refine g_icmp_ne_t (tgt := 326) dL_gives_314 (by decide) (by decide) ?_
      refine g_ald0 dL_gives_326 ?_
      refine g_ild7 dL_gives_327 ?_
      refine g_ild8 dL_gives_329 ?_
      show Go _ _ _ _ _ _ 331 _ _
      refine g_callV2 (c_move_f (h := h) M ni nd nj q (nI t) (-1) hR hi hd (by omega) (Or.inr (Or.inr (Or.inr (Or.inr (Or.inr (Or.inl ⟨rfl, hq, rfl⟩)))))) (by decide)) mw_3_191 ok_X9_move ⟨by decide, by decide⟩ (by first | assumption | exact lay_item (by omega) | exact lay_drive (by omega) | exact lay_job (by omega) | rfl) (by omega) rfl (by omega) (by omega) (Nat.le_of_ble_eq_true rfl) dL_gives_331 (dI_K ?_)
      refine g_icmp_ne_f (tgt := 341) dL_gives_334 (by decide) rfl ?_
      refine g_iconst (v := nI 1) dL_gives_337 (by decide +kernel) ?_
      refine g_goto (tgt := 342) dL_gives_338 (by decide) ?_
      exact g_zret rfl rfl dL_gives_342 ⟨1, rfl, rfl, M, nj, hT⟩
  have k25_0 : Go G mL_gives 456 (rI (fun r h' => r = 1 ∧ ∃ M' nj', Tn h' M' ni nd nj' T)) h 456 25 [some (ga G 0), some (ga G 449), some (ga G 450), some (ga G 453), some (ga G 454), some (.int x), some (.int (nI 0)), none, none, none, none, none] [] := by
    refine g_ild5 dL_gives_25 ?_
    refine g_ild6 dL_gives_27 ?_
    refine g_iconst (v := nI 1) dL_gives_29 (by decide +kernel) ?_
    refine g_icmp_ne_t (tgt := 42) dL_gives_30 (by decide) (by decide) ?_
    refine g_ald1 dL_gives_42 ?_
    show Go _ _ _ _ _ _ 43 _ _
    refine g_bipush (v := nI 9) dL_gives_43 (by decide +kernel) ?_
    first | refine g_ildr Rw.g rfl (by omega) rfl (by omega) dL_gives_45 hL (v := (nI ni)) z1 ?_ | refine g_ildr Rw.t rfl (by omega) rfl (by omega) dL_gives_45 hL (v := (nI ni)) z1 ?_ | refine g_ildr Rw.d rfl (by omega) rfl (by omega) dL_gives_45 hL (v := (nI ni)) z1 ?_ | refine g_ildr Rw.a rfl (by omega) rfl (by omega) dL_gives_45 hL (v := (nI ni)) z1 ?_ | refine g_ildr Rw.b rfl (by omega) rfl (by omega) dL_gives_45 hL (v := (nI ni)) z1 ?_ | refine g_ildr Rw.c rfl (by omega) rfl (by omega) dL_gives_45 hL (v := (nI ni)) z1 ?_
    refine g_iconst (v := nI 1) dL_gives_46 (by decide +kernel) ?_
    first | refine g_iadd_n dL_gives_47 ?_ | refine g_iadd dL_gives_47 ?_
    refine g_callS2 (l_low (h := h) _ (ni + 1) (by omega) (by omega)) mw_2_118 ok_L_low ⟨by decide, by decide⟩ (by omega) (by omega) (Nat.le_of_ble_eq_true rfl) dL_gives_48 (rI_K ?_)
    rintro r h ⟨rfl, q, hq9, rfl⟩
    refine g_ist7 (by decide) dL_gives_51 ?_
    show Go _ _ _ _ _ _ 53 _ _
    refine g_ild6 dL_gives_53 ?_
    refine g_iconst (v := nI 2) dL_gives_55 (by decide +kernel) ?_
    refine g_icmp_ne_t (tgt := 71) dL_gives_56 (by decide) (by decide) ?_
    refine g_bipush (v := -5) dL_gives_71 (by decide +kernel) ?_
    exact k73_0 q (by omega)
  have k25_1 : Go G mL_gives 456 (rI (fun r h' => r = 1 ∧ ∃ M' nj', Tn h' M' ni nd nj' T)) h 456 25 [some (ga G 0), some (ga G 449), some (ga G 450), some (ga G 453), some (ga G 454), some (.int x), some (.int (nI 1)), none, none, none, none, none] [] := by
    refine g_ild5 dL_gives_25 ?_
    refine g_ild6 dL_gives_27 ?_
    refine g_iconst (v := nI 1) dL_gives_29 (by decide +kernel) ?_
    refine g_icmp_ne_f (tgt := 42) dL_gives_30 (by decide) rfl ?_
    refine g_ald1 dL_gives_33 ?_
    show Go _ _ _ _ _ _ 34 _ _
    refine g_bipush (v := nI 10) dL_gives_34 (by decide +kernel) ?_
    first | refine g_ildr Rw.g rfl (by omega) rfl (by omega) dL_gives_36 hL (v := (nI nd)) z3 ?_ | refine g_ildr Rw.t rfl (by omega) rfl (by omega) dL_gives_36 hL (v := (nI nd)) z3 ?_ | refine g_ildr Rw.d rfl (by omega) rfl (by omega) dL_gives_36 hL (v := (nI nd)) z3 ?_ | refine g_ildr Rw.a rfl (by omega) rfl (by omega) dL_gives_36 hL (v := (nI nd)) z3 ?_ | refine g_ildr Rw.b rfl (by omega) rfl (by omega) dL_gives_36 hL (v := (nI nd)) z3 ?_ | refine g_ildr Rw.c rfl (by omega) rfl (by omega) dL_gives_36 hL (v := (nI nd)) z3 ?_
    refine g_iconst (v := nI 1) dL_gives_37 (by decide +kernel) ?_
    first | refine g_iadd_n dL_gives_38 ?_ | refine g_iadd dL_gives_38 ?_
    refine g_goto (tgt := 48) dL_gives_39 (by decide) ?_
    refine g_callS2 (l_low (h := h) _ (nd + 1) (by omega) (by omega)) mw_2_118 ok_L_low ⟨by decide, by decide⟩ (by omega) (by omega) (Nat.le_of_ble_eq_true rfl) dL_gives_48 (rI_K ?_)
    rintro r h ⟨rfl, q, hq9, rfl⟩
    show Go _ _ _ _ _ _ 51 _ _
    refine g_ist7 (by decide) dL_gives_51 ?_
    refine g_ild6 dL_gives_53 ?_
    refine g_iconst (v := nI 2) dL_gives_55 (by decide +kernel) ?_
    refine g_icmp_ne_t (tgt := 71) dL_gives_56 (by decide) (by decide) ?_
    refine g_bipush (v := -5) dL_gives_71 (by decide +kernel) ?_
    exact k73_1 q (by omega)
  have k25_2 : Go G mL_gives 456 (rI (fun r h' => r = 1 ∧ ∃ M' nj', Tn h' M' ni nd nj' T)) h 456 25 [some (ga G 0), some (ga G 449), some (ga G 450), some (ga G 453), some (ga G 454), some (.int x), some (.int (nI 2)), none, none, none, none, none] [] := by
    refine g_ild5 dL_gives_25 ?_
    refine g_ild6 dL_gives_27 ?_
    refine g_iconst (v := nI 1) dL_gives_29 (by decide +kernel) ?_
    refine g_icmp_ne_t (tgt := 42) dL_gives_30 (by decide) (by decide) ?_
    refine g_ald1 dL_gives_42 ?_
    show Go _ _ _ _ _ _ 43 _ _
    refine g_bipush (v := nI 9) dL_gives_43 (by decide +kernel) ?_
    first | refine g_ildr Rw.g rfl (by omega) rfl (by omega) dL_gives_45 hL (v := (nI ni)) z1 ?_ | refine g_ildr Rw.t rfl (by omega) rfl (by omega) dL_gives_45 hL (v := (nI ni)) z1 ?_ | refine g_ildr Rw.d rfl (by omega) rfl (by omega) dL_gives_45 hL (v := (nI ni)) z1 ?_ | refine g_ildr Rw.a rfl (by omega) rfl (by omega) dL_gives_45 hL (v := (nI ni)) z1 ?_ | refine g_ildr Rw.b rfl (by omega) rfl (by omega) dL_gives_45 hL (v := (nI ni)) z1 ?_ | refine g_ildr Rw.c rfl (by omega) rfl (by omega) dL_gives_45 hL (v := (nI ni)) z1 ?_
    refine g_iconst (v := nI 1) dL_gives_46 (by decide +kernel) ?_
    first | refine g_iadd_n dL_gives_47 ?_ | refine g_iadd dL_gives_47 ?_
    refine g_callS2 (l_low (h := h) _ (ni + 1) (by omega) (by omega)) mw_2_118 ok_L_low ⟨by decide, by decide⟩ (by omega) (by omega) (Nat.le_of_ble_eq_true rfl) dL_gives_48 (rI_K ?_)
    rintro r h ⟨rfl, q, hq9, rfl⟩
    refine g_ist7 (by decide) dL_gives_51 ?_
    show Go _ _ _ _ _ _ 53 _ _
    refine g_ild6 dL_gives_53 ?_
    refine g_iconst (v := nI 2) dL_gives_55 (by decide +kernel) ?_
    refine g_icmp_ne_f (tgt := 71) dL_gives_56 (by decide) rfl ?_
    refine g_ild5 dL_gives_59 ?_
    refine g_iconst (v := nI 5) dL_gives_61 (by decide +kernel) ?_
    refine g_ishr dL_gives_62 ?_
    show Go _ _ _ _ _ _ 63 _ _
    refine g_bipush (v := nI 25) dL_gives_63 (by decide +kernel) ?_
    refine g_callS2 (l_low (h := h) _ 25 (by omega) (by omega)) mw_2_118 ok_L_low ⟨by decide, by decide⟩ (by omega) (by omega) (Nat.le_of_ble_eq_true rfl) dL_gives_65 (rI_K ?_)
    rintro r h ⟨rfl, t, ht9, rfl⟩
    refine g_goto (tgt := 73) dL_gives_68 (by decide) ?_
    exact k73_2 q t (by omega) ht9
  have k9 : ∀ p, p < 4 → Go G mL_gives 456 (rI (fun r h' => r = 1 ∧ ∃ M' nj', Tn h' M' ni nd nj' T)) h 456 9 [some (ga G 0), some (ga G 449), some (ga G 450), some (ga G 453), some (ga G 454), some (.int x), none, none, none, none, none, none] [.int (nI p)] := by
    intro p hp
    obtain rfl | rfl | rfl | rfl : p = 0 ∨ p = 1 ∨ p = 2 ∨ p = 3 := by omega
    · skip
      refine g_ist6 (by decide) dL_gives_9 ?_
      refine g_ild6 dL_gives_11 ?_
      refine g_iconst (v := nI 3) dL_gives_13 (by decide +kernel) ?_
      refine g_icmp_ne_t (tgt := 21) dL_gives_14 (by decide) (by decide) ?_
      refine g_ild6 dL_gives_21 ?_
      show Go _ _ _ _ _ _ 23 _ _
      refine g_ist6 (by decide) dL_gives_23 ?_
      exact k25_0
    · skip
      refine g_ist6 (by decide) dL_gives_9 ?_
      refine g_ild6 dL_gives_11 ?_
      refine g_iconst (v := nI 3) dL_gives_13 (by decide +kernel) ?_
      refine g_icmp_ne_t (tgt := 21) dL_gives_14 (by decide) (by decide) ?_
      refine g_ild6 dL_gives_21 ?_
      show Go _ _ _ _ _ _ 23 _ _
      refine g_ist6 (by decide) dL_gives_23 ?_
      exact k25_1
    · skip
      refine g_ist6 (by decide) dL_gives_9 ?_
      refine g_ild6 dL_gives_11 ?_
      refine g_iconst (v := nI 3) dL_gives_13 (by decide +kernel) ?_
      refine g_icmp_ne_t (tgt := 21) dL_gives_14 (by decide) (by decide) ?_
      refine g_ild6 dL_gives_21 ?_
      show Go _ _ _ _ _ _ 23 _ _
      refine g_ist6 (by decide) dL_gives_23 ?_
      exact k25_2
    · skip
      refine g_ist6 (by decide) dL_gives_9 ?_
      refine g_ild6 dL_gives_11 ?_
      refine g_iconst (v := nI 3) dL_gives_13 (by decide +kernel) ?_
      refine g_icmp_ne_f (tgt := 21) dL_gives_14 (by decide) rfl ?_
      refine g_iconst (v := nI 0) dL_gives_17 (by decide +kernel) ?_
      show Go _ _ _ _ _ _ 18 _ _
      refine g_goto (tgt := 23) dL_gives_18 (by decide) ?_
      refine g_ist6 (by decide) dL_gives_23 ?_
      exact k25_0
  refine g_ild5 dL_gives_0 ?_
  refine g_bipush (v := nI 20) dL_gives_2 (by decide +kernel) ?_
  refine g_ishr dL_gives_4 ?_
  refine g_iconst (v := nI 4) dL_gives_5 (by decide +kernel) ?_
  refine g_callS2 (l_low (h := h) _ 4 (by omega) (by omega)) mw_2_118 ok_L_low ⟨by decide, by decide⟩ (by omega) (by omega) (Nat.le_of_ble_eq_true rfl) dL_gives_6 (rI_K ?_)
  rintro r h ⟨rfl, p, hp9, rfl⟩
  exact k9 p hp9
end P45
