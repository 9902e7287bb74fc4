/-! ===== THE LAW'S STEP ===== -/
section P37
variable {G : Gl} {h : Hp}
theorem l_isDone (M : Mo) (ni nd nj j it k q f : Nat) (hL : Lw h M) (hI : IS M ni nd nj) (hO : Own M ni nd nj j it k q) (hMd : M.1 3 (6 * j) = 2 → M.1 3 (6 * j + 5) = -5) (hf9 : f < 9) (hf4 : M.1 1 (6 * it + 4) = nI f) : Ct G mL_isDone [ga G 449, ga G 450, ga G 451, ga G 452, ga G 453, ga G 454, ga G 455] h 456 456 (rI (fun r h' => r = (mStep M j it k).2 ∧ Lw h' (mStep M j it k).1 ∧ KR h h')) := by
  obtain ⟨⟨hi, hd, hj⟩, hp, hH, hC, hf, hu, hJb, hsl⟩ := id hI
  obtain ⟨⟨hj9, h3, h33, ht, h4, hq8⟩, hK9, hPh, hc0, -⟩ := hO
  have hK := KR.rf h
  obtain ⟨m1, m2⟩ := hH it ht
  have hhd := hPh.hd ht
  have hb : ∀ s, ((mGo M j s).2 = 0 ∨ (mGo M j s).2 = 1) := fun s => mGo_b M j s
  refine Ct.of rfl (by simp [Value.category, ga]) (Nat.le_of_ble_eq_true rfl) (Nat.le_refl _) ?_
  show Go _ _ _ _ _ _ _ [some (ga G 449), some (ga G 450), some (ga G 451), some (ga G 452), some (ga G 453), some (ga G 454), some (ga G 455), none, none, none, none, none] []
  rcases hK9 with ⟨z, z1, hk, z3, r0, hr0, har⟩ | ⟨z, z1, hk, z4, z3⟩ | ⟨z, z1, ⟨s, hs, hs2⟩, hq4⟩
  · have hz : M.1 3 (6 * j) = nI 0 := z
    obtain ⟨s, hs, hs2⟩ := hsl k hk
    have k68 : Go G mL_isDone 456 (rI (fun r h' => r = (mStep M j it k).2 ∧ Lw h' (mStep M j it k).1 ∧ KR h h')) h 456 68 [some (ga G 449), some (ga G 450), some (ga G 451), some (ga G 452), some (ga G 453), some (ga G 454), some (ga G 455), some (.int (nI j)), some (.int (nI 0)), some (.int (nI it)), some (.int (nI k)), some (.int (nI q))] [] := by
      obtain rfl | rfl | rfl | rfl | rfl | rfl | rfl | rfl : q = 0 ∨ q = 1 ∨ q = 2 ∨ q = 3 ∨ q = 4 ∨ q = 5 ∨ q = 6 ∨ q = 7 := by omega
      · rw [ms06 (Or.inl h4)]
        refine g_ild11 dL_isDone_68 ?_
        refine g_if_eq_t (tgt := 80) dL_isDone_70 (by decide) rfl ?_
        refine g_ald0 dL_isDone_80 ?_
        refine g_ald1 dL_isDone_81 ?_
        refine g_ald3 dL_isDone_82 ?_
        show Go _ _ _ _ _ _ 83 _ _
        refine g_ald5 dL_isDone_83 ?_
        refine g_ald1 dL_isDone_85 ?_
        refine g_bipush (v := nI 6) dL_isDone_86 (by decide +kernel) ?_
        refine g_ild9 dL_isDone_88 ?_
        first | refine g_imul_n dL_isDone_90 ?_ | refine g_imul dL_isDone_90 ?_
        refine g_iconst (v := nI 1) dL_isDone_91 (by decide +kernel) ?_
        show Go _ _ _ _ _ _ 92 _ _
        first | refine g_iadd_n dL_isDone_92 ?_ | refine g_iadd dL_isDone_92 ?_
        first | refine g_ildr Rw.g rfl (by omega) rfl (by omega) dL_isDone_93 hL (v := (nI (hm M it))) m2 ?_ | refine g_ildr Rw.t rfl (by omega) rfl (by omega) dL_isDone_93 hL (v := (nI (hm M it))) m2 ?_ | refine g_ildr Rw.d rfl (by omega) rfl (by omega) dL_isDone_93 hL (v := (nI (hm M it))) m2 ?_ | refine g_ildr Rw.a rfl (by omega) rfl (by omega) dL_isDone_93 hL (v := (nI (hm M it))) m2 ?_ | refine g_ildr Rw.b rfl (by omega) rfl (by omega) dL_isDone_93 hL (v := (nI (hm M it))) m2 ?_ | refine g_ildr Rw.c rfl (by omega) rfl (by omega) dL_isDone_93 hL (v := (nI (hm M it))) m2 ?_
        refine g_callS5 (l_isThere (h := h) M ni nd nj j (hm M it) hL hI hhd m1 hj9 h3) mw_4_3 ok_L_isThere ⟨by decide, by decide⟩ (by omega) (by omega) (Nat.le_of_ble_eq_true rfl) dL_isDone_94 (rI_K ?_)
        intro r h' hr
        exact g_zret (nb (by rw [hr.1]; exact hb _)) rfl dL_isDone_97 ⟨r, rfl, hr⟩
      · rw [ms1 h4]
        refine g_ild11 dL_isDone_68 ?_
        refine g_if_eq_f (tgt := 80) dL_isDone_70 (by decide) (by decide) ?_
        refine g_ild11 dL_isDone_73 ?_
        refine g_bipush (v := nI 6) dL_isDone_75 (by decide +kernel) ?_
        refine g_icmp_ne_t (tgt := 98) dL_isDone_77 (by decide) (by decide) ?_
        show Go _ _ _ _ _ _ 98 _ _
        refine g_ild11 dL_isDone_98 ?_
        refine g_iconst (v := nI 2) dL_isDone_100 (by decide +kernel) ?_
        refine g_icmp_ne_t (tgt := 139) dL_isDone_101 (by decide) (by decide) ?_
        refine g_ild11 dL_isDone_139 ?_
        refine g_iconst (v := nI 1) dL_isDone_141 (by decide +kernel) ?_
        refine g_icmp_eq_t (tgt := 151) dL_isDone_142 (by decide) (by decide) ?_
        show Go _ _ _ _ _ _ 151 _ _
        refine g_ald0 dL_isDone_151 ?_
        refine g_ald1 dL_isDone_152 ?_
        refine g_ald2 dL_isDone_153 ?_
        refine g_ild9 dL_isDone_154 ?_
        refine g_iconst (v := nI 1) dL_isDone_156 (by decide +kernel) ?_
        refine g_ild11 dL_isDone_157 ?_
        show Go _ _ _ _ _ _ 159 _ _
        refine g_iconst (v := nI 5) dL_isDone_159 (by decide +kernel) ?_
        refine g_icmp_ne_t (tgt := 168) dL_isDone_160 (by decide) (by decide) ?_
        refine g_bipush (v := -5) dL_isDone_168 (by decide +kernel) ?_
        refine g_callS6 (l_puts_take (h := h) M it k hL (by omega) (by omega)) mw_4_8 ok_L_puts ⟨by decide, by decide⟩ (by omega) (by omega) (Nat.le_of_ble_eq_true rfl) dL_isDone_170 (rI_K ?_)
        rintro r h' ⟨rfl, hr⟩
        exact g_zret rfl rfl dL_isDone_173 ⟨1, rfl, rfl, hr⟩
      · rw [ms2 h4, if_neg (by rw [z]; decide), hs2, nI_clamp (by omega)]
        refine g_ild11 dL_isDone_68 ?_
        refine g_if_eq_f (tgt := 80) dL_isDone_70 (by decide) (by decide) ?_
        refine g_ild11 dL_isDone_73 ?_
        refine g_bipush (v := nI 6) dL_isDone_75 (by decide +kernel) ?_
        refine g_icmp_ne_t (tgt := 98) dL_isDone_77 (by decide) (by decide) ?_
        show Go _ _ _ _ _ _ 98 _ _
        refine g_ild11 dL_isDone_98 ?_
        refine g_iconst (v := nI 2) dL_isDone_100 (by decide +kernel) ?_
        refine g_icmp_ne_f (tgt := 139) dL_isDone_101 (by decide) (by decide) ?_
        refine g_ald0 dL_isDone_104 ?_
        refine g_ald1 dL_isDone_105 ?_
        refine g_ald3 dL_isDone_106 ?_
        show Go _ _ _ _ _ _ 107 _ _
        refine g_ald5 dL_isDone_107 ?_
        refine g_ild8 dL_isDone_109 ?_
        refine g_iconst (v := nI 2) dL_isDone_111 (by decide +kernel) ?_
        refine g_icmp_ne_t (tgt := 128) dL_isDone_112 (by decide) (by decide) ?_
        refine g_ald2 dL_isDone_128 ?_
        refine g_bipush (v := nI 7) dL_isDone_129 (by decide +kernel) ?_
        show Go _ _ _ _ _ _ 131 _ _
        refine g_ild10 dL_isDone_131 ?_
        first | refine g_imul_n dL_isDone_133 ?_ | refine g_imul dL_isDone_133 ?_
        first | refine g_ildr Rw.g rfl (by omega) rfl (by omega) dL_isDone_134 hL (v := (nI s)) hs2 ?_ | refine g_ildr Rw.t rfl (by omega) rfl (by omega) dL_isDone_134 hL (v := (nI s)) hs2 ?_ | refine g_ildr Rw.d rfl (by omega) rfl (by omega) dL_isDone_134 hL (v := (nI s)) hs2 ?_ | refine g_ildr Rw.a rfl (by omega) rfl (by omega) dL_isDone_134 hL (v := (nI s)) hs2 ?_ | refine g_ildr Rw.b rfl (by omega) rfl (by omega) dL_isDone_134 hL (v := (nI s)) hs2 ?_ | refine g_ildr Rw.c rfl (by omega) rfl (by omega) dL_isDone_134 hL (v := (nI s)) hs2 ?_
        refine g_callS5 (l_isThere (h := h) M ni nd nj j s hL hI hhd hs hj9 h3) mw_4_3 ok_L_isThere ⟨by decide, by decide⟩ (by omega) (by omega) (Nat.le_of_ble_eq_true rfl) dL_isDone_135 (rI_K ?_)
        intro r h' hr
        exact g_zret (nb (by rw [hr.1]; exact hb _)) rfl dL_isDone_138 ⟨r, rfl, hr⟩
      · rw [ms3 h4, if_neg (by rw [z]; decide)]
        refine g_ild11 dL_isDone_68 ?_
        refine g_if_eq_f (tgt := 80) dL_isDone_70 (by decide) (by decide) ?_
        refine g_ild11 dL_isDone_73 ?_
        refine g_bipush (v := nI 6) dL_isDone_75 (by decide +kernel) ?_
        refine g_icmp_ne_t (tgt := 98) dL_isDone_77 (by decide) (by decide) ?_
        show Go _ _ _ _ _ _ 98 _ _
        refine g_ild11 dL_isDone_98 ?_
        refine g_iconst (v := nI 2) dL_isDone_100 (by decide +kernel) ?_
        refine g_icmp_ne_t (tgt := 139) dL_isDone_101 (by decide) (by decide) ?_
        refine g_ild11 dL_isDone_139 ?_
        refine g_iconst (v := nI 1) dL_isDone_141 (by decide +kernel) ?_
        refine g_icmp_eq_f (tgt := 151) dL_isDone_142 (by decide) (by decide) ?_
        show Go _ _ _ _ _ _ 145 _ _
        refine g_ild11 dL_isDone_145 ?_
        refine g_iconst (v := nI 5) dL_isDone_147 (by decide +kernel) ?_
        refine g_icmp_ne_t (tgt := 174) dL_isDone_148 (by decide) (by decide) ?_
        refine g_ild11 dL_isDone_174 ?_
        refine g_bipush (v := nI 7) dL_isDone_176 (by decide +kernel) ?_
        refine g_icmp_ne_t (tgt := 193) dL_isDone_178 (by decide) (by decide) ?_
        show Go _ _ _ _ _ _ 193 _ _
        refine g_ild11 dL_isDone_193 ?_
        refine g_iconst (v := nI 3) dL_isDone_195 (by decide +kernel) ?_
        refine g_icmp_ne_f (tgt := 258) dL_isDone_196 (by decide) (by decide) ?_
        refine g_ald1 dL_isDone_199 ?_
        refine g_bipush (v := nI 6) dL_isDone_200 (by decide +kernel) ?_
        refine g_ild9 dL_isDone_202 ?_
        show Go _ _ _ _ _ _ 204 _ _
        first | refine g_imul_n dL_isDone_204 ?_ | refine g_imul dL_isDone_204 ?_
        refine g_iconst (v := nI 1) dL_isDone_205 (by decide +kernel) ?_
        first | refine g_iadd_n dL_isDone_206 ?_ | refine g_iadd dL_isDone_206 ?_
        refine g_ild8 dL_isDone_207 ?_
        refine g_iconst (v := nI 2) dL_isDone_209 (by decide +kernel) ?_
        refine g_icmp_ne_t (tgt := 226) dL_isDone_210 (by decide) (by decide) ?_
        show Go _ _ _ _ _ _ 226 _ _
        refine g_ald1 dL_isDone_226 ?_
        refine g_bipush (v := nI 6) dL_isDone_227 (by decide +kernel) ?_
        refine g_ild9 dL_isDone_229 ?_
        first | refine g_imul_n dL_isDone_231 ?_ | refine g_imul dL_isDone_231 ?_
        refine g_iconst (v := nI 1) dL_isDone_232 (by decide +kernel) ?_
        first | refine g_iadd_n dL_isDone_233 ?_ | refine g_iadd dL_isDone_233 ?_
        show Go _ _ _ _ _ _ 234 _ _
        first | refine g_ildr Rw.g rfl (by omega) rfl (by omega) dL_isDone_234 hL rfl ?_ | refine g_ildr Rw.t rfl (by omega) rfl (by omega) dL_isDone_234 hL rfl ?_ | refine g_ildr Rw.d rfl (by omega) rfl (by omega) dL_isDone_234 hL rfl ?_ | refine g_ildr Rw.a rfl (by omega) rfl (by omega) dL_isDone_234 hL rfl ?_ | refine g_ildr Rw.b rfl (by omega) rfl (by omega) dL_isDone_234 hL rfl ?_ | refine g_ildr Rw.c rfl (by omega) rfl (by omega) dL_isDone_234 hL rfl ?_
        first | refine g_istr Rw.g rfl (by omega) rfl (by omega) dL_isDone_235 hL hK ?_ | refine g_istr Rw.t rfl (by omega) rfl (by omega) dL_isDone_235 hL hK ?_ | refine g_istr Rw.d rfl (by omega) rfl (by omega) dL_isDone_235 hL hK ?_ | refine g_istr Rw.a rfl (by omega) rfl (by omega) dL_isDone_235 hL hK ?_ | refine g_istr Rw.b rfl (by omega) rfl (by omega) dL_isDone_235 hL hK ?_ | refine g_istr Rw.c rfl (by omega) rfl (by omega) dL_isDone_235 hL hK ?_
        intro h hL hK
        rw [up_same] at hL
        refine g_ald0 dL_isDone_236 ?_
        refine g_ald1 dL_isDone_237 ?_
        refine g_ald2 dL_isDone_238 ?_
        refine g_ild9 dL_isDone_239 ?_
        show Go _ _ _ _ _ _ 241 _ _
        refine g_ild8 dL_isDone_241 ?_
        refine g_iconst (v := nI 2) dL_isDone_243 (by decide +kernel) ?_
        refine g_icmp_ne_t (tgt := 251) dL_isDone_244 (by decide) (by decide) ?_
        refine g_iconst (v := nI 2) dL_isDone_251 (by decide +kernel) ?_
        refine g_ild10 dL_isDone_252 ?_
        refine g_callS6 (l_puts_load (h := h) M it k hL (by omega) (by omega)) mw_4_8 ok_L_puts ⟨by decide, by decide⟩ (by omega) (by omega) (Nat.le_of_ble_eq_true rfl) dL_isDone_254 (rI_K ?_)
        rintro r h' ⟨rfl, hr⟩
        show Go _ _ _ _ _ _ 257 _ _
        exact g_zret rfl rfl dL_isDone_257 ⟨1, rfl, rfl, hr.1, hK.tr hr.2⟩
      · rw [ms4 h4, if_pos z]
        refine g_ild11 dL_isDone_68 ?_
        refine g_if_eq_f (tgt := 80) dL_isDone_70 (by decide) (by decide) ?_
        refine g_ild11 dL_isDone_73 ?_
        refine g_bipush (v := nI 6) dL_isDone_75 (by decide +kernel) ?_
        refine g_icmp_ne_t (tgt := 98) dL_isDone_77 (by decide) (by decide) ?_
        show Go _ _ _ _ _ _ 98 _ _
        refine g_ild11 dL_isDone_98 ?_
        refine g_iconst (v := nI 2) dL_isDone_100 (by decide +kernel) ?_
        refine g_icmp_ne_t (tgt := 139) dL_isDone_101 (by decide) (by decide) ?_
        refine g_ild11 dL_isDone_139 ?_
        refine g_iconst (v := nI 1) dL_isDone_141 (by decide +kernel) ?_
        refine g_icmp_eq_f (tgt := 151) dL_isDone_142 (by decide) (by decide) ?_
        show Go _ _ _ _ _ _ 145 _ _
        refine g_ild11 dL_isDone_145 ?_
        refine g_iconst (v := nI 5) dL_isDone_147 (by decide +kernel) ?_
        refine g_icmp_ne_t (tgt := 174) dL_isDone_148 (by decide) (by decide) ?_
        refine g_ild11 dL_isDone_174 ?_
        refine g_bipush (v := nI 7) dL_isDone_176 (by decide +kernel) ?_
        refine g_icmp_ne_t (tgt := 193) dL_isDone_178 (by decide) (by decide) ?_
        show Go _ _ _ _ _ _ 193 _ _
        refine g_ild11 dL_isDone_193 ?_
        refine g_iconst (v := nI 3) dL_isDone_195 (by decide +kernel) ?_
        refine g_icmp_ne_t (tgt := 258) dL_isDone_196 (by decide) (by decide) ?_
        refine g_ild8 dL_isDone_258 ?_
        refine g_if_ne_f (tgt := 279) dL_isDone_260 (by decide) rfl ?_
        refine g_ald0 dL_isDone_263 ?_
        show Go _ _ _ _ _ _ 264 _ _
        refine g_ald1 dL_isDone_264 ?_
        refine g_ald2 dL_isDone_265 ?_
        refine g_ald3 dL_isDone_266 ?_
        refine g_ald5 dL_isDone_267 ?_
        refine g_ald6 dL_isDone_269 ?_
        refine g_ild9 dL_isDone_271 ?_
        show Go _ _ _ _ _ _ 273 _ _
        refine g_ild10 dL_isDone_273 ?_
        refine g_callS8 (l_isRead (h := h) M ni nd nj j it k r0 f hL hI hj9 h3 ht hk hf9 hf4 har hr0) mw_4_11 ok_L_isRead ⟨by decide, by decide⟩ (by omega) (by omega) (Nat.le_of_ble_eq_true rfl) dL_isDone_275 (rI_K ?_)
        intro r h' hr
        exact g_zret (nb (by rw [hr.1]; exact mRead_b M j it k)) rfl dL_isDone_278 ⟨r, rfl, hr⟩
      · rw [ms5 h4]
        refine g_ild11 dL_isDone_68 ?_
        refine g_if_eq_f (tgt := 80) dL_isDone_70 (by decide) (by decide) ?_
        refine g_ild11 dL_isDone_73 ?_
        refine g_bipush (v := nI 6) dL_isDone_75 (by decide +kernel) ?_
        refine g_icmp_ne_t (tgt := 98) dL_isDone_77 (by decide) (by decide) ?_
        show Go _ _ _ _ _ _ 98 _ _
        refine g_ild11 dL_isDone_98 ?_
        refine g_iconst (v := nI 2) dL_isDone_100 (by decide +kernel) ?_
        refine g_icmp_ne_t (tgt := 139) dL_isDone_101 (by decide) (by decide) ?_
        refine g_ild11 dL_isDone_139 ?_
        refine g_iconst (v := nI 1) dL_isDone_141 (by decide +kernel) ?_
        refine g_icmp_eq_f (tgt := 151) dL_isDone_142 (by decide) (by decide) ?_
        show Go _ _ _ _ _ _ 145 _ _
        refine g_ild11 dL_isDone_145 ?_
        refine g_iconst (v := nI 5) dL_isDone_147 (by decide +kernel) ?_
        refine g_icmp_ne_f (tgt := 174) dL_isDone_148 (by decide) (by decide) ?_
        refine g_ald0 dL_isDone_151 ?_
        refine g_ald1 dL_isDone_152 ?_
        refine g_ald2 dL_isDone_153 ?_
        show Go _ _ _ _ _ _ 154 _ _
        refine g_ild9 dL_isDone_154 ?_
        refine g_iconst (v := nI 1) dL_isDone_156 (by decide +kernel) ?_
        refine g_ild11 dL_isDone_157 ?_
        refine g_iconst (v := nI 5) dL_isDone_159 (by decide +kernel) ?_
        refine g_icmp_ne_f (tgt := 168) dL_isDone_160 (by decide) (by decide) ?_
        refine g_ild10 dL_isDone_163 ?_
        show Go _ _ _ _ _ _ 165 _ _
        refine g_goto (tgt := 170) dL_isDone_165 (by decide) ?_
        refine g_callS6 (l_puts_unload (h := h) M it k hL (by omega) (by omega)) mw_4_8 ok_L_puts ⟨by decide, by decide⟩ (by omega) (by omega) (Nat.le_of_ble_eq_true rfl) dL_isDone_170 (rI_K ?_)
        rintro r h' ⟨rfl, hr⟩
        exact g_zret rfl rfl dL_isDone_173 ⟨1, rfl, rfl, hr⟩
      · rw [ms06 (Or.inr h4)]
        refine g_ild11 dL_isDone_68 ?_
        refine g_if_eq_f (tgt := 80) dL_isDone_70 (by decide) (by decide) ?_
        refine g_ild11 dL_isDone_73 ?_
        refine g_bipush (v := nI 6) dL_isDone_75 (by decide +kernel) ?_
        refine g_icmp_ne_f (tgt := 98) dL_isDone_77 (by decide) (by decide) ?_
        show Go _ _ _ _ _ _ 80 _ _
        refine g_ald0 dL_isDone_80 ?_
        refine g_ald1 dL_isDone_81 ?_
        refine g_ald3 dL_isDone_82 ?_
        refine g_ald5 dL_isDone_83 ?_
        refine g_ald1 dL_isDone_85 ?_
        refine g_bipush (v := nI 6) dL_isDone_86 (by decide +kernel) ?_
        show Go _ _ _ _ _ _ 88 _ _
        refine g_ild9 dL_isDone_88 ?_
        first | refine g_imul_n dL_isDone_90 ?_ | refine g_imul dL_isDone_90 ?_
        refine g_iconst (v := nI 1) dL_isDone_91 (by decide +kernel) ?_
        first | refine g_iadd_n dL_isDone_92 ?_ | refine g_iadd dL_isDone_92 ?_
        first | refine g_ildr Rw.g rfl (by omega) rfl (by omega) dL_isDone_93 hL (v := (nI (hm M it))) m2 ?_ | refine g_ildr Rw.t rfl (by omega) rfl (by omega) dL_isDone_93 hL (v := (nI (hm M it))) m2 ?_ | refine g_ildr Rw.d rfl (by omega) rfl (by omega) dL_isDone_93 hL (v := (nI (hm M it))) m2 ?_ | refine g_ildr Rw.a rfl (by omega) rfl (by omega) dL_isDone_93 hL (v := (nI (hm M it))) m2 ?_ | refine g_ildr Rw.b rfl (by omega) rfl (by omega) dL_isDone_93 hL (v := (nI (hm M it))) m2 ?_ | refine g_ildr Rw.c rfl (by omega) rfl (by omega) dL_isDone_93 hL (v := (nI (hm M it))) m2 ?_
        refine g_callS5 (l_isThere (h := h) M ni nd nj j (hm M it) hL hI hhd m1 hj9 h3) mw_4_3 ok_L_isThere ⟨by decide, by decide⟩ (by omega) (by omega) (Nat.le_of_ble_eq_true rfl) dL_isDone_94 (rI_K ?_)
        intro r h' hr
        show Go _ _ _ _ _ _ 97 _ _
        exact g_zret (nb (by rw [hr.1]; exact hb _)) rfl dL_isDone_97 ⟨r, rfl, hr⟩
      · rw [ms7 h4]
        refine g_ild11 dL_isDone_68 ?_
        refine g_if_eq_f (tgt := 80) dL_isDone_70 (by decide) (by decide) ?_
        refine g_ild11 dL_isDone_73 ?_
        refine g_bipush (v := nI 6) dL_isDone_75 (by decide +kernel) ?_
        refine g_icmp_ne_t (tgt := 98) dL_isDone_77 (by decide) (by decide) ?_
        show Go _ _ _ _ _ _ 98 _ _
        refine g_ild11 dL_isDone_98 ?_
        refine g_iconst (v := nI 2) dL_isDone_100 (by decide +kernel) ?_
        refine g_icmp_ne_t (tgt := 139) dL_isDone_101 (by decide) (by decide) ?_
        refine g_ild11 dL_isDone_139 ?_
        refine g_iconst (v := nI 1) dL_isDone_141 (by decide +kernel) ?_
        refine g_icmp_eq_f (tgt := 151) dL_isDone_142 (by decide) (by decide) ?_
        show Go _ _ _ _ _ _ 145 _ _
        refine g_ild11 dL_isDone_145 ?_
        refine g_iconst (v := nI 5) dL_isDone_147 (by decide +kernel) ?_
        refine g_icmp_ne_t (tgt := 174) dL_isDone_148 (by decide) (by decide) ?_
        refine g_ild11 dL_isDone_174 ?_
        refine g_bipush (v := nI 7) dL_isDone_176 (by decide +kernel) ?_
        refine g_icmp_ne_f (tgt := 193) dL_isDone_178 (by decide) (by decide) ?_
        show Go _ _ _ _ _ _ 181 _ _
        refine g_ald0 dL_isDone_181 ?_
        refine g_ald1 dL_isDone_182 ?_
        refine g_ald2 dL_isDone_183 ?_
        refine g_ild9 dL_isDone_184 ?_
        refine g_iconst (v := nI 0) dL_isDone_186 (by decide +kernel) ?_
        refine g_bipush (v := -5) dL_isDone_187 (by decide +kernel) ?_
        show Go _ _ _ _ _ _ 189 _ _
        refine g_callS6 (l_puts_home (h := h) M it k hL (by omega) (by omega)) mw_4_8 ok_L_puts ⟨by decide, by decide⟩ (by omega) (by omega) (Nat.le_of_ble_eq_true rfl) dL_isDone_189 (rI_K ?_)
        rintro r h' ⟨rfl, hr⟩
        exact g_zret rfl rfl dL_isDone_192 ⟨1, rfl, rfl, hr⟩
    refine g_ald0 dL_isDone_0 ?_
    refine g_iconst (v := nI 3) dL_isDone_1 (by decide +kernel) ?_
    first | refine g_ildr Rw.g rfl (by omega) rfl (by omega) dL_isDone_2 hL (v := (nI j)) h3 ?_ | refine g_ildr Rw.t rfl (by omega) rfl (by omega) dL_isDone_2 hL (v := (nI j)) h3 ?_ | refine g_ildr Rw.d rfl (by omega) rfl (by omega) dL_isDone_2 hL (v := (nI j)) h3 ?_ | refine g_ildr Rw.a rfl (by omega) rfl (by omega) dL_isDone_2 hL (v := (nI j)) h3 ?_ | refine g_ildr Rw.b rfl (by omega) rfl (by omega) dL_isDone_2 hL (v := (nI j)) h3 ?_ | refine g_ildr Rw.c rfl (by omega) rfl (by omega) dL_isDone_2 hL (v := (nI j)) h3 ?_
    refine g_ist7 (by decide) dL_isDone_3 ?_
    refine g_ald4 dL_isDone_5 ?_
    show Go _ _ _ _ _ _ 7 _ _
    refine g_bipush (v := nI 6) dL_isDone_7 (by decide +kernel) ?_
    refine g_ild7 dL_isDone_9 ?_
    first | refine g_imul_n dL_isDone_11 ?_ | refine g_imul dL_isDone_11 ?_
    first | refine g_ildr Rw.g rfl (by omega) rfl (by omega) dL_isDone_12 hL (v := (nI 0)) hz ?_ | refine g_ildr Rw.t rfl (by omega) rfl (by omega) dL_isDone_12 hL (v := (nI 0)) hz ?_ | refine g_ildr Rw.d rfl (by omega) rfl (by omega) dL_isDone_12 hL (v := (nI 0)) hz ?_ | refine g_ildr Rw.a rfl (by omega) rfl (by omega) dL_isDone_12 hL (v := (nI 0)) hz ?_ | refine g_ildr Rw.b rfl (by omega) rfl (by omega) dL_isDone_12 hL (v := (nI 0)) hz ?_ | refine g_ildr Rw.c rfl (by omega) rfl (by omega) dL_isDone_12 hL (v := (nI 0)) hz ?_
    refine g_ist8 (by decide) dL_isDone_13 ?_
    refine g_ild8 dL_isDone_15 ?_
    show Go _ _ _ _ _ _ 17 _ _
    refine g_iconst (v := nI 1) dL_isDone_17 (by decide +kernel) ?_
    refine g_icmp_ne_t (tgt := 32) dL_isDone_18 (by decide) (by decide) ?_
    refine g_ald4 dL_isDone_32 ?_
    refine g_bipush (v := nI 6) dL_isDone_34 (by decide +kernel) ?_
    refine g_ild7 dL_isDone_36 ?_
    first | refine g_imul_n dL_isDone_38 ?_ | refine g_imul dL_isDone_38 ?_
    show Go _ _ _ _ _ _ 39 _ _
    refine g_iconst (v := nI 1) dL_isDone_39 (by decide +kernel) ?_
    first | refine g_iadd_n dL_isDone_40 ?_ | refine g_iadd dL_isDone_40 ?_
    first | refine g_ildr Rw.g rfl (by omega) rfl (by omega) dL_isDone_41 hL (v := (nI it)) z1 ?_ | refine g_ildr Rw.t rfl (by omega) rfl (by omega) dL_isDone_41 hL (v := (nI it)) z1 ?_ | refine g_ildr Rw.d rfl (by omega) rfl (by omega) dL_isDone_41 hL (v := (nI it)) z1 ?_ | refine g_ildr Rw.a rfl (by omega) rfl (by omega) dL_isDone_41 hL (v := (nI it)) z1 ?_ | refine g_ildr Rw.b rfl (by omega) rfl (by omega) dL_isDone_41 hL (v := (nI it)) z1 ?_ | refine g_ildr Rw.c rfl (by omega) rfl (by omega) dL_isDone_41 hL (v := (nI it)) z1 ?_
    refine g_ist9 (by decide) dL_isDone_42 ?_
    refine g_ald4 dL_isDone_44 ?_
    refine g_bipush (v := nI 6) dL_isDone_46 (by decide +kernel) ?_
    show Go _ _ _ _ _ _ 48 _ _
    refine g_ild7 dL_isDone_48 ?_
    first | refine g_imul_n dL_isDone_50 ?_ | refine g_imul dL_isDone_50 ?_
    refine g_iconst (v := nI 5) dL_isDone_51 (by decide +kernel) ?_
    first | refine g_iadd_n dL_isDone_52 ?_ | refine g_iadd dL_isDone_52 ?_
    first | refine g_ildr Rw.g rfl (by omega) rfl (by omega) dL_isDone_53 hL (v := (nI k)) z3 ?_ | refine g_ildr Rw.t rfl (by omega) rfl (by omega) dL_isDone_53 hL (v := (nI k)) z3 ?_ | refine g_ildr Rw.d rfl (by omega) rfl (by omega) dL_isDone_53 hL (v := (nI k)) z3 ?_ | refine g_ildr Rw.a rfl (by omega) rfl (by omega) dL_isDone_53 hL (v := (nI k)) z3 ?_ | refine g_ildr Rw.b rfl (by omega) rfl (by omega) dL_isDone_53 hL (v := (nI k)) z3 ?_ | refine g_ildr Rw.c rfl (by omega) rfl (by omega) dL_isDone_53 hL (v := (nI k)) z3 ?_
    refine g_ist10 (by decide) dL_isDone_54 ?_
    show Go _ _ _ _ _ _ 56 _ _
    refine g_ald4 dL_isDone_56 ?_
    refine g_bipush (v := nI 6) dL_isDone_58 (by decide +kernel) ?_
    refine g_ild7 dL_isDone_60 ?_
    first | refine g_imul_n dL_isDone_62 ?_ | refine g_imul dL_isDone_62 ?_
    refine g_iconst (v := nI 4) dL_isDone_63 (by decide +kernel) ?_
    first | refine g_iadd_n dL_isDone_64 ?_ | refine g_iadd dL_isDone_64 ?_
    show Go _ _ _ _ _ _ 65 _ _
    first | refine g_ildr Rw.g rfl (by omega) rfl (by omega) dL_isDone_65 hL (v := (nI q)) h4 ?_ | refine g_ildr Rw.t rfl (by omega) rfl (by omega) dL_isDone_65 hL (v := (nI q)) h4 ?_ | refine g_ildr Rw.d rfl (by omega) rfl (by omega) dL_isDone_65 hL (v := (nI q)) h4 ?_ | refine g_ildr Rw.a rfl (by omega) rfl (by omega) dL_isDone_65 hL (v := (nI q)) h4 ?_ | refine g_ildr Rw.b rfl (by omega) rfl (by omega) dL_isDone_65 hL (v := (nI q)) h4 ?_ | refine g_ildr Rw.c rfl (by omega) rfl (by omega) dL_isDone_65 hL (v := (nI q)) h4 ?_
    refine g_ist11 (by decide) dL_isDone_66 ?_
    exact k68
  · have hz : M.1 3 (6 * j) = nI 1 := z
    obtain ⟨s, hs, hs2⟩ := hsl k hk
    have k68 : Go G mL_isDone 456 (rI (fun r h' => r = (mStep M j it k).2 ∧ Lw h' (mStep M j it k).1 ∧ KR h h')) h 456 68 [some (ga G 449), some (ga G 450), some (ga G 451), some (ga G 452), some (ga G 453), some (ga G 454), some (ga G 455), some (.int (nI j)), some (.int (nI 1)), some (.int (nI it)), some (.int (nI k)), some (.int (nI q))] [] := by
      obtain rfl | rfl | rfl | rfl | rfl | rfl | rfl | rfl : q = 0 ∨ q = 1 ∨ q = 2 ∨ q = 3 ∨ q = 4 ∨ q = 5 ∨ q = 6 ∨ q = 7 := by omega
      · rw [ms06 (Or.inl h4)]
        refine g_ild11 dL_isDone_68 ?_
        refine g_if_eq_t (tgt := 80) dL_isDone_70 (by decide) rfl ?_
        refine g_ald0 dL_isDone_80 ?_
        refine g_ald1 dL_isDone_81 ?_
        refine g_ald3 dL_isDone_82 ?_
        show Go _ _ _ _ _ _ 83 _ _
        refine g_ald5 dL_isDone_83 ?_
        refine g_ald1 dL_isDone_85 ?_
        refine g_bipush (v := nI 6) dL_isDone_86 (by decide +kernel) ?_
        refine g_ild9 dL_isDone_88 ?_
        first | refine g_imul_n dL_isDone_90 ?_ | refine g_imul dL_isDone_90 ?_
        refine g_iconst (v := nI 1) dL_isDone_91 (by decide +kernel) ?_
        show Go _ _ _ _ _ _ 92 _ _
        first | refine g_iadd_n dL_isDone_92 ?_ | refine g_iadd dL_isDone_92 ?_
        first | refine g_ildr Rw.g rfl (by omega) rfl (by omega) dL_isDone_93 hL (v := (nI (hm M it))) m2 ?_ | refine g_ildr Rw.t rfl (by omega) rfl (by omega) dL_isDone_93 hL (v := (nI (hm M it))) m2 ?_ | refine g_ildr Rw.d rfl (by omega) rfl (by omega) dL_isDone_93 hL (v := (nI (hm M it))) m2 ?_ | refine g_ildr Rw.a rfl (by omega) rfl (by omega) dL_isDone_93 hL (v := (nI (hm M it))) m2 ?_ | refine g_ildr Rw.b rfl (by omega) rfl (by omega) dL_isDone_93 hL (v := (nI (hm M it))) m2 ?_ | refine g_ildr Rw.c rfl (by omega) rfl (by omega) dL_isDone_93 hL (v := (nI (hm M it))) m2 ?_
        refine g_callS5 (l_isThere (h := h) M ni nd nj j (hm M it) hL hI hhd m1 hj9 h3) mw_4_3 ok_L_isThere ⟨by decide, by decide⟩ (by omega) (by omega) (Nat.le_of_ble_eq_true rfl) dL_isDone_94 (rI_K ?_)
        intro r h' hr
        exact g_zret (nb (by rw [hr.1]; exact hb _)) rfl dL_isDone_97 ⟨r, rfl, hr⟩
      · rw [ms1 h4]
        refine g_ild11 dL_isDone_68 ?_
        refine g_if_eq_f (tgt := 80) dL_isDone_70 (by decide) (by decide) ?_
        refine g_ild11 dL_isDone_73 ?_
        refine g_bipush (v := nI 6) dL_isDone_75 (by decide +kernel) ?_
        refine g_icmp_ne_t (tgt := 98) dL_isDone_77 (by decide) (by decide) ?_
        show Go _ _ _ _ _ _ 98 _ _
        refine g_ild11 dL_isDone_98 ?_
        refine g_iconst (v := nI 2) dL_isDone_100 (by decide +kernel) ?_
        refine g_icmp_ne_t (tgt := 139) dL_isDone_101 (by decide) (by decide) ?_
        refine g_ild11 dL_isDone_139 ?_
        refine g_iconst (v := nI 1) dL_isDone_141 (by decide +kernel) ?_
        refine g_icmp_eq_t (tgt := 151) dL_isDone_142 (by decide) (by decide) ?_
        show Go _ _ _ _ _ _ 151 _ _
        refine g_ald0 dL_isDone_151 ?_
        refine g_ald1 dL_isDone_152 ?_
        refine g_ald2 dL_isDone_153 ?_
        refine g_ild9 dL_isDone_154 ?_
        refine g_iconst (v := nI 1) dL_isDone_156 (by decide +kernel) ?_
        refine g_ild11 dL_isDone_157 ?_
        show Go _ _ _ _ _ _ 159 _ _
        refine g_iconst (v := nI 5) dL_isDone_159 (by decide +kernel) ?_
        refine g_icmp_ne_t (tgt := 168) dL_isDone_160 (by decide) (by decide) ?_
        refine g_bipush (v := -5) dL_isDone_168 (by decide +kernel) ?_
        refine g_callS6 (l_puts_take (h := h) M it k hL (by omega) (by omega)) mw_4_8 ok_L_puts ⟨by decide, by decide⟩ (by omega) (by omega) (Nat.le_of_ble_eq_true rfl) dL_isDone_170 (rI_K ?_)
        rintro r h' ⟨rfl, hr⟩
        exact g_zret rfl rfl dL_isDone_173 ⟨1, rfl, rfl, hr⟩
      · rw [ms2 h4, if_neg (by rw [z]; decide), hs2, nI_clamp (by omega)]
        refine g_ild11 dL_isDone_68 ?_
        refine g_if_eq_f (tgt := 80) dL_isDone_70 (by decide) (by decide) ?_
        refine g_ild11 dL_isDone_73 ?_
        refine g_bipush (v := nI 6) dL_isDone_75 (by decide +kernel) ?_
        refine g_icmp_ne_t (tgt := 98) dL_isDone_77 (by decide) (by decide) ?_
        show Go _ _ _ _ _ _ 98 _ _
        refine g_ild11 dL_isDone_98 ?_
        refine g_iconst (v := nI 2) dL_isDone_100 (by decide +kernel) ?_
        refine g_icmp_ne_f (tgt := 139) dL_isDone_101 (by decide) (by decide) ?_
        refine g_ald0 dL_isDone_104 ?_
        refine g_ald1 dL_isDone_105 ?_
        refine g_ald3 dL_isDone_106 ?_
        show Go _ _ _ _ _ _ 107 _ _
        refine g_ald5 dL_isDone_107 ?_
        refine g_ild8 dL_isDone_109 ?_
        refine g_iconst (v := nI 2) dL_isDone_111 (by decide +kernel) ?_
        refine g_icmp_ne_t (tgt := 128) dL_isDone_112 (by decide) (by decide) ?_
        refine g_ald2 dL_isDone_128 ?_
        refine g_bipush (v := nI 7) dL_isDone_129 (by decide +kernel) ?_
        show Go _ _ _ _ _ _ 131 _ _
        refine g_ild10 dL_isDone_131 ?_
        first | refine g_imul_n dL_isDone_133 ?_ | refine g_imul dL_isDone_133 ?_
        first | refine g_ildr Rw.g rfl (by omega) rfl (by omega) dL_isDone_134 hL (v := (nI s)) hs2 ?_ | refine g_ildr Rw.t rfl (by omega) rfl (by omega) dL_isDone_134 hL (v := (nI s)) hs2 ?_ | refine g_ildr Rw.d rfl (by omega) rfl (by omega) dL_isDone_134 hL (v := (nI s)) hs2 ?_ | refine g_ildr Rw.a rfl (by omega) rfl (by omega) dL_isDone_134 hL (v := (nI s)) hs2 ?_ | refine g_ildr Rw.b rfl (by omega) rfl (by omega) dL_isDone_134 hL (v := (nI s)) hs2 ?_ | refine g_ildr Rw.c rfl (by omega) rfl (by omega) dL_isDone_134 hL (v := (nI s)) hs2 ?_
        refine g_callS5 (l_isThere (h := h) M ni nd nj j s hL hI hhd hs hj9 h3) mw_4_3 ok_L_isThere ⟨by decide, by decide⟩ (by omega) (by omega) (Nat.le_of_ble_eq_true rfl) dL_isDone_135 (rI_K ?_)
        intro r h' hr
        exact g_zret (nb (by rw [hr.1]; exact hb _)) rfl dL_isDone_138 ⟨r, rfl, hr⟩
      · rw [ms3 h4, if_neg (by rw [z]; decide)]
        refine g_ild11 dL_isDone_68 ?_
        refine g_if_eq_f (tgt := 80) dL_isDone_70 (by decide) (by decide) ?_
        refine g_ild11 dL_isDone_73 ?_
        refine g_bipush (v := nI 6) dL_isDone_75 (by decide +kernel) ?_
        refine g_icmp_ne_t (tgt := 98) dL_isDone_77 (by decide) (by decide) ?_
        show Go _ _ _ _ _ _ 98 _ _
        refine g_ild11 dL_isDone_98 ?_
        refine g_iconst (v := nI 2) dL_isDone_100 (by decide +kernel) ?_
        refine g_icmp_ne_t (tgt := 139) dL_isDone_101 (by decide) (by decide) ?_
        refine g_ild11 dL_isDone_139 ?_
        refine g_iconst (v := nI 1) dL_isDone_141 (by decide +kernel) ?_
        refine g_icmp_eq_f (tgt := 151) dL_isDone_142 (by decide) (by decide) ?_
        show Go _ _ _ _ _ _ 145 _ _
        refine g_ild11 dL_isDone_145 ?_
        refine g_iconst (v := nI 5) dL_isDone_147 (by decide +kernel) ?_
        refine g_icmp_ne_t (tgt := 174) dL_isDone_148 (by decide) (by decide) ?_
        refine g_ild11 dL_isDone_174 ?_
        refine g_bipush (v := nI 7) dL_isDone_176 (by decide +kernel) ?_
        refine g_icmp_ne_t (tgt := 193) dL_isDone_178 (by decide) (by decide) ?_
        show Go _ _ _ _ _ _ 193 _ _
        refine g_ild11 dL_isDone_193 ?_
        refine g_iconst (v := nI 3) dL_isDone_195 (by decide +kernel) ?_
        refine g_icmp_ne_f (tgt := 258) dL_isDone_196 (by decide) (by decide) ?_
        refine g_ald1 dL_isDone_199 ?_
        refine g_bipush (v := nI 6) dL_isDone_200 (by decide +kernel) ?_
        refine g_ild9 dL_isDone_202 ?_
        show Go _ _ _ _ _ _ 204 _ _
        first | refine g_imul_n dL_isDone_204 ?_ | refine g_imul dL_isDone_204 ?_
        refine g_iconst (v := nI 1) dL_isDone_205 (by decide +kernel) ?_
        first | refine g_iadd_n dL_isDone_206 ?_ | refine g_iadd dL_isDone_206 ?_
        refine g_ild8 dL_isDone_207 ?_
        refine g_iconst (v := nI 2) dL_isDone_209 (by decide +kernel) ?_
        refine g_icmp_ne_t (tgt := 226) dL_isDone_210 (by decide) (by decide) ?_
        show Go _ _ _ _ _ _ 226 _ _
        refine g_ald1 dL_isDone_226 ?_
        refine g_bipush (v := nI 6) dL_isDone_227 (by decide +kernel) ?_
        refine g_ild9 dL_isDone_229 ?_
        first | refine g_imul_n dL_isDone_231 ?_ | refine g_imul dL_isDone_231 ?_
        refine g_iconst (v := nI 1) dL_isDone_232 (by decide +kernel) ?_
        first | refine g_iadd_n dL_isDone_233 ?_ | refine g_iadd dL_isDone_233 ?_
        show Go _ _ _ _ _ _ 234 _ _
        first | refine g_ildr Rw.g rfl (by omega) rfl (by omega) dL_isDone_234 hL rfl ?_ | refine g_ildr Rw.t rfl (by omega) rfl (by omega) dL_isDone_234 hL rfl ?_ | refine g_ildr Rw.d rfl (by omega) rfl (by omega) dL_isDone_234 hL rfl ?_ | refine g_ildr Rw.a rfl (by omega) rfl (by omega) dL_isDone_234 hL rfl ?_ | refine g_ildr Rw.b rfl (by omega) rfl (by omega) dL_isDone_234 hL rfl ?_ | refine g_ildr Rw.c rfl (by omega) rfl (by omega) dL_isDone_234 hL rfl ?_
        first | refine g_istr Rw.g rfl (by omega) rfl (by omega) dL_isDone_235 hL hK ?_ | refine g_istr Rw.t rfl (by omega) rfl (by omega) dL_isDone_235 hL hK ?_ | refine g_istr Rw.d rfl (by omega) rfl (by omega) dL_isDone_235 hL hK ?_ | refine g_istr Rw.a rfl (by omega) rfl (by omega) dL_isDone_235 hL hK ?_ | refine g_istr Rw.b rfl (by omega) rfl (by omega) dL_isDone_235 hL hK ?_ | refine g_istr Rw.c rfl (by omega) rfl (by omega) dL_isDone_235 hL hK ?_
        intro h hL hK
        rw [up_same] at hL
        refine g_ald0 dL_isDone_236 ?_
        refine g_ald1 dL_isDone_237 ?_
        refine g_ald2 dL_isDone_238 ?_
        refine g_ild9 dL_isDone_239 ?_
        show Go _ _ _ _ _ _ 241 _ _
        refine g_ild8 dL_isDone_241 ?_
        refine g_iconst (v := nI 2) dL_isDone_243 (by decide +kernel) ?_
        refine g_icmp_ne_t (tgt := 251) dL_isDone_244 (by decide) (by decide) ?_
        refine g_iconst (v := nI 2) dL_isDone_251 (by decide +kernel) ?_
        refine g_ild10 dL_isDone_252 ?_
        refine g_callS6 (l_puts_load (h := h) M it k hL (by omega) (by omega)) mw_4_8 ok_L_puts ⟨by decide, by decide⟩ (by omega) (by omega) (Nat.le_of_ble_eq_true rfl) dL_isDone_254 (rI_K ?_)
        rintro r h' ⟨rfl, hr⟩
        show Go _ _ _ _ _ _ 257 _ _
        exact g_zret rfl rfl dL_isDone_257 ⟨1, rfl, rfl, hr.1, hK.tr hr.2⟩
      · rw [ms4 h4, if_neg (by rw [z]; decide)]
        obtain ⟨g1, g2⟩ := hf.1 k hk
        refine g_ild11 dL_isDone_68 ?_
        refine g_if_eq_f (tgt := 80) dL_isDone_70 (by decide) (by decide) ?_
        refine g_ild11 dL_isDone_73 ?_
        refine g_bipush (v := nI 6) dL_isDone_75 (by decide +kernel) ?_
        refine g_icmp_ne_t (tgt := 98) dL_isDone_77 (by decide) (by decide) ?_
        show Go _ _ _ _ _ _ 98 _ _
        refine g_ild11 dL_isDone_98 ?_
        refine g_iconst (v := nI 2) dL_isDone_100 (by decide +kernel) ?_
        refine g_icmp_ne_t (tgt := 139) dL_isDone_101 (by decide) (by decide) ?_
        refine g_ild11 dL_isDone_139 ?_
        refine g_iconst (v := nI 1) dL_isDone_141 (by decide +kernel) ?_
        refine g_icmp_eq_f (tgt := 151) dL_isDone_142 (by decide) (by decide) ?_
        show Go _ _ _ _ _ _ 145 _ _
        refine g_ild11 dL_isDone_145 ?_
        refine g_iconst (v := nI 5) dL_isDone_147 (by decide +kernel) ?_
        refine g_icmp_ne_t (tgt := 174) dL_isDone_148 (by decide) (by decide) ?_
        refine g_ild11 dL_isDone_174 ?_
        refine g_bipush (v := nI 7) dL_isDone_176 (by decide +kernel) ?_
        refine g_icmp_ne_t (tgt := 193) dL_isDone_178 (by decide) (by decide) ?_
        show Go _ _ _ _ _ _ 193 _ _
        refine g_ild11 dL_isDone_193 ?_
        refine g_iconst (v := nI 3) dL_isDone_195 (by decide +kernel) ?_
        refine g_icmp_ne_t (tgt := 258) dL_isDone_196 (by decide) (by decide) ?_
        refine g_ild8 dL_isDone_258 ?_
        refine g_if_ne_t (tgt := 279) dL_isDone_260 (by decide) (by decide) ?_
        refine g_ald3 dL_isDone_279 ?_
        show Go _ _ _ _ _ _ 280 _ _
        refine g_iconst (v := nI 2) dL_isDone_280 (by decide +kernel) ?_
        refine g_ild10 dL_isDone_281 ?_
        first | refine g_imul_n dL_isDone_283 ?_ | refine g_imul dL_isDone_283 ?_
        refine g_ald3 dL_isDone_284 ?_
        refine g_iconst (v := nI 2) dL_isDone_285 (by decide +kernel) ?_
        refine g_ild10 dL_isDone_286 ?_
        show Go _ _ _ _ _ _ 288 _ _
        first | refine g_imul_n dL_isDone_288 ?_ | refine g_imul dL_isDone_288 ?_
        refine g_dldr rfl (by omega) rfl (by omega) dL_isDone_289 hL rfl ?_
        refine g_d2f dL_isDone_290 (by rw [fl_rt g1]; exact fl_n32 g1) (fl_rt g1) ?_
        refine g_ldcf mw_4_14 dL_isDone_291 ?_
        refine g_fmul dL_isDone_293 (fl_n32 (fl_mul8 g1)) ?_
        refine g_f2d dL_isDone_294 (fl_n64 (fl_mul8 g1)) ?_
        show Go _ _ _ _ _ _ 295 _ _
        refine g_dstr rfl (by omega) rfl (by omega) dL_isDone_295 hL hK ?_
        intro h hL hK
        refine g_ald2 dL_isDone_296 ?_
        refine g_bipush (v := nI 7) dL_isDone_297 (by decide +kernel) ?_
        refine g_ild10 dL_isDone_299 ?_
        first | refine g_imul_n dL_isDone_301 ?_ | refine g_imul dL_isDone_301 ?_
        refine g_iconst (v := nI 5) dL_isDone_302 (by decide +kernel) ?_
        show Go _ _ _ _ _ _ 303 _ _
        first | refine g_iadd_n dL_isDone_303 ?_ | refine g_iadd dL_isDone_303 ?_
        refine g_dup2 dL_isDone_304 rfl rfl ?_
        first | refine g_ildr Rw.g rfl (by omega) rfl (by omega) dL_isDone_305 hL (v := (M.1 2 (7 * k + 5))) (by simp (disch := omega) only [uf_i]) ?_ | refine g_ildr Rw.t rfl (by omega) rfl (by omega) dL_isDone_305 hL (v := (M.1 2 (7 * k + 5))) (by simp (disch := omega) only [uf_i]) ?_ | refine g_ildr Rw.d rfl (by omega) rfl (by omega) dL_isDone_305 hL (v := (M.1 2 (7 * k + 5))) (by simp (disch := omega) only [uf_i]) ?_ | refine g_ildr Rw.a rfl (by omega) rfl (by omega) dL_isDone_305 hL (v := (M.1 2 (7 * k + 5))) (by simp (disch := omega) only [uf_i]) ?_ | refine g_ildr Rw.b rfl (by omega) rfl (by omega) dL_isDone_305 hL (v := (M.1 2 (7 * k + 5))) (by simp (disch := omega) only [uf_i]) ?_ | refine g_ildr Rw.c rfl (by omega) rfl (by omega) dL_isDone_305 hL (v := (M.1 2 (7 * k + 5))) (by simp (disch := omega) only [uf_i]) ?_
        refine g_iconst (v := nI 1) dL_isDone_306 (by decide +kernel) ?_
        refine g_iadd dL_isDone_307 ?_
        first | refine g_istr Rw.g rfl (by omega) rfl (by omega) dL_isDone_308 hL hK ?_ | refine g_istr Rw.t rfl (by omega) rfl (by omega) dL_isDone_308 hL hK ?_ | refine g_istr Rw.d rfl (by omega) rfl (by omega) dL_isDone_308 hL hK ?_ | refine g_istr Rw.a rfl (by omega) rfl (by omega) dL_isDone_308 hL hK ?_ | refine g_istr Rw.b rfl (by omega) rfl (by omega) dL_isDone_308 hL hK ?_ | refine g_istr Rw.c rfl (by omega) rfl (by omega) dL_isDone_308 hL hK ?_
        intro h hL hK
        show Go _ _ _ _ _ _ 309 _ _
        refine g_ald1 dL_isDone_309 ?_
        refine g_bipush (v := nI 6) dL_isDone_310 (by decide +kernel) ?_
        refine g_ild9 dL_isDone_312 ?_
        first | refine g_imul_n dL_isDone_314 ?_ | refine g_imul dL_isDone_314 ?_
        refine g_iconst (v := nI 3) dL_isDone_315 (by decide +kernel) ?_
        first | refine g_iadd_n dL_isDone_316 ?_ | refine g_iadd dL_isDone_316 ?_
        show Go _ _ _ _ _ _ 317 _ _
        refine g_dup2 dL_isDone_317 rfl rfl ?_
        first | refine g_ildr Rw.g rfl (by omega) rfl (by omega) dL_isDone_318 hL (v := (M.1 1 (6 * it + 3))) (by simp (disch := omega) only [up_ne, uf_i]) ?_ | refine g_ildr Rw.t rfl (by omega) rfl (by omega) dL_isDone_318 hL (v := (M.1 1 (6 * it + 3))) (by simp (disch := omega) only [up_ne, uf_i]) ?_ | refine g_ildr Rw.d rfl (by omega) rfl (by omega) dL_isDone_318 hL (v := (M.1 1 (6 * it + 3))) (by simp (disch := omega) only [up_ne, uf_i]) ?_ | refine g_ildr Rw.a rfl (by omega) rfl (by omega) dL_isDone_318 hL (v := (M.1 1 (6 * it + 3))) (by simp (disch := omega) only [up_ne, uf_i]) ?_ | refine g_ildr Rw.b rfl (by omega) rfl (by omega) dL_isDone_318 hL (v := (M.1 1 (6 * it + 3))) (by simp (disch := omega) only [up_ne, uf_i]) ?_ | refine g_ildr Rw.c rfl (by omega) rfl (by omega) dL_isDone_318 hL (v := (M.1 1 (6 * it + 3))) (by simp (disch := omega) only [up_ne, uf_i]) ?_
        refine g_iconst (v := nI 1) dL_isDone_319 (by decide +kernel) ?_
        refine g_isub dL_isDone_320 ?_
        first | refine g_istr Rw.g rfl (by omega) rfl (by omega) dL_isDone_321 hL hK ?_ | refine g_istr Rw.t rfl (by omega) rfl (by omega) dL_isDone_321 hL hK ?_ | refine g_istr Rw.d rfl (by omega) rfl (by omega) dL_isDone_321 hL hK ?_ | refine g_istr Rw.a rfl (by omega) rfl (by omega) dL_isDone_321 hL hK ?_ | refine g_istr Rw.b rfl (by omega) rfl (by omega) dL_isDone_321 hL hK ?_ | refine g_istr Rw.c rfl (by omega) rfl (by omega) dL_isDone_321 hL hK ?_
        intro h hL hK
        refine g_ald0 dL_isDone_322 ?_
        show Go _ _ _ _ _ _ 323 _ _
        refine g_bipush (v := nI 14) dL_isDone_323 (by decide +kernel) ?_
        refine g_dup2 dL_isDone_325 rfl rfl ?_
        first | refine g_ildr Rw.g rfl (by omega) rfl (by omega) dL_isDone_326 hL (v := (M.1 0 14)) (by simp (disch := omega) only [up_ne, uf_i]) ?_ | refine g_ildr Rw.t rfl (by omega) rfl (by omega) dL_isDone_326 hL (v := (M.1 0 14)) (by simp (disch := omega) only [up_ne, uf_i]) ?_ | refine g_ildr Rw.d rfl (by omega) rfl (by omega) dL_isDone_326 hL (v := (M.1 0 14)) (by simp (disch := omega) only [up_ne, uf_i]) ?_ | refine g_ildr Rw.a rfl (by omega) rfl (by omega) dL_isDone_326 hL (v := (M.1 0 14)) (by simp (disch := omega) only [up_ne, uf_i]) ?_ | refine g_ildr Rw.b rfl (by omega) rfl (by omega) dL_isDone_326 hL (v := (M.1 0 14)) (by simp (disch := omega) only [up_ne, uf_i]) ?_ | refine g_ildr Rw.c rfl (by omega) rfl (by omega) dL_isDone_326 hL (v := (M.1 0 14)) (by simp (disch := omega) only [up_ne, uf_i]) ?_
        refine g_iconst (v := nI 1) dL_isDone_327 (by decide +kernel) ?_
        refine g_iadd dL_isDone_328 ?_
        first | refine g_istr Rw.g rfl (by omega) rfl (by omega) dL_isDone_329 hL hK ?_ | refine g_istr Rw.t rfl (by omega) rfl (by omega) dL_isDone_329 hL hK ?_ | refine g_istr Rw.d rfl (by omega) rfl (by omega) dL_isDone_329 hL hK ?_ | refine g_istr Rw.a rfl (by omega) rfl (by omega) dL_isDone_329 hL hK ?_ | refine g_istr Rw.b rfl (by omega) rfl (by omega) dL_isDone_329 hL hK ?_ | refine g_istr Rw.c rfl (by omega) rfl (by omega) dL_isDone_329 hL hK ?_
        intro h hL hK
        show Go _ _ _ _ _ _ 330 _ _
        refine g_iconst (v := nI 1) dL_isDone_330 (by decide +kernel) ?_
        exact g_zret rfl rfl dL_isDone_331 ⟨1, rfl, rfl, hL, hK⟩
      · rw [ms5 h4]
        refine g_ild11 dL_isDone_68 ?_
        refine g_if_eq_f (tgt := 80) dL_isDone_70 (by decide) (by decide) ?_
        refine g_ild11 dL_isDone_73 ?_
        refine g_bipush (v := nI 6) dL_isDone_75 (by decide +kernel) ?_
        refine g_icmp_ne_t (tgt := 98) dL_isDone_77 (by decide) (by decide) ?_
        show Go _ _ _ _ _ _ 98 _ _
        refine g_ild11 dL_isDone_98 ?_
        refine g_iconst (v := nI 2) dL_isDone_100 (by decide +kernel) ?_
        refine g_icmp_ne_t (tgt := 139) dL_isDone_101 (by decide) (by decide) ?_
        refine g_ild11 dL_isDone_139 ?_
        refine g_iconst (v := nI 1) dL_isDone_141 (by decide +kernel) ?_
        refine g_icmp_eq_f (tgt := 151) dL_isDone_142 (by decide) (by decide) ?_
        show Go _ _ _ _ _ _ 145 _ _
        refine g_ild11 dL_isDone_145 ?_
        refine g_iconst (v := nI 5) dL_isDone_147 (by decide +kernel) ?_
        refine g_icmp_ne_f (tgt := 174) dL_isDone_148 (by decide) (by decide) ?_
        refine g_ald0 dL_isDone_151 ?_
        refine g_ald1 dL_isDone_152 ?_
        refine g_ald2 dL_isDone_153 ?_
        show Go _ _ _ _ _ _ 154 _ _
        refine g_ild9 dL_isDone_154 ?_
        refine g_iconst (v := nI 1) dL_isDone_156 (by decide +kernel) ?_
        refine g_ild11 dL_isDone_157 ?_
        refine g_iconst (v := nI 5) dL_isDone_159 (by decide +kernel) ?_
        refine g_icmp_ne_f (tgt := 168) dL_isDone_160 (by decide) (by decide) ?_
        refine g_ild10 dL_isDone_163 ?_
        show Go _ _ _ _ _ _ 165 _ _
        refine g_goto (tgt := 170) dL_isDone_165 (by decide) ?_
        refine g_callS6 (l_puts_unload (h := h) M it k hL (by omega) (by omega)) mw_4_8 ok_L_puts ⟨by decide, by decide⟩ (by omega) (by omega) (Nat.le_of_ble_eq_true rfl) dL_isDone_170 (rI_K ?_)
        rintro r h' ⟨rfl, hr⟩
        exact g_zret rfl rfl dL_isDone_173 ⟨1, rfl, rfl, hr⟩
      · rw [ms06 (Or.inr h4)]
        refine g_ild11 dL_isDone_68 ?_
        refine g_if_eq_f (tgt := 80) dL_isDone_70 (by decide) (by decide) ?_
        refine g_ild11 dL_isDone_73 ?_
        refine g_bipush (v := nI 6) dL_isDone_75 (by decide +kernel) ?_
        refine g_icmp_ne_f (tgt := 98) dL_isDone_77 (by decide) (by decide) ?_
        show Go _ _ _ _ _ _ 80 _ _
        refine g_ald0 dL_isDone_80 ?_
        refine g_ald1 dL_isDone_81 ?_
        refine g_ald3 dL_isDone_82 ?_
        refine g_ald5 dL_isDone_83 ?_
        refine g_ald1 dL_isDone_85 ?_
        refine g_bipush (v := nI 6) dL_isDone_86 (by decide +kernel) ?_
        show Go _ _ _ _ _ _ 88 _ _
        refine g_ild9 dL_isDone_88 ?_
        first | refine g_imul_n dL_isDone_90 ?_ | refine g_imul dL_isDone_90 ?_
        refine g_iconst (v := nI 1) dL_isDone_91 (by decide +kernel) ?_
        first | refine g_iadd_n dL_isDone_92 ?_ | refine g_iadd dL_isDone_92 ?_
        first | refine g_ildr Rw.g rfl (by omega) rfl (by omega) dL_isDone_93 hL (v := (nI (hm M it))) m2 ?_ | refine g_ildr Rw.t rfl (by omega) rfl (by omega) dL_isDone_93 hL (v := (nI (hm M it))) m2 ?_ | refine g_ildr Rw.d rfl (by omega) rfl (by omega) dL_isDone_93 hL (v := (nI (hm M it))) m2 ?_ | refine g_ildr Rw.a rfl (by omega) rfl (by omega) dL_isDone_93 hL (v := (nI (hm M it))) m2 ?_ | refine g_ildr Rw.b rfl (by omega) rfl (by omega) dL_isDone_93 hL (v := (nI (hm M it))) m2 ?_ | refine g_ildr Rw.c rfl (by omega) rfl (by omega) dL_isDone_93 hL (v := (nI (hm M it))) m2 ?_
        refine g_callS5 (l_isThere (h := h) M ni nd nj j (hm M it) hL hI hhd m1 hj9 h3) mw_4_3 ok_L_isThere ⟨by decide, by decide⟩ (by omega) (by omega) (Nat.le_of_ble_eq_true rfl) dL_isDone_94 (rI_K ?_)
        intro r h' hr
        show Go _ _ _ _ _ _ 97 _ _
        exact g_zret (nb (by rw [hr.1]; exact hb _)) rfl dL_isDone_97 ⟨r, rfl, hr⟩
      · rw [ms7 h4]
        refine g_ild11 dL_isDone_68 ?_
        refine g_if_eq_f (tgt := 80) dL_isDone_70 (by decide) (by decide) ?_
        refine g_ild11 dL_isDone_73 ?_
        refine g_bipush (v := nI 6) dL_isDone_75 (by decide +kernel) ?_
        refine g_icmp_ne_t (tgt := 98) dL_isDone_77 (by decide) (by decide) ?_
        show Go _ _ _ _ _ _ 98 _ _
        refine g_ild11 dL_isDone_98 ?_
        refine g_iconst (v := nI 2) dL_isDone_100 (by decide +kernel) ?_
        refine g_icmp_ne_t (tgt := 139) dL_isDone_101 (by decide) (by decide) ?_
        refine g_ild11 dL_isDone_139 ?_
        refine g_iconst (v := nI 1) dL_isDone_141 (by decide +kernel) ?_
        refine g_icmp_eq_f (tgt := 151) dL_isDone_142 (by decide) (by decide) ?_
        show Go _ _ _ _ _ _ 145 _ _
        refine g_ild11 dL_isDone_145 ?_
        refine g_iconst (v := nI 5) dL_isDone_147 (by decide +kernel) ?_
        refine g_icmp_ne_t (tgt := 174) dL_isDone_148 (by decide) (by decide) ?_
        refine g_ild11 dL_isDone_174 ?_
        refine g_bipush (v := nI 7) dL_isDone_176 (by decide +kernel) ?_
        refine g_icmp_ne_f (tgt := 193) dL_isDone_178 (by decide) (by decide) ?_
        show Go _ _ _ _ _ _ 181 _ _
        refine g_ald0 dL_isDone_181 ?_
        refine g_ald1 dL_isDone_182 ?_
        refine g_ald2 dL_isDone_183 ?_
        refine g_ild9 dL_isDone_184 ?_
        refine g_iconst (v := nI 0) dL_isDone_186 (by decide +kernel) ?_
        refine g_bipush (v := -5) dL_isDone_187 (by decide +kernel) ?_
        show Go _ _ _ _ _ _ 189 _ _
        refine g_callS6 (l_puts_home (h := h) M it k hL (by omega) (by omega)) mw_4_8 ok_L_puts ⟨by decide, by decide⟩ (by omega) (by omega) (Nat.le_of_ble_eq_true rfl) dL_isDone_189 (rI_K ?_)
        rintro r h' ⟨rfl, hr⟩
        exact g_zret rfl rfl dL_isDone_192 ⟨1, rfl, rfl, hr⟩
    refine g_ald0 dL_isDone_0 ?_
    refine g_iconst (v := nI 3) dL_isDone_1 (by decide +kernel) ?_
    first | refine g_ildr Rw.g rfl (by omega) rfl (by omega) dL_isDone_2 hL (v := (nI j)) h3 ?_ | refine g_ildr Rw.t rfl (by omega) rfl (by omega) dL_isDone_2 hL (v := (nI j)) h3 ?_ | refine g_ildr Rw.d rfl (by omega) rfl (by omega) dL_isDone_2 hL (v := (nI j)) h3 ?_ | refine g_ildr Rw.a rfl (by omega) rfl (by omega) dL_isDone_2 hL (v := (nI j)) h3 ?_ | refine g_ildr Rw.b rfl (by omega) rfl (by omega) dL_isDone_2 hL (v := (nI j)) h3 ?_ | refine g_ildr Rw.c rfl (by omega) rfl (by omega) dL_isDone_2 hL (v := (nI j)) h3 ?_
    refine g_ist7 (by decide) dL_isDone_3 ?_
    refine g_ald4 dL_isDone_5 ?_
    show Go _ _ _ _ _ _ 7 _ _
    refine g_bipush (v := nI 6) dL_isDone_7 (by decide +kernel) ?_
    refine g_ild7 dL_isDone_9 ?_
    first | refine g_imul_n dL_isDone_11 ?_ | refine g_imul dL_isDone_11 ?_
    first | refine g_ildr Rw.g rfl (by omega) rfl (by omega) dL_isDone_12 hL (v := (nI 1)) hz ?_ | refine g_ildr Rw.t rfl (by omega) rfl (by omega) dL_isDone_12 hL (v := (nI 1)) hz ?_ | refine g_ildr Rw.d rfl (by omega) rfl (by omega) dL_isDone_12 hL (v := (nI 1)) hz ?_ | refine g_ildr Rw.a rfl (by omega) rfl (by omega) dL_isDone_12 hL (v := (nI 1)) hz ?_ | refine g_ildr Rw.b rfl (by omega) rfl (by omega) dL_isDone_12 hL (v := (nI 1)) hz ?_ | refine g_ildr Rw.c rfl (by omega) rfl (by omega) dL_isDone_12 hL (v := (nI 1)) hz ?_
    refine g_ist8 (by decide) dL_isDone_13 ?_
    refine g_ild8 dL_isDone_15 ?_
    show Go _ _ _ _ _ _ 17 _ _
    refine g_iconst (v := nI 1) dL_isDone_17 (by decide +kernel) ?_
    refine g_icmp_ne_f (tgt := 32) dL_isDone_18 (by decide) (by decide) ?_
    refine g_ald5 dL_isDone_21 ?_
    refine g_bipush (v := nI 6) dL_isDone_23 (by decide +kernel) ?_
    refine g_ild7 dL_isDone_25 ?_
    first | refine g_imul_n dL_isDone_27 ?_ | refine g_imul dL_isDone_27 ?_
    show Go _ _ _ _ _ _ 28 _ _
    first | refine g_ildr Rw.g rfl (by omega) rfl (by omega) dL_isDone_28 hL (v := (nI it)) z1 ?_ | refine g_ildr Rw.t rfl (by omega) rfl (by omega) dL_isDone_28 hL (v := (nI it)) z1 ?_ | refine g_ildr Rw.d rfl (by omega) rfl (by omega) dL_isDone_28 hL (v := (nI it)) z1 ?_ | refine g_ildr Rw.a rfl (by omega) rfl (by omega) dL_isDone_28 hL (v := (nI it)) z1 ?_ | refine g_ildr Rw.b rfl (by omega) rfl (by omega) dL_isDone_28 hL (v := (nI it)) z1 ?_ | refine g_ildr Rw.c rfl (by omega) rfl (by omega) dL_isDone_28 hL (v := (nI it)) z1 ?_
    refine g_goto (tgt := 42) dL_isDone_29 (by decide) ?_
    refine g_ist9 (by decide) dL_isDone_42 ?_
    refine g_ald4 dL_isDone_44 ?_
    refine g_bipush (v := nI 6) dL_isDone_46 (by decide +kernel) ?_
    refine g_ild7 dL_isDone_48 ?_
    show Go _ _ _ _ _ _ 50 _ _
    first | refine g_imul_n dL_isDone_50 ?_ | refine g_imul dL_isDone_50 ?_
    refine g_iconst (v := nI 5) dL_isDone_51 (by decide +kernel) ?_
    first | refine g_iadd_n dL_isDone_52 ?_ | refine g_iadd dL_isDone_52 ?_
    first | refine g_ildr Rw.g rfl (by omega) rfl (by omega) dL_isDone_53 hL (v := (nI k)) z3 ?_ | refine g_ildr Rw.t rfl (by omega) rfl (by omega) dL_isDone_53 hL (v := (nI k)) z3 ?_ | refine g_ildr Rw.d rfl (by omega) rfl (by omega) dL_isDone_53 hL (v := (nI k)) z3 ?_ | refine g_ildr Rw.a rfl (by omega) rfl (by omega) dL_isDone_53 hL (v := (nI k)) z3 ?_ | refine g_ildr Rw.b rfl (by omega) rfl (by omega) dL_isDone_53 hL (v := (nI k)) z3 ?_ | refine g_ildr Rw.c rfl (by omega) rfl (by omega) dL_isDone_53 hL (v := (nI k)) z3 ?_
    refine g_ist10 (by decide) dL_isDone_54 ?_
    refine g_ald4 dL_isDone_56 ?_
    show Go _ _ _ _ _ _ 58 _ _
    refine g_bipush (v := nI 6) dL_isDone_58 (by decide +kernel) ?_
    refine g_ild7 dL_isDone_60 ?_
    first | refine g_imul_n dL_isDone_62 ?_ | refine g_imul dL_isDone_62 ?_
    refine g_iconst (v := nI 4) dL_isDone_63 (by decide +kernel) ?_
    first | refine g_iadd_n dL_isDone_64 ?_ | refine g_iadd dL_isDone_64 ?_
    first | refine g_ildr Rw.g rfl (by omega) rfl (by omega) dL_isDone_65 hL (v := (nI q)) h4 ?_ | refine g_ildr Rw.t rfl (by omega) rfl (by omega) dL_isDone_65 hL (v := (nI q)) h4 ?_ | refine g_ildr Rw.d rfl (by omega) rfl (by omega) dL_isDone_65 hL (v := (nI q)) h4 ?_ | refine g_ildr Rw.a rfl (by omega) rfl (by omega) dL_isDone_65 hL (v := (nI q)) h4 ?_ | refine g_ildr Rw.b rfl (by omega) rfl (by omega) dL_isDone_65 hL (v := (nI q)) h4 ?_ | refine g_ildr Rw.c rfl (by omega) rfl (by omega) dL_isDone_65 hL (v := (nI q)) h4 ?_
    show Go _ _ _ _ _ _ 66 _ _
    refine g_ist11 (by decide) dL_isDone_66 ?_
    exact k68
  · have hz : M.1 3 (6 * j) = nI 2 := z
    have z3 := hMd z
    have k68 : Go G mL_isDone 456 (rI (fun r h' => r = (mStep M j it k).2 ∧ Lw h' (mStep M j it k).1 ∧ KR h h')) h 456 68 [some (ga G 449), some (ga G 450), some (ga G 451), some (ga G 452), some (ga G 453), some (ga G 454), some (ga G 455), some (.int (nI j)), some (.int (nI 2)), some (.int (nI it)), some (.int (-5)), some (.int (nI q))] [] := by
      obtain rfl | rfl | rfl | rfl : q = 0 ∨ q = 1 ∨ q = 2 ∨ q = 3 := by omega
      · rw [ms06 (Or.inl h4)]
        refine g_ild11 dL_isDone_68 ?_
        refine g_if_eq_t (tgt := 80) dL_isDone_70 (by decide) rfl ?_
        refine g_ald0 dL_isDone_80 ?_
        refine g_ald1 dL_isDone_81 ?_
        refine g_ald3 dL_isDone_82 ?_
        show Go _ _ _ _ _ _ 83 _ _
        refine g_ald5 dL_isDone_83 ?_
        refine g_ald1 dL_isDone_85 ?_
        refine g_bipush (v := nI 6) dL_isDone_86 (by decide +kernel) ?_
        refine g_ild9 dL_isDone_88 ?_
        first | refine g_imul_n dL_isDone_90 ?_ | refine g_imul dL_isDone_90 ?_
        refine g_iconst (v := nI 1) dL_isDone_91 (by decide +kernel) ?_
        show Go _ _ _ _ _ _ 92 _ _
        first | refine g_iadd_n dL_isDone_92 ?_ | refine g_iadd dL_isDone_92 ?_
        first | refine g_ildr Rw.g rfl (by omega) rfl (by omega) dL_isDone_93 hL (v := (nI (hm M it))) m2 ?_ | refine g_ildr Rw.t rfl (by omega) rfl (by omega) dL_isDone_93 hL (v := (nI (hm M it))) m2 ?_ | refine g_ildr Rw.d rfl (by omega) rfl (by omega) dL_isDone_93 hL (v := (nI (hm M it))) m2 ?_ | refine g_ildr Rw.a rfl (by omega) rfl (by omega) dL_isDone_93 hL (v := (nI (hm M it))) m2 ?_ | refine g_ildr Rw.b rfl (by omega) rfl (by omega) dL_isDone_93 hL (v := (nI (hm M it))) m2 ?_ | refine g_ildr Rw.c rfl (by omega) rfl (by omega) dL_isDone_93 hL (v := (nI (hm M it))) m2 ?_
        refine g_callS5 (l_isThere (h := h) M ni nd nj j (hm M it) hL hI hhd m1 hj9 h3) mw_4_3 ok_L_isThere ⟨by decide, by decide⟩ (by omega) (by omega) (Nat.le_of_ble_eq_true rfl) dL_isDone_94 (rI_K ?_)
        intro r h' hr
        exact g_zret (nb (by rw [hr.1]; exact hb _)) rfl dL_isDone_97 ⟨r, rfl, hr⟩
      · rw [ms1 h4]
        refine g_ild11 dL_isDone_68 ?_
        refine g_if_eq_f (tgt := 80) dL_isDone_70 (by decide) (by decide) ?_
        refine g_ild11 dL_isDone_73 ?_
        refine g_bipush (v := nI 6) dL_isDone_75 (by decide +kernel) ?_
        refine g_icmp_ne_t (tgt := 98) dL_isDone_77 (by decide) (by decide) ?_
        show Go _ _ _ _ _ _ 98 _ _
        refine g_ild11 dL_isDone_98 ?_
        refine g_iconst (v := nI 2) dL_isDone_100 (by decide +kernel) ?_
        refine g_icmp_ne_t (tgt := 139) dL_isDone_101 (by decide) (by decide) ?_
        refine g_ild11 dL_isDone_139 ?_
        refine g_iconst (v := nI 1) dL_isDone_141 (by decide +kernel) ?_
        refine g_icmp_eq_t (tgt := 151) dL_isDone_142 (by decide) (by decide) ?_
        show Go _ _ _ _ _ _ 151 _ _
        refine g_ald0 dL_isDone_151 ?_
        refine g_ald1 dL_isDone_152 ?_
        refine g_ald2 dL_isDone_153 ?_
        refine g_ild9 dL_isDone_154 ?_
        refine g_iconst (v := nI 1) dL_isDone_156 (by decide +kernel) ?_
        refine g_ild11 dL_isDone_157 ?_
        show Go _ _ _ _ _ _ 159 _ _
        refine g_iconst (v := nI 5) dL_isDone_159 (by decide +kernel) ?_
        refine g_icmp_ne_t (tgt := 168) dL_isDone_160 (by decide) (by decide) ?_
        refine g_bipush (v := -5) dL_isDone_168 (by decide +kernel) ?_
        refine g_callS6 (l_puts_take (h := h) M it 0 hL (by omega) (by omega)) mw_4_8 ok_L_puts ⟨by decide, by decide⟩ (by omega) (by omega) (Nat.le_of_ble_eq_true rfl) dL_isDone_170 (rI_K ?_)
        rintro r h' ⟨rfl, hr⟩
        exact g_zret rfl rfl dL_isDone_173 ⟨1, rfl, rfl, hr⟩
      · rw [ms2 h4, if_pos z, hs2, nI_clamp (by omega)]
        refine g_ild11 dL_isDone_68 ?_
        refine g_if_eq_f (tgt := 80) dL_isDone_70 (by decide) (by decide) ?_
        refine g_ild11 dL_isDone_73 ?_
        refine g_bipush (v := nI 6) dL_isDone_75 (by decide +kernel) ?_
        refine g_icmp_ne_t (tgt := 98) dL_isDone_77 (by decide) (by decide) ?_
        show Go _ _ _ _ _ _ 98 _ _
        refine g_ild11 dL_isDone_98 ?_
        refine g_iconst (v := nI 2) dL_isDone_100 (by decide +kernel) ?_
        refine g_icmp_ne_f (tgt := 139) dL_isDone_101 (by decide) (by decide) ?_
        refine g_ald0 dL_isDone_104 ?_
        refine g_ald1 dL_isDone_105 ?_
        refine g_ald3 dL_isDone_106 ?_
        show Go _ _ _ _ _ _ 107 _ _
        refine g_ald5 dL_isDone_107 ?_
        refine g_ild8 dL_isDone_109 ?_
        refine g_iconst (v := nI 2) dL_isDone_111 (by decide +kernel) ?_
        refine g_icmp_ne_f (tgt := 128) dL_isDone_112 (by decide) (by decide) ?_
        refine g_ald4 dL_isDone_115 ?_
        refine g_bipush (v := nI 6) dL_isDone_117 (by decide +kernel) ?_
        show Go _ _ _ _ _ _ 119 _ _
        refine g_ild7 dL_isDone_119 ?_
        first | refine g_imul_n dL_isDone_121 ?_ | refine g_imul dL_isDone_121 ?_
        refine g_iconst (v := nI 2) dL_isDone_122 (by decide +kernel) ?_
        first | refine g_iadd_n dL_isDone_123 ?_ | refine g_iadd dL_isDone_123 ?_
        first | refine g_ildr Rw.g rfl (by omega) rfl (by omega) dL_isDone_124 hL (v := (nI s)) hs2 ?_ | refine g_ildr Rw.t rfl (by omega) rfl (by omega) dL_isDone_124 hL (v := (nI s)) hs2 ?_ | refine g_ildr Rw.d rfl (by omega) rfl (by omega) dL_isDone_124 hL (v := (nI s)) hs2 ?_ | refine g_ildr Rw.a rfl (by omega) rfl (by omega) dL_isDone_124 hL (v := (nI s)) hs2 ?_ | refine g_ildr Rw.b rfl (by omega) rfl (by omega) dL_isDone_124 hL (v := (nI s)) hs2 ?_ | refine g_ildr Rw.c rfl (by omega) rfl (by omega) dL_isDone_124 hL (v := (nI s)) hs2 ?_
        refine g_goto (tgt := 135) dL_isDone_125 (by decide) ?_
        show Go _ _ _ _ _ _ 135 _ _
        refine g_callS5 (l_isThere (h := h) M ni nd nj j s hL hI hhd hs hj9 h3) mw_4_3 ok_L_isThere ⟨by decide, by decide⟩ (by omega) (by omega) (Nat.le_of_ble_eq_true rfl) dL_isDone_135 (rI_K ?_)
        intro r h' hr
        exact g_zret (nb (by rw [hr.1]; exact hb _)) rfl dL_isDone_138 ⟨r, rfl, hr⟩
      · rw [ms3 h4, if_pos z]
        refine g_ild11 dL_isDone_68 ?_
        refine g_if_eq_f (tgt := 80) dL_isDone_70 (by decide) (by decide) ?_
        refine g_ild11 dL_isDone_73 ?_
        refine g_bipush (v := nI 6) dL_isDone_75 (by decide +kernel) ?_
        refine g_icmp_ne_t (tgt := 98) dL_isDone_77 (by decide) (by decide) ?_
        show Go _ _ _ _ _ _ 98 _ _
        refine g_ild11 dL_isDone_98 ?_
        refine g_iconst (v := nI 2) dL_isDone_100 (by decide +kernel) ?_
        refine g_icmp_ne_t (tgt := 139) dL_isDone_101 (by decide) (by decide) ?_
        refine g_ild11 dL_isDone_139 ?_
        refine g_iconst (v := nI 1) dL_isDone_141 (by decide +kernel) ?_
        refine g_icmp_eq_f (tgt := 151) dL_isDone_142 (by decide) (by decide) ?_
        show Go _ _ _ _ _ _ 145 _ _
        refine g_ild11 dL_isDone_145 ?_
        refine g_iconst (v := nI 5) dL_isDone_147 (by decide +kernel) ?_
        refine g_icmp_ne_t (tgt := 174) dL_isDone_148 (by decide) (by decide) ?_
        refine g_ild11 dL_isDone_174 ?_
        refine g_bipush (v := nI 7) dL_isDone_176 (by decide +kernel) ?_
        refine g_icmp_ne_t (tgt := 193) dL_isDone_178 (by decide) (by decide) ?_
        show Go _ _ _ _ _ _ 193 _ _
        refine g_ild11 dL_isDone_193 ?_
        refine g_iconst (v := nI 3) dL_isDone_195 (by decide +kernel) ?_
        refine g_icmp_ne_f (tgt := 258) dL_isDone_196 (by decide) (by decide) ?_
        refine g_ald1 dL_isDone_199 ?_
        refine g_bipush (v := nI 6) dL_isDone_200 (by decide +kernel) ?_
        refine g_ild9 dL_isDone_202 ?_
        show Go _ _ _ _ _ _ 204 _ _
        first | refine g_imul_n dL_isDone_204 ?_ | refine g_imul dL_isDone_204 ?_
        refine g_iconst (v := nI 1) dL_isDone_205 (by decide +kernel) ?_
        first | refine g_iadd_n dL_isDone_206 ?_ | refine g_iadd dL_isDone_206 ?_
        refine g_ild8 dL_isDone_207 ?_
        refine g_iconst (v := nI 2) dL_isDone_209 (by decide +kernel) ?_
        refine g_icmp_ne_f (tgt := 226) dL_isDone_210 (by decide) (by decide) ?_
        show Go _ _ _ _ _ _ 213 _ _
        refine g_ald4 dL_isDone_213 ?_
        refine g_bipush (v := nI 6) dL_isDone_215 (by decide +kernel) ?_
        refine g_ild7 dL_isDone_217 ?_
        first | refine g_imul_n dL_isDone_219 ?_ | refine g_imul dL_isDone_219 ?_
        refine g_iconst (v := nI 2) dL_isDone_220 (by decide +kernel) ?_
        first | refine g_iadd_n dL_isDone_221 ?_ | refine g_iadd dL_isDone_221 ?_
        show Go _ _ _ _ _ _ 222 _ _
        first | refine g_ildr Rw.g rfl (by omega) rfl (by omega) dL_isDone_222 hL (v := (M.1 3 (6 * j + 2))) rfl ?_ | refine g_ildr Rw.t rfl (by omega) rfl (by omega) dL_isDone_222 hL (v := (M.1 3 (6 * j + 2))) rfl ?_ | refine g_ildr Rw.d rfl (by omega) rfl (by omega) dL_isDone_222 hL (v := (M.1 3 (6 * j + 2))) rfl ?_ | refine g_ildr Rw.a rfl (by omega) rfl (by omega) dL_isDone_222 hL (v := (M.1 3 (6 * j + 2))) rfl ?_ | refine g_ildr Rw.b rfl (by omega) rfl (by omega) dL_isDone_222 hL (v := (M.1 3 (6 * j + 2))) rfl ?_ | refine g_ildr Rw.c rfl (by omega) rfl (by omega) dL_isDone_222 hL (v := (M.1 3 (6 * j + 2))) rfl ?_
        refine g_goto (tgt := 235) dL_isDone_223 (by decide) ?_
        first | refine g_istr Rw.g rfl (by omega) rfl (by omega) dL_isDone_235 hL hK ?_ | refine g_istr Rw.t rfl (by omega) rfl (by omega) dL_isDone_235 hL hK ?_ | refine g_istr Rw.d rfl (by omega) rfl (by omega) dL_isDone_235 hL hK ?_ | refine g_istr Rw.a rfl (by omega) rfl (by omega) dL_isDone_235 hL hK ?_ | refine g_istr Rw.b rfl (by omega) rfl (by omega) dL_isDone_235 hL hK ?_ | refine g_istr Rw.c rfl (by omega) rfl (by omega) dL_isDone_235 hL hK ?_
        intro h hL hK
        refine g_ald0 dL_isDone_236 ?_
        refine g_ald1 dL_isDone_237 ?_
        refine g_ald2 dL_isDone_238 ?_
        show Go _ _ _ _ _ _ 239 _ _
        refine g_ild9 dL_isDone_239 ?_
        refine g_ild8 dL_isDone_241 ?_
        refine g_iconst (v := nI 2) dL_isDone_243 (by decide +kernel) ?_
        refine g_icmp_ne_f (tgt := 251) dL_isDone_244 (by decide) (by decide) ?_
        refine g_iconst (v := nI 0) dL_isDone_247 (by decide +kernel) ?_
        refine g_goto (tgt := 252) dL_isDone_248 (by decide) ?_
        show Go _ _ _ _ _ _ 252 _ _
        refine g_ild10 dL_isDone_252 ?_
        refine g_callS6 (l_puts_home (h := h) _ it 0 hL (by omega) (by omega)) mw_4_8 ok_L_puts ⟨by decide, by decide⟩ (by omega) (by omega) (Nat.le_of_ble_eq_true rfl) dL_isDone_254 (rI_K ?_)
        rintro r h' ⟨rfl, hr⟩
        exact g_zret rfl rfl dL_isDone_257 ⟨1, rfl, rfl, hr.1, hK.tr hr.2⟩
    refine g_ald0 dL_isDone_0 ?_
    refine g_iconst (v := nI 3) dL_isDone_1 (by decide +kernel) ?_
    first | refine g_ildr Rw.g rfl (by omega) rfl (by omega) dL_isDone_2 hL (v := (nI j)) h3 ?_ | refine g_ildr Rw.t rfl (by omega) rfl (by omega) dL_isDone_2 hL (v := (nI j)) h3 ?_ | refine g_ildr Rw.d rfl (by omega) rfl (by omega) dL_isDone_2 hL (v := (nI j)) h3 ?_ | refine g_ildr Rw.a rfl (by omega) rfl (by omega) dL_isDone_2 hL (v := (nI j)) h3 ?_ | refine g_ildr Rw.b rfl (by omega) rfl (by omega) dL_isDone_2 hL (v := (nI j)) h3 ?_ | refine g_ildr Rw.c rfl (by omega) rfl (by omega) dL_isDone_2 hL (v := (nI j)) h3 ?_
    refine g_ist7 (by decide) dL_isDone_3 ?_
    refine g_ald4 dL_isDone_5 ?_
    show Go _ _ _ _ _ _ 7 _ _
    refine g_bipush (v := nI 6) dL_isDone_7 (by decide +kernel) ?_
    refine g_ild7 dL_isDone_9 ?_
    first | refine g_imul_n dL_isDone_11 ?_ | refine g_imul dL_isDone_11 ?_
    first | refine g_ildr Rw.g rfl (by omega) rfl (by omega) dL_isDone_12 hL (v := (nI 2)) hz ?_ | refine g_ildr Rw.t rfl (by omega) rfl (by omega) dL_isDone_12 hL (v := (nI 2)) hz ?_ | refine g_ildr Rw.d rfl (by omega) rfl (by omega) dL_isDone_12 hL (v := (nI 2)) hz ?_ | refine g_ildr Rw.a rfl (by omega) rfl (by omega) dL_isDone_12 hL (v := (nI 2)) hz ?_ | refine g_ildr Rw.b rfl (by omega) rfl (by omega) dL_isDone_12 hL (v := (nI 2)) hz ?_ | refine g_ildr Rw.c rfl (by omega) rfl (by omega) dL_isDone_12 hL (v := (nI 2)) hz ?_
    refine g_ist8 (by decide) dL_isDone_13 ?_
    refine g_ild8 dL_isDone_15 ?_
    show Go _ _ _ _ _ _ 17 _ _
    refine g_iconst (v := nI 1) dL_isDone_17 (by decide +kernel) ?_
    refine g_icmp_ne_t (tgt := 32) dL_isDone_18 (by decide) (by decide) ?_
    refine g_ald4 dL_isDone_32 ?_
    refine g_bipush (v := nI 6) dL_isDone_34 (by decide +kernel) ?_
    refine g_ild7 dL_isDone_36 ?_
    first | refine g_imul_n dL_isDone_38 ?_ | refine g_imul dL_isDone_38 ?_
    show Go _ _ _ _ _ _ 39 _ _
    refine g_iconst (v := nI 1) dL_isDone_39 (by decide +kernel) ?_
    first | refine g_iadd_n dL_isDone_40 ?_ | refine g_iadd dL_isDone_40 ?_
    first | refine g_ildr Rw.g rfl (by omega) rfl (by omega) dL_isDone_41 hL (v := (nI it)) z1 ?_ | refine g_ildr Rw.t rfl (by omega) rfl (by omega) dL_isDone_41 hL (v := (nI it)) z1 ?_ | refine g_ildr Rw.d rfl (by omega) rfl (by omega) dL_isDone_41 hL (v := (nI it)) z1 ?_ | refine g_ildr Rw.a rfl (by omega) rfl (by omega) dL_isDone_41 hL (v := (nI it)) z1 ?_ | refine g_ildr Rw.b rfl (by omega) rfl (by omega) dL_isDone_41 hL (v := (nI it)) z1 ?_ | refine g_ildr Rw.c rfl (by omega) rfl (by omega) dL_isDone_41 hL (v := (nI it)) z1 ?_
    refine g_ist9 (by decide) dL_isDone_42 ?_
    refine g_ald4 dL_isDone_44 ?_
    refine g_bipush (v := nI 6) dL_isDone_46 (by decide +kernel) ?_
    show Go _ _ _ _ _ _ 48 _ _
    refine g_ild7 dL_isDone_48 ?_
    first | refine g_imul_n dL_isDone_50 ?_ | refine g_imul dL_isDone_50 ?_
    refine g_iconst (v := nI 5) dL_isDone_51 (by decide +kernel) ?_
    first | refine g_iadd_n dL_isDone_52 ?_ | refine g_iadd dL_isDone_52 ?_
    first | refine g_ildr Rw.g rfl (by omega) rfl (by omega) dL_isDone_53 hL (v := (-5)) z3 ?_ | refine g_ildr Rw.t rfl (by omega) rfl (by omega) dL_isDone_53 hL (v := (-5)) z3 ?_ | refine g_ildr Rw.d rfl (by omega) rfl (by omega) dL_isDone_53 hL (v := (-5)) z3 ?_ | refine g_ildr Rw.a rfl (by omega) rfl (by omega) dL_isDone_53 hL (v := (-5)) z3 ?_ | refine g_ildr Rw.b rfl (by omega) rfl (by omega) dL_isDone_53 hL (v := (-5)) z3 ?_ | refine g_ildr Rw.c rfl (by omega) rfl (by omega) dL_isDone_53 hL (v := (-5)) z3 ?_
    refine g_ist10 (by decide) dL_isDone_54 ?_
    show Go _ _ _ _ _ _ 56 _ _
    refine g_ald4 dL_isDone_56 ?_
    refine g_bipush (v := nI 6) dL_isDone_58 (by decide +kernel) ?_
    refine g_ild7 dL_isDone_60 ?_
    first | refine g_imul_n dL_isDone_62 ?_ | refine g_imul dL_isDone_62 ?_
    refine g_iconst (v := nI 4) dL_isDone_63 (by decide +kernel) ?_
    first | refine g_iadd_n dL_isDone_64 ?_ | refine g_iadd dL_isDone_64 ?_
    show Go _ _ _ _ _ _ 65 _ _
    first | refine g_ildr Rw.g rfl (by omega) rfl (by omega) dL_isDone_65 hL (v := (nI q)) h4 ?_ | refine g_ildr Rw.t rfl (by omega) rfl (by omega) dL_isDone_65 hL (v := (nI q)) h4 ?_ | refine g_ildr Rw.d rfl (by omega) rfl (by omega) dL_isDone_65 hL (v := (nI q)) h4 ?_ | refine g_ildr Rw.a rfl (by omega) rfl (by omega) dL_isDone_65 hL (v := (nI q)) h4 ?_ | refine g_ildr Rw.b rfl (by omega) rfl (by omega) dL_isDone_65 hL (v := (nI q)) h4 ?_ | refine g_ildr Rw.c rfl (by omega) rfl (by omega) dL_isDone_65 hL (v := (nI q)) h4 ?_
    refine g_ist11 (by decide) dL_isDone_66 ?_
    exact k68
end P37
