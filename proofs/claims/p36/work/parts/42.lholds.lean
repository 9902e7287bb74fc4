/-! ===== the law's holds ===== -/
section P42
variable {M S : Mo} {ni nd nj j it k q T : Nat}
/-- waiting jobs withdrawn, other cells of jobs changed: what holds goes on -/
theorem inv_j (hI : Inv M ni nd nj T) (hf : S.2 = M.2) (h0 : S.1 0 = M.1 0) (h1 : S.1 1 = M.1 1) (h2 : S.1 2 = M.1 2) (h5 : S.1 5 = M.1 5) (h4 : ∀ q, S.1 4 (6 * q) = M.1 4 (6 * q) ∧ S.1 4 (6 * q + 1) = M.1 4 (6 * q + 1)) (h3 : ∀ q, S.1 3 (6 * q) = M.1 3 (6 * q) ∧ S.1 3 (6 * q + 1) = M.1 3 (6 * q + 1) ∧ S.1 3 (6 * q + 2) = M.1 3 (6 * q + 2) ∧ S.1 3 (6 * q + 4) = M.1 3 (6 * q + 4) ∧ S.1 3 (6 * q + 5) = M.1 3 (6 * q + 5)) (hs : ∀ q, S.1 3 (6 * q + 3) = M.1 3 (6 * q + 3) ∨ (M.1 3 (6 * q + 3) = 0 ∧ S.1 3 (6 * q + 3) = 4)) : Inv S ni nd nj T := by
  obtain ⟨hIS, hSm, hJw, hAm, hNc, h00, hP⟩ := hI
  have hp : Ip S := by unfold Ip pl; rw [h0]; exact hIS.2.1
  have hfl : Ifl S nd := by unfold Ifl; rw [hf]; exact hIS.2.2.2.2.1
  refine ⟨hIS.of hp hfl (fun i _ => by rw [h1]) (fun i _ => by rw [h1]) (fun i => ⟨(h3 i).1, (h3 i).2.1, (h3 i).2.2.1⟩) (fun i => by rw [h2]), ?_, fun n hn => ?_, ?_, ?_, by rw [h0]; exact h00, ?_⟩
  · unfold Sm; rw [h0, h2]; exact hSm
  · obtain ⟨a1, a2, a3⟩ := hJw n hn
    rw [(h3 n).1, (h3 n).2.1, (h3 n).2.2.2.2, (h4 n).1, (h4 n).2, h5, h1]
    rcases hs n with e | ⟨e1, e2⟩
    · rw [e]; exact ⟨a1, a2, a3⟩
    · rw [e2]; exact ⟨⟨4, by omega, rfl⟩, fun z => absurd z (by decide), a3⟩
  · unfold Amt; rw [h1]; exact hAm
  · unfold Nc; rw [h5]; exact hNc
  · have hn1 : ∀ n, M.1 3 (6 * n + 3) ≠ 1 → S.1 3 (6 * n + 3) ≠ 1 := fun n z => by
      rcases hs n with e | ⟨e1, e2⟩
      · rw [e]; exact z
      · rw [e2]; decide
    rcases hP with ⟨p1, p2, p3⟩ | ⟨j, it, k, q, hO, p1, p2, p3⟩
    · exact Or.inl ⟨by rw [h0]; exact p1, pha_same (M := M) (by rw [h0]) (fun k => by rw [h2]) p2, fun n hn => hn1 n (p3 n hn)⟩
    · refine Or.inr ⟨j, it, k, q, ?_, fun z => ?_, fun z i hi y => ?_, fun n hn hnj => hn1 n (p3 n hn hnj)⟩
      · obtain ⟨⟨b1, b2, b3, b4, b5, b6⟩, b7, b8, b9, b10⟩ := hO
        refine ⟨⟨b1, by rw [h0]; exact b2, ?_, b4, by rw [(h3 j).2.2.2.1]; exact b5, b6⟩, ?_, ph_same (M := M) (by rw [h0]) (fun k => by rw [h2]) b8, by rw [h5]; exact b9, by rw [(h4 j).2]; exact b10⟩
        · rcases hs j with e | ⟨e1, -⟩
          · rw [e]; exact b3
          · rw [b3] at e1; exact absurd e1 one0
        · rw [(h3 j).1, (h3 j).2.1, (h3 j).2.2.1, (h3 j).2.2.2.2, (h4 j).1, h1]; exact b7
      · rw [h1]; rw [(h3 j).1] at z; exact p1 z
      · rw [(h3 j).1] at z; rw [h1, (h3 j).2.2.1] at y; exact p2 z i hi y
theorem inv_until (v : Int32) (hI : Inv M ni nd nj T) : Inv (up M 4 (6 * j + 3) v) ni nd nj T := by
  refine inv_j hI rfl (up_row (by omega)) (up_row (by omega)) (up_row (by omega)) (up_row (by omega)) (fun q => ⟨up_ne (by omega), up_ne (by omega)⟩) (fun q => ?_) (fun q => Or.inl ?_)
  · rw [up_row (by omega)]; exact ⟨rfl, rfl, rfl, rfl, rfl⟩
  · rw [up_row (by omega)]
theorem inv_wdr (h0 : M.1 3 (6 * j + 3) = 0) (hI : Inv M ni nd nj T) : Inv (mWdr M j) ni nd nj T := by
  refine inv_j hI rfl ?_ ?_ ?_ ?_ (fun q => ⟨?_, ?_⟩) (fun q => ⟨?_, ?_, ?_, ?_, ?_⟩) (fun q => ?_)
  · exact (up_row (by omega)).trans (up_row (by omega))
  · exact (up_row (by omega)).trans (up_row (by omega))
  · exact (up_row (by omega)).trans (up_row (by omega))
  · exact (up_row (by omega)).trans (up_row (by omega))
  · simp (disch := omega) only [mWdr, up_ne]
  · simp (disch := omega) only [mWdr, up_ne]
  · simp (disch := omega) only [mWdr, up_ne]
  · simp (disch := omega) only [mWdr, up_ne]
  · simp (disch := omega) only [mWdr, up_ne]
  · simp (disch := omega) only [mWdr, up_ne]
  · simp (disch := omega) only [mWdr, up_ne]
  · by_cases e : q = j
    · subst e; exact Or.inr ⟨h0, by simp (disch := omega) only [mWdr, up_ne, up_at]⟩
    · exact Or.inl (by simp (disch := omega) only [mWdr, up_ne])
theorem xt_until (u : Nat) (hu : u ≤ 5000) (h : Xn M ni nd nj) : Xn (up M 4 (6 * j + 3) (nI u)) ni nd nj := by
  refine ⟨?_, nz_up4 _ _ h.2.1, h.2.2.row (up_row (by omega))⟩
  obtain ⟨⟨z, f, m, w⟩, -⟩ := h
  refine ⟨z, f, m, fun n hn => ?_⟩
  by_cases e : n = j
  · subst e; exact ⟨u, hu, up_at⟩
  · obtain ⟨y, y1, y2⟩ := w n hn; exact ⟨y, y1, (up_ne (by omega)).trans y2⟩
theorem xt_wdr (c : M.1 3 (6 * j + 3) = 0) (h : Xn M ni nd nj) : Xn (mWdr M j) ni nd nj := ⟨
  h.1.of (fun a _ _ => by simp (disch := omega) only [mWdr, up_ne]) (fun i _ => by simp (disch := omega) only [mWdr, up_ne]) (fun j => by simp (disch := omega) only [mWdr, up_ne]) (fun j _ => Or.inl (by simp (disch := omega) only [mWdr, up_ne])) (fun j => by simp (disch := omega) only [mWdr, up_ne]), nz_up4 _ _ (nz_up3 _ _ h.2.1), fun n hn z => by
    have e4 : (mWdr M j).1 3 (6 * n + 4) = M.1 3 (6 * n + 4) := by simp (disch := omega) only [mWdr, up_ne]
    rw [e4]
    refine h.2.2 n hn (fun y => z ?_)
    by_cases e : n = j
    · subst e; rw [c] at y; exact absurd y (by decide)
    · have e3 : (mWdr M j).1 3 (6 * n + 3) = M.1 3 (6 * n + 3) := by simp (disch := omega) only [mWdr, up_ne]
      rw [e3]; exact y⟩
end P42
section P42b
variable {G : Gl} {h : Hp}
theorem lq_holds (M : Mo) (ni nd nj T : Nat) (x : Int32) (hT : Tn h M ni nd nj T) (hT9 : T ≤ 1500) : Ct G mL_holds [ga G 0, ga G 449, ga G 453, ga G 454, .int x] h 456 456 (rI (fun r h' => r = 1 ∧ ∃ M', Tn h' M' ni nd nj T)) := by
  obtain ⟨hL, hR, hI, hX⟩ := id hT
  obtain ⟨⟨hi, hd, hj⟩, -, -, hC, -⟩ := id hI.1
  obtain ⟨⟨-, -, -, -, z5, -⟩, -, -, hU⟩ := id hX.1
  have hK := KR.rf h
  have hn := hR.2.1.2.2.1
  have hS := hR.2.2.2.2.2.2.2
  have h00 := hI.2.2.2.2.2.1
  refine Ct.of rfl (by simp [Value.category, ga]) (Nat.le_of_ble_eq_true rfl) (Nat.le_refl _) ?_
  show Go _ _ _ _ _ _ _ [some (ga G 0), some (ga G 449), some (ga G 453), some (ga G 454), some (.int x), none, none, none, none] []
  rcases Nat.eq_zero_or_pos nj with hz | hpos
  · subst hz
    refine g_ald1 dL_holds_0 ?_
    refine g_bipush (v := nI 11) dL_holds_1 (by decide +kernel) ?_
    first | refine g_ildr Rw.g rfl (by omega) rfl (by omega) dL_holds_3 hL (v := (nI 0)) z5 ?_ | refine g_ildr Rw.t rfl (by omega) rfl (by omega) dL_holds_3 hL (v := (nI 0)) z5 ?_ | refine g_ildr Rw.d rfl (by omega) rfl (by omega) dL_holds_3 hL (v := (nI 0)) z5 ?_ | refine g_ildr Rw.a rfl (by omega) rfl (by omega) dL_holds_3 hL (v := (nI 0)) z5 ?_ | refine g_ildr Rw.b rfl (by omega) rfl (by omega) dL_holds_3 hL (v := (nI 0)) z5 ?_ | refine g_ildr Rw.c rfl (by omega) rfl (by omega) dL_holds_3 hL (v := (nI 0)) z5 ?_
    refine g_if_ne_f (tgt := 32) dL_holds_4 (by decide) rfl ?_
    refine g_ald0 dL_holds_7 ?_
    show Go _ _ _ _ _ _ 8 _ _
    refine g_iconst (v := nI 0) dL_holds_8 (by decide +kernel) ?_
    refine g_iconst (v := nI 0) dL_holds_9 (by decide +kernel) ?_
    refine g_callV2 (c_putOff_n (h := h) 0 0 0 hS hn (Or.inr (by decide))) mw_3_198 ok_X9_putOff ⟨by decide, by decide⟩ (by first | assumption | exact lay_item (by omega) | exact lay_drive (by omega) | exact lay_job (by omega) | rfl) (by omega) rfl (by omega) (by omega) (Nat.le_of_ble_eq_true rfl) dL_holds_10 (dI_K ?_)
    refine g_iconst (v := -1) dL_holds_13 (by decide +kernel) ?_
    refine g_icmp_ne_f (tgt := 30) dL_holds_14 (by decide) rfl ?_
    refine g_ald0 dL_holds_17 ?_
    show Go _ _ _ _ _ _ 18 _ _
    refine g_iconst (v := nI 0) dL_holds_18 (by decide +kernel) ?_
    refine g_callV1 (c_withdraw_n (h := h) 0 0 hS hn (Or.inr (by decide))) mw_3_202 ok_X9_withdraw ⟨by decide, by decide⟩ (by first | assumption | exact lay_item (by omega) | exact lay_drive (by omega) | exact lay_job (by omega) | rfl) (by omega) rfl (by omega) (by omega) (Nat.le_of_ble_eq_true rfl) dL_holds_19 (dI_K ?_)
    refine g_iconst (v := -1) dL_holds_22 (by decide +kernel) ?_
    refine g_icmp_ne_f (tgt := 30) dL_holds_23 (by decide) rfl ?_
    refine g_iconst (v := nI 1) dL_holds_26 (by decide +kernel) ?_
    refine g_goto (tgt := 31) dL_holds_27 (by decide) ?_
    show Go _ _ _ _ _ _ 31 _ _
    exact g_zret rfl rfl dL_holds_31 ⟨1, rfl, rfl, M, hT⟩
  · have k113 : ∀ j u x8, j < nj → u ≤ 5000 → ∀ fl : Int32, ((fl = 1 ∧ M.1 3 (6 * j + 3) = 0) ∨ (fl = 0 ∧ ¬ M.1 3 (6 * j + 3) = 0)) → Go G mL_holds 456 (rI (fun r h' => r = 1 ∧ ∃ M', Tn h' M' ni nd nj T)) h 456 113 [some (ga G 0), some (ga G 449), some (ga G 453), some (ga G 454), some (.int x), some (.int (nI j)), some (.int fl), some (.int (nI u)), x8] [] := by
      rintro j u x8 hj9 hu fl (⟨rfl, c⟩ | ⟨rfl, c⟩)
      · by_cases c2 : M.1 4 (6 * j + 3) = nI u
        · have e : mPutO M j (nI u) = (M, -5) := by unfold mPutO; rw [if_pos c, if_pos c2]
          refine g_ild6 dL_holds_113 ?_
          refine g_if_ne_t (tgt := 123) dL_holds_115 (by decide) (by decide) ?_
          refine g_ild7 dL_holds_123 ?_
          refine g_ald3 dL_holds_125 ?_
          refine g_bipush (v := nI 6) dL_holds_126 (by decide +kernel) ?_
          show Go _ _ _ _ _ _ 128 _ _
          refine g_ild5 dL_holds_128 ?_
          first | refine g_imul_n dL_holds_130 ?_ | refine g_imul dL_holds_130 ?_
          refine g_iconst (v := nI 3) dL_holds_131 (by decide +kernel) ?_
          first | refine g_iadd_n dL_holds_132 ?_ | refine g_iadd dL_holds_132 ?_
          first | refine g_ildr Rw.g rfl (by omega) rfl (by omega) dL_holds_133 hL (v := (nI u)) c2 ?_ | refine g_ildr Rw.t rfl (by omega) rfl (by omega) dL_holds_133 hL (v := (nI u)) c2 ?_ | refine g_ildr Rw.d rfl (by omega) rfl (by omega) dL_holds_133 hL (v := (nI u)) c2 ?_ | refine g_ildr Rw.a rfl (by omega) rfl (by omega) dL_holds_133 hL (v := (nI u)) c2 ?_ | refine g_ildr Rw.b rfl (by omega) rfl (by omega) dL_holds_133 hL (v := (nI u)) c2 ?_ | refine g_ildr Rw.c rfl (by omega) rfl (by omega) dL_holds_133 hL (v := (nI u)) c2 ?_
          refine g_icmp_ne_f (tgt := 142) dL_holds_134 (by decide) rfl ?_
          show Go _ _ _ _ _ _ 137 _ _
          refine g_bipush (v := -5) dL_holds_137 (by decide +kernel) ?_
          refine g_goto (tgt := 151) dL_holds_139 (by decide) ?_
          refine g_ist8 (by decide) dL_holds_151 ?_
          refine g_ald3 dL_holds_153 ?_
          refine g_bipush (v := nI 6) dL_holds_154 (by decide +kernel) ?_
          refine g_ild5 dL_holds_156 ?_
          show Go _ _ _ _ _ _ 158 _ _
          first | refine g_imul_n dL_holds_158 ?_ | refine g_imul dL_holds_158 ?_
          refine g_iconst (v := nI 3) dL_holds_159 (by decide +kernel) ?_
          first | refine g_iadd_n dL_holds_160 ?_ | refine g_iadd dL_holds_160 ?_
          refine g_ild6 dL_holds_161 ?_
          refine g_if_eq_f (tgt := 171) dL_holds_163 (by decide) (by decide) ?_
          refine g_ild7 dL_holds_166 ?_
          show Go _ _ _ _ _ _ 168 _ _
          refine g_goto (tgt := 180) dL_holds_168 (by decide) ?_
          first | refine g_istr Rw.g rfl (by omega) rfl (by omega) dL_holds_180 hL hK ?_ | refine g_istr Rw.t rfl (by omega) rfl (by omega) dL_holds_180 hL hK ?_ | refine g_istr Rw.d rfl (by omega) rfl (by omega) dL_holds_180 hL hK ?_ | refine g_istr Rw.a rfl (by omega) rfl (by omega) dL_holds_180 hL hK ?_ | refine g_istr Rw.b rfl (by omega) rfl (by omega) dL_holds_180 hL hK ?_ | refine g_istr Rw.c rfl (by omega) rfl (by omega) dL_holds_180 hL hK ?_
          intro h hL hK
          rw [← c2, up_same] at hL
          refine g_ald0 dL_holds_181 ?_
          refine g_ild5 dL_holds_182 ?_
          refine g_ild7 dL_holds_184 ?_
          refine g_callV2 (c_putOff (h := h) M ni nd nj j (nI u) (hR.kr hi hd hj hK) hi hd hj hC hj9 ⟨nI_pos' (by omega), nI_le (b := 9999) (by omega) (by omega)⟩) mw_3_198 ok_X9_putOff ⟨by decide, by decide⟩ (by first | assumption | exact lay_item (by omega) | exact lay_drive (by omega) | exact lay_job (by omega) | rfl) (by omega) rfl (by omega) (by omega) (Nat.le_of_ble_eq_true rfl) dL_holds_186 (rI_K ?_)
          rw [e]
          rintro r h2 ⟨rfl, R2, K2⟩
          show Go _ _ _ _ _ _ 189 _ _
          refine g_ild8 dL_holds_189 ?_
          refine g_icmp_ne_f (tgt := 212) dL_holds_191 (by decide) rfl ?_
          refine g_ald0 dL_holds_194 ?_
          refine g_ild5 dL_holds_195 ?_
          refine g_sipush (v := nI 10000) dL_holds_197 (by decide +kernel) ?_
          refine g_callV2 (c_putOff_2 (h := h2) j nj (nI 10000) R2.2.2.2.2.2.2.2 R2.2.1.2.2.1 (by omega) hj9 (by decide)) mw_3_198 ok_X9_putOff ⟨by decide, by decide⟩ (by first | assumption | exact lay_item (by omega) | exact lay_drive (by omega) | exact lay_job (by omega) | rfl) (by omega) rfl (by omega) (by omega) (Nat.le_of_ble_eq_true rfl) dL_holds_200 (dI_K ?_)
          show Go _ _ _ _ _ _ 203 _ _
          refine g_bipush (v := -2) dL_holds_203 (by decide +kernel) ?_
          refine g_icmp_ne_f (tgt := 212) dL_holds_205 (by decide) rfl ?_
          refine g_iconst (v := nI 1) dL_holds_208 (by decide +kernel) ?_
          refine g_goto (tgt := 213) dL_holds_209 (by decide) ?_
          exact g_zret rfl rfl dL_holds_213 ⟨1, rfl, rfl, M, hL.kl K2, R2, hI, hX⟩
        · have e : mPutO M j (nI u) = (up M 4 (6 * j + 3) (nI u), M.1 4 (6 * j + 3)) := by unfold mPutO; rw [if_pos c, if_neg c2]
          refine g_ild6 dL_holds_113 ?_
          refine g_if_ne_t (tgt := 123) dL_holds_115 (by decide) (by decide) ?_
          refine g_ild7 dL_holds_123 ?_
          refine g_ald3 dL_holds_125 ?_
          refine g_bipush (v := nI 6) dL_holds_126 (by decide +kernel) ?_
          show Go _ _ _ _ _ _ 128 _ _
          refine g_ild5 dL_holds_128 ?_
          first | refine g_imul_n dL_holds_130 ?_ | refine g_imul dL_holds_130 ?_
          refine g_iconst (v := nI 3) dL_holds_131 (by decide +kernel) ?_
          first | refine g_iadd_n dL_holds_132 ?_ | refine g_iadd dL_holds_132 ?_
          first | refine g_ildr Rw.g rfl (by omega) rfl (by omega) dL_holds_133 hL rfl ?_ | refine g_ildr Rw.t rfl (by omega) rfl (by omega) dL_holds_133 hL rfl ?_ | refine g_ildr Rw.d rfl (by omega) rfl (by omega) dL_holds_133 hL rfl ?_ | refine g_ildr Rw.a rfl (by omega) rfl (by omega) dL_holds_133 hL rfl ?_ | refine g_ildr Rw.b rfl (by omega) rfl (by omega) dL_holds_133 hL rfl ?_ | refine g_ildr Rw.c rfl (by omega) rfl (by omega) dL_holds_133 hL rfl ?_
          refine g_icmp_ne_t (tgt := 142) dL_holds_134 (by decide) (fun z => c2 z.symm) ?_
          show Go _ _ _ _ _ _ 142 _ _
          refine g_ald3 dL_holds_142 ?_
          refine g_bipush (v := nI 6) dL_holds_143 (by decide +kernel) ?_
          refine g_ild5 dL_holds_145 ?_
          first | refine g_imul_n dL_holds_147 ?_ | refine g_imul dL_holds_147 ?_
          refine g_iconst (v := nI 3) dL_holds_148 (by decide +kernel) ?_
          first | refine g_iadd_n dL_holds_149 ?_ | refine g_iadd dL_holds_149 ?_
          show Go _ _ _ _ _ _ 150 _ _
          first | refine g_ildr Rw.g rfl (by omega) rfl (by omega) dL_holds_150 hL rfl ?_ | refine g_ildr Rw.t rfl (by omega) rfl (by omega) dL_holds_150 hL rfl ?_ | refine g_ildr Rw.d rfl (by omega) rfl (by omega) dL_holds_150 hL rfl ?_ | refine g_ildr Rw.a rfl (by omega) rfl (by omega) dL_holds_150 hL rfl ?_ | refine g_ildr Rw.b rfl (by omega) rfl (by omega) dL_holds_150 hL rfl ?_ | refine g_ildr Rw.c rfl (by omega) rfl (by omega) dL_holds_150 hL rfl ?_
          refine g_ist8 (by decide) dL_holds_151 ?_
          refine g_ald3 dL_holds_153 ?_
          refine g_bipush (v := nI 6) dL_holds_154 (by decide +kernel) ?_
          refine g_ild5 dL_holds_156 ?_
          first | refine g_imul_n dL_holds_158 ?_ | refine g_imul dL_holds_158 ?_
          show Go _ _ _ _ _ _ 159 _ _
          refine g_iconst (v := nI 3) dL_holds_159 (by decide +kernel) ?_
          first | refine g_iadd_n dL_holds_160 ?_ | refine g_iadd dL_holds_160 ?_
          refine g_ild6 dL_holds_161 ?_
          refine g_if_eq_f (tgt := 171) dL_holds_163 (by decide) (by decide) ?_
          refine g_ild7 dL_holds_166 ?_
          refine g_goto (tgt := 180) dL_holds_168 (by decide) ?_
          show Go _ _ _ _ _ _ 180 _ _
          first | refine g_istr Rw.g rfl (by omega) rfl (by omega) dL_holds_180 hL hK ?_ | refine g_istr Rw.t rfl (by omega) rfl (by omega) dL_holds_180 hL hK ?_ | refine g_istr Rw.d rfl (by omega) rfl (by omega) dL_holds_180 hL hK ?_ | refine g_istr Rw.a rfl (by omega) rfl (by omega) dL_holds_180 hL hK ?_ | refine g_istr Rw.b rfl (by omega) rfl (by omega) dL_holds_180 hL hK ?_ | refine g_istr Rw.c rfl (by omega) rfl (by omega) dL_holds_180 hL hK ?_
          intro h hL hK
          refine g_ald0 dL_holds_181 ?_
          refine g_ild5 dL_holds_182 ?_
          refine g_ild7 dL_holds_184 ?_
          refine g_callV2 (c_putOff (h := h) M ni nd nj j (nI u) (hR.kr hi hd hj hK) hi hd hj hC hj9 ⟨nI_pos' (by omega), nI_le (b := 9999) (by omega) (by omega)⟩) mw_3_198 ok_X9_putOff ⟨by decide, by decide⟩ (by first | assumption | exact lay_item (by omega) | exact lay_drive (by omega) | exact lay_job (by omega) | rfl) (by omega) rfl (by omega) (by omega) (Nat.le_of_ble_eq_true rfl) dL_holds_186 (rI_K ?_)
          rw [e]
          rintro r h2 ⟨rfl, R2, K2⟩
          refine g_ild8 dL_holds_189 ?_
          show Go _ _ _ _ _ _ 191 _ _
          refine g_icmp_ne_f (tgt := 212) dL_holds_191 (by decide) rfl ?_
          refine g_ald0 dL_holds_194 ?_
          refine g_ild5 dL_holds_195 ?_
          refine g_sipush (v := nI 10000) dL_holds_197 (by decide +kernel) ?_
          refine g_callV2 (c_putOff_2 (h := h2) j nj (nI 10000) R2.2.2.2.2.2.2.2 R2.2.1.2.2.1 (by omega) hj9 (by decide)) mw_3_198 ok_X9_putOff ⟨by decide, by decide⟩ (by first | assumption | exact lay_item (by omega) | exact lay_drive (by omega) | exact lay_job (by omega) | rfl) (by omega) rfl (by omega) (by omega) (Nat.le_of_ble_eq_true rfl) dL_holds_200 (dI_K ?_)
          refine g_bipush (v := -2) dL_holds_203 (by decide +kernel) ?_
          show Go _ _ _ _ _ _ 205 _ _
          refine g_icmp_ne_f (tgt := 212) dL_holds_205 (by decide) rfl ?_
          refine g_iconst (v := nI 1) dL_holds_208 (by decide +kernel) ?_
          refine g_goto (tgt := 213) dL_holds_209 (by decide) ?_
          exact g_zret rfl rfl dL_holds_213 ⟨1, rfl, rfl, _, hL.kl K2, R2, inv_until _ hI, xt_until u hu hX⟩
      · have e : mPutO M j (nI u) = (M, -4) := by unfold mPutO; rw [if_neg c]
        refine g_ild6 dL_holds_113 ?_
        refine g_if_ne_f (tgt := 123) dL_holds_115 (by decide) rfl ?_
        refine g_bipush (v := -4) dL_holds_118 (by decide +kernel) ?_
        refine g_goto (tgt := 151) dL_holds_120 (by decide) ?_
        refine g_ist8 (by decide) dL_holds_151 ?_
        show Go _ _ _ _ _ _ 153 _ _
        refine g_ald3 dL_holds_153 ?_
        refine g_bipush (v := nI 6) dL_holds_154 (by decide +kernel) ?_
        refine g_ild5 dL_holds_156 ?_
        first | refine g_imul_n dL_holds_158 ?_ | refine g_imul dL_holds_158 ?_
        refine g_iconst (v := nI 3) dL_holds_159 (by decide +kernel) ?_
        first | refine g_iadd_n dL_holds_160 ?_ | refine g_iadd dL_holds_160 ?_
        show Go _ _ _ _ _ _ 161 _ _
        refine g_ild6 dL_holds_161 ?_
        refine g_if_eq_t (tgt := 171) dL_holds_163 (by decide) rfl ?_
        refine g_ald3 dL_holds_171 ?_
        refine g_bipush (v := nI 6) dL_holds_172 (by decide +kernel) ?_
        refine g_ild5 dL_holds_174 ?_
        first | refine g_imul_n dL_holds_176 ?_ | refine g_imul dL_holds_176 ?_
        show Go _ _ _ _ _ _ 177 _ _
        refine g_iconst (v := nI 3) dL_holds_177 (by decide +kernel) ?_
        first | refine g_iadd_n dL_holds_178 ?_ | refine g_iadd dL_holds_178 ?_
        first | refine g_ildr Rw.g rfl (by omega) rfl (by omega) dL_holds_179 hL rfl ?_ | refine g_ildr Rw.t rfl (by omega) rfl (by omega) dL_holds_179 hL rfl ?_ | refine g_ildr Rw.d rfl (by omega) rfl (by omega) dL_holds_179 hL rfl ?_ | refine g_ildr Rw.a rfl (by omega) rfl (by omega) dL_holds_179 hL rfl ?_ | refine g_ildr Rw.b rfl (by omega) rfl (by omega) dL_holds_179 hL rfl ?_ | refine g_ildr Rw.c rfl (by omega) rfl (by omega) dL_holds_179 hL rfl ?_
        first | refine g_istr Rw.g rfl (by omega) rfl (by omega) dL_holds_180 hL hK ?_ | refine g_istr Rw.t rfl (by omega) rfl (by omega) dL_holds_180 hL hK ?_ | refine g_istr Rw.d rfl (by omega) rfl (by omega) dL_holds_180 hL hK ?_ | refine g_istr Rw.a rfl (by omega) rfl (by omega) dL_holds_180 hL hK ?_ | refine g_istr Rw.b rfl (by omega) rfl (by omega) dL_holds_180 hL hK ?_ | refine g_istr Rw.c rfl (by omega) rfl (by omega) dL_holds_180 hL hK ?_
        intro h hL hK
        rw [up_same] at hL
        refine g_ald0 dL_holds_181 ?_
        refine g_ild5 dL_holds_182 ?_
        show Go _ _ _ _ _ _ 184 _ _
        refine g_ild7 dL_holds_184 ?_
        refine g_callV2 (c_putOff (h := h) M ni nd nj j (nI u) (hR.kr hi hd hj hK) hi hd hj hC hj9 ⟨nI_pos' (by omega), nI_le (b := 9999) (by omega) (by omega)⟩) mw_3_198 ok_X9_putOff ⟨by decide, by decide⟩ (by first | assumption | exact lay_item (by omega) | exact lay_drive (by omega) | exact lay_job (by omega) | rfl) (by omega) rfl (by omega) (by omega) (Nat.le_of_ble_eq_true rfl) dL_holds_186 (rI_K ?_)
        rw [e]
        rintro r h2 ⟨rfl, R2, K2⟩
        refine g_ild8 dL_holds_189 ?_
        refine g_icmp_ne_f (tgt := 212) dL_holds_191 (by decide) rfl ?_
        refine g_ald0 dL_holds_194 ?_
        refine g_ild5 dL_holds_195 ?_
        show Go _ _ _ _ _ _ 197 _ _
        refine g_sipush (v := nI 10000) dL_holds_197 (by decide +kernel) ?_
        refine g_callV2 (c_putOff_2 (h := h2) j nj (nI 10000) R2.2.2.2.2.2.2.2 R2.2.1.2.2.1 (by omega) hj9 (by decide)) mw_3_198 ok_X9_putOff ⟨by decide, by decide⟩ (by first | assumption | exact lay_item (by omega) | exact lay_drive (by omega) | exact lay_job (by omega) | rfl) (by omega) rfl (by omega) (by omega) (Nat.le_of_ble_eq_true rfl) dL_holds_200 (dI_K ?_)
        refine g_bipush (v := -2) dL_holds_203 (by decide +kernel) ?_
        refine g_icmp_ne_f (tgt := 212) dL_holds_205 (by decide) rfl ?_
        refine g_iconst (v := nI 1) dL_holds_208 (by decide +kernel) ?_
        refine g_goto (tgt := 213) dL_holds_209 (by decide) ?_
        show Go _ _ _ _ _ _ 213 _ _
        exact g_zret rfl rfl dL_holds_213 ⟨1, rfl, rfl, M, hL.kl K2, R2, hI, hX⟩
    have k214 : ∀ j x7 x8, j < nj → ∀ fl : Int32, ((fl = 1 ∧ M.1 3 (6 * j + 3) = 0) ∨ (fl = 0 ∧ ¬ M.1 3 (6 * j + 3) = 0)) → Go G mL_holds 456 (rI (fun r h' => r = 1 ∧ ∃ M', Tn h' M' ni nd nj T)) h 456 214 [some (ga G 0), some (ga G 449), some (ga G 453), some (ga G 454), some (.int x), some (.int (nI j)), some (.int fl), x7, x8] [] := by
      rintro j x7 x8 hj9 fl (⟨rfl, c⟩ | ⟨rfl, c⟩)
      · have loop : ∀ m i h1, m + i = nj → Lw h1 (mWdr M j) → KR h h1 → Go G mL_holds 456 (rI (fun r h' => r = 1 ∧ ∃ M', Tn h' M' ni nd nj T)) h1 456 264 [some (ga G 0), some (ga G 449), some (ga G 453), some (ga G 454), some (.int x), some (.int (nI j)), some (.int 1), some (.int (cnI (fun q => (mWdr M j).1 3 (6 * q + 3) = 0) i)), some (.int (nI i))] [] := by
          intro m
          induction m with
          | zero =>
            intro i h1 hin hL hK
            obtain rfl : i = nj := by omega
            refine g_ild8 dL_holds_264 ?_
            refine g_ald1 dL_holds_266 ?_
            refine g_bipush (v := nI 11) dL_holds_267 (by decide +kernel) ?_
            first | refine g_ildr Rw.g rfl (by omega) rfl (by omega) dL_holds_269 hL (v := (nI i)) z5 ?_ | refine g_ildr Rw.t rfl (by omega) rfl (by omega) dL_holds_269 hL (v := (nI i)) z5 ?_ | refine g_ildr Rw.d rfl (by omega) rfl (by omega) dL_holds_269 hL (v := (nI i)) z5 ?_ | refine g_ildr Rw.a rfl (by omega) rfl (by omega) dL_holds_269 hL (v := (nI i)) z5 ?_ | refine g_ildr Rw.b rfl (by omega) rfl (by omega) dL_holds_269 hL (v := (nI i)) z5 ?_ | refine g_ildr Rw.c rfl (by omega) rfl (by omega) dL_holds_269 hL (v := (nI i)) z5 ?_
            refine g_icmp_ge_t (tgt := 301) dL_holds_270 (by decide) (nI_le (by omega) (by omega)) ?_
            show Go _ _ _ _ _ _ 301 _ _
            refine g_ald0 dL_holds_301 ?_
            refine g_ild5 dL_holds_302 ?_
            refine g_callV1 (c_withdraw (h := h1) M ni nd i j (hR.kr hi hd hj hK) hi hd hj hC hj9 c) mw_3_202 ok_X9_withdraw ⟨by decide, by decide⟩ (by first | assumption | exact lay_item (by omega) | exact lay_drive (by omega) | exact lay_job (by omega) | rfl) (by omega) rfl (by omega) (by omega) (Nat.le_of_ble_eq_true rfl) dL_holds_304 (rI_K ?_)
            rintro r h2 ⟨rfl, R2, K2⟩
            refine g_ild7 dL_holds_307 ?_
            refine g_icmp_ne_f (tgt := 327) dL_holds_309 (by decide) rfl ?_
            refine g_ald0 dL_holds_312 ?_
            show Go _ _ _ _ _ _ 313 _ _
            refine g_ild5 dL_holds_313 ?_
            refine g_callV1 (c_withdraw_4 (h := h2) (mWdr M j) ni nd i j R2 hj hj9 (by simp (disch := omega) only [mWdr, up_ne, up_at]; decide)) mw_3_202 ok_X9_withdraw ⟨by decide, by decide⟩ (by first | assumption | exact lay_item (by omega) | exact lay_drive (by omega) | exact lay_job (by omega) | rfl) (by omega) rfl (by omega) (by omega) (Nat.le_of_ble_eq_true rfl) dL_holds_315 (dI_K ?_)
            refine g_bipush (v := -4) dL_holds_318 (by decide +kernel) ?_
            refine g_icmp_ne_f (tgt := 327) dL_holds_320 (by decide) rfl ?_
            refine g_iconst (v := nI 1) dL_holds_323 (by decide +kernel) ?_
            refine g_goto (tgt := 328) dL_holds_324 (by decide) ?_
            show Go _ _ _ _ _ _ 328 _ _
            exact g_zret rfl rfl dL_holds_328 ⟨1, rfl, rfl, _, hL.kl K2, R2, inv_wdr c hI, xt_wdr c hX⟩
          | succ m ih =>
            intro i h1 hin hL hK
            refine g_ild8 dL_holds_264 ?_
            refine g_ald1 dL_holds_266 ?_
            refine g_bipush (v := nI 11) dL_holds_267 (by decide +kernel) ?_
            first | refine g_ildr Rw.g rfl (by omega) rfl (by omega) dL_holds_269 hL (v := (nI nj)) z5 ?_ | refine g_ildr Rw.t rfl (by omega) rfl (by omega) dL_holds_269 hL (v := (nI nj)) z5 ?_ | refine g_ildr Rw.d rfl (by omega) rfl (by omega) dL_holds_269 hL (v := (nI nj)) z5 ?_ | refine g_ildr Rw.a rfl (by omega) rfl (by omega) dL_holds_269 hL (v := (nI nj)) z5 ?_ | refine g_ildr Rw.b rfl (by omega) rfl (by omega) dL_holds_269 hL (v := (nI nj)) z5 ?_ | refine g_ildr Rw.c rfl (by omega) rfl (by omega) dL_holds_269 hL (v := (nI nj)) z5 ?_
            refine g_icmp_ge_f (tgt := 301) dL_holds_270 (by decide) (nI_ge (by omega) (by omega)) ?_
            show Go _ _ _ _ _ _ 273 _ _
            refine g_ild7 dL_holds_273 ?_
            refine g_ald2 dL_holds_275 ?_
            refine g_bipush (v := nI 6) dL_holds_276 (by decide +kernel) ?_
            refine g_ild8 dL_holds_278 ?_
            first | refine g_imul_n dL_holds_280 ?_ | refine g_imul dL_holds_280 ?_
            refine g_iconst (v := nI 3) dL_holds_281 (by decide +kernel) ?_
            show Go _ _ _ _ _ _ 282 _ _
            first | refine g_iadd_n dL_holds_282 ?_ | refine g_iadd dL_holds_282 ?_
            first | refine g_ildr Rw.g rfl (by omega) rfl (by omega) dL_holds_283 hL rfl ?_ | refine g_ildr Rw.t rfl (by omega) rfl (by omega) dL_holds_283 hL rfl ?_ | refine g_ildr Rw.d rfl (by omega) rfl (by omega) dL_holds_283 hL rfl ?_ | refine g_ildr Rw.a rfl (by omega) rfl (by omega) dL_holds_283 hL rfl ?_ | refine g_ildr Rw.b rfl (by omega) rfl (by omega) dL_holds_283 hL rfl ?_ | refine g_ildr Rw.c rfl (by omega) rfl (by omega) dL_holds_283 hL rfl ?_
            refine g_if_ne (tgt := 291) dL_holds_284 (by decide) (fun c_284 => ?_) (fun c_284 => ?_)
            · skip
              refine g_iconst (v := nI 0) dL_holds_291 (by decide +kernel) ?_
              refine g_iadd_v dL_holds_292 (v := cnI (fun q => (mWdr M j).1 3 (6 * q + 3) = 0) (i + 1)) (congrArg (fun z => cnI (fun q => (mWdr M j).1 3 (6 * q + 3) = 0) i + z) (by first | exact (if_pos c_284).symm | exact (if_neg c_284).symm)) ?_
              refine g_ist7 (by decide) dL_holds_293 ?_
              show Go _ _ _ _ _ _ 295 _ _
              refine g_iinc8 (by decide) dL_holds_295 (nI_1 i) ?_
              refine g_goto (tgt := 264) dL_holds_298 (by decide) ?_
              exact ih (i + 1) h1 (by omega) hL hK
            · skip
              refine g_iconst (v := nI 1) dL_holds_287 (by decide +kernel) ?_
              refine g_goto (tgt := 292) dL_holds_288 (by decide) ?_
              refine g_iadd_v dL_holds_292 (v := cnI (fun q => (mWdr M j).1 3 (6 * q + 3) = 0) (i + 1)) (congrArg (fun z => cnI (fun q => (mWdr M j).1 3 (6 * q + 3) = 0) i + z) (by first | exact (if_pos c_284).symm | exact (if_neg c_284).symm)) ?_
              refine g_ist7 (by decide) dL_holds_293 ?_
              show Go _ _ _ _ _ _ 295 _ _
              refine g_iinc8 (by decide) dL_holds_295 (nI_1 i) ?_
              refine g_goto (tgt := 264) dL_holds_298 (by decide) ?_
              exact ih (i + 1) h1 (by omega) hL hK
        refine g_ild6 dL_holds_214 ?_
        refine g_if_ne_t (tgt := 236) dL_holds_216 (by decide) (by decide) ?_
        refine g_ald2 dL_holds_236 ?_
        refine g_bipush (v := nI 6) dL_holds_237 (by decide +kernel) ?_
        refine g_ild5 dL_holds_239 ?_
        show Go _ _ _ _ _ _ 241 _ _
        first | refine g_imul_n dL_holds_241 ?_ | refine g_imul dL_holds_241 ?_
        refine g_iconst (v := nI 3) dL_holds_242 (by decide +kernel) ?_
        first | refine g_iadd_n dL_holds_243 ?_ | refine g_iadd dL_holds_243 ?_
        refine g_iconst (v := nI 4) dL_holds_244 (by decide +kernel) ?_
        first | refine g_istr Rw.g rfl (by omega) rfl (by omega) dL_holds_245 hL hK ?_ | refine g_istr Rw.t rfl (by omega) rfl (by omega) dL_holds_245 hL hK ?_ | refine g_istr Rw.d rfl (by omega) rfl (by omega) dL_holds_245 hL hK ?_ | refine g_istr Rw.a rfl (by omega) rfl (by omega) dL_holds_245 hL hK ?_ | refine g_istr Rw.b rfl (by omega) rfl (by omega) dL_holds_245 hL hK ?_ | refine g_istr Rw.c rfl (by omega) rfl (by omega) dL_holds_245 hL hK ?_
        intro h hL hK
        refine g_ald3 dL_holds_246 ?_
        show Go _ _ _ _ _ _ 247 _ _
        refine g_bipush (v := nI 6) dL_holds_247 (by decide +kernel) ?_
        refine g_ild5 dL_holds_249 ?_
        first | refine g_imul_n dL_holds_251 ?_ | refine g_imul dL_holds_251 ?_
        refine g_iconst (v := nI 5) dL_holds_252 (by decide +kernel) ?_
        first | refine g_iadd_n dL_holds_253 ?_ | refine g_iadd dL_holds_253 ?_
        refine g_ald1 dL_holds_254 ?_
        show Go _ _ _ _ _ _ 255 _ _
        refine g_iconst (v := nI 0) dL_holds_255 (by decide +kernel) ?_
        first | refine g_ildr Rw.g rfl (by omega) rfl (by omega) dL_holds_256 hL (v := (M.1 0 0)) (by simp (disch := omega) only [up_ne]) ?_ | refine g_ildr Rw.t rfl (by omega) rfl (by omega) dL_holds_256 hL (v := (M.1 0 0)) (by simp (disch := omega) only [up_ne]) ?_ | refine g_ildr Rw.d rfl (by omega) rfl (by omega) dL_holds_256 hL (v := (M.1 0 0)) (by simp (disch := omega) only [up_ne]) ?_ | refine g_ildr Rw.a rfl (by omega) rfl (by omega) dL_holds_256 hL (v := (M.1 0 0)) (by simp (disch := omega) only [up_ne]) ?_ | refine g_ildr Rw.b rfl (by omega) rfl (by omega) dL_holds_256 hL (v := (M.1 0 0)) (by simp (disch := omega) only [up_ne]) ?_ | refine g_ildr Rw.c rfl (by omega) rfl (by omega) dL_holds_256 hL (v := (M.1 0 0)) (by simp (disch := omega) only [up_ne]) ?_
        first | refine g_istr Rw.g rfl (by omega) rfl (by omega) dL_holds_257 hL hK ?_ | refine g_istr Rw.t rfl (by omega) rfl (by omega) dL_holds_257 hL hK ?_ | refine g_istr Rw.d rfl (by omega) rfl (by omega) dL_holds_257 hL hK ?_ | refine g_istr Rw.a rfl (by omega) rfl (by omega) dL_holds_257 hL hK ?_ | refine g_istr Rw.b rfl (by omega) rfl (by omega) dL_holds_257 hL hK ?_ | refine g_istr Rw.c rfl (by omega) rfl (by omega) dL_holds_257 hL hK ?_
        intro h hL hK
        refine g_iconst (v := nI 0) dL_holds_258 (by decide +kernel) ?_
        refine g_ist7 (by decide) dL_holds_259 ?_
        refine g_iconst (v := nI 0) dL_holds_261 (by decide +kernel) ?_
        show Go _ _ _ _ _ _ 262 _ _
        refine g_ist8 (by decide) dL_holds_262 ?_
        exact loop nj 0 _ (by omega) hL hK
      · skip
        refine g_ild6 dL_holds_214 ?_
        refine g_if_ne_f (tgt := 236) dL_holds_216 (by decide) rfl ?_
        refine g_ald0 dL_holds_219 ?_
        refine g_ild5 dL_holds_220 ?_
        refine g_callV1 (c_withdraw_4 (h := h) M ni nd nj j hR hj hj9 c) mw_3_202 ok_X9_withdraw ⟨by decide, by decide⟩ (by first | assumption | exact lay_item (by omega) | exact lay_drive (by omega) | exact lay_job (by omega) | rfl) (by omega) rfl (by omega) (by omega) (Nat.le_of_ble_eq_true rfl) dL_holds_222 (dI_K ?_)
        show Go _ _ _ _ _ _ 225 _ _
        refine g_bipush (v := -4) dL_holds_225 (by decide +kernel) ?_
        refine g_icmp_ne_f (tgt := 234) dL_holds_227 (by decide) rfl ?_
        refine g_iconst (v := nI 1) dL_holds_230 (by decide +kernel) ?_
        refine g_goto (tgt := 235) dL_holds_231 (by decide) ?_
        exact g_zret rfl rfl dL_holds_235 ⟨1, rfl, rfl, M, hT⟩
    refine g_ald1 dL_holds_0 ?_
    refine g_bipush (v := nI 11) dL_holds_1 (by decide +kernel) ?_
    first | refine g_ildr Rw.g rfl (by omega) rfl (by omega) dL_holds_3 hL (v := (nI nj)) z5 ?_ | refine g_ildr Rw.t rfl (by omega) rfl (by omega) dL_holds_3 hL (v := (nI nj)) z5 ?_ | refine g_ildr Rw.d rfl (by omega) rfl (by omega) dL_holds_3 hL (v := (nI nj)) z5 ?_ | refine g_ildr Rw.a rfl (by omega) rfl (by omega) dL_holds_3 hL (v := (nI nj)) z5 ?_ | refine g_ildr Rw.b rfl (by omega) rfl (by omega) dL_holds_3 hL (v := (nI nj)) z5 ?_ | refine g_ildr Rw.c rfl (by omega) rfl (by omega) dL_holds_3 hL (v := (nI nj)) z5 ?_
    refine g_if_ne_t (tgt := 32) dL_holds_4 (by decide) (nI_ne0 hpos (by omega)) ?_
    refine g_ild4 dL_holds_32 ?_
    show Go _ _ _ _ _ _ 34 _ _
    refine g_ald1 dL_holds_34 ?_
    refine g_bipush (v := nI 11) dL_holds_35 (by decide +kernel) ?_
    first | refine g_ildr Rw.g rfl (by omega) rfl (by omega) dL_holds_37 hL (v := (nI nj)) z5 ?_ | refine g_ildr Rw.t rfl (by omega) rfl (by omega) dL_holds_37 hL (v := (nI nj)) z5 ?_ | refine g_ildr Rw.d rfl (by omega) rfl (by omega) dL_holds_37 hL (v := (nI nj)) z5 ?_ | refine g_ildr Rw.a rfl (by omega) rfl (by omega) dL_holds_37 hL (v := (nI nj)) z5 ?_ | refine g_ildr Rw.b rfl (by omega) rfl (by omega) dL_holds_37 hL (v := (nI nj)) z5 ?_ | refine g_ildr Rw.c rfl (by omega) rfl (by omega) dL_holds_37 hL (v := (nI nj)) z5 ?_
    refine g_callS2 (l_low (h := h) x nj hpos (by omega)) mw_2_118 ok_L_low ⟨by decide, by decide⟩ (by omega) (by omega) (Nat.le_of_ble_eq_true rfl) dL_holds_38 (rI_K ?_)
    rintro r h ⟨rfl, j, hj9, rfl⟩
    refine g_ist5 (by decide) dL_holds_41 ?_
    refine g_ald2 dL_holds_43 ?_
    show Go _ _ _ _ _ _ 44 _ _
    refine g_bipush (v := nI 6) dL_holds_44 (by decide +kernel) ?_
    refine g_ild5 dL_holds_46 ?_
    first | refine g_imul_n dL_holds_48 ?_ | refine g_imul dL_holds_48 ?_
    refine g_iconst (v := nI 3) dL_holds_49 (by decide +kernel) ?_
    first | refine g_iadd_n dL_holds_50 ?_ | refine g_iadd dL_holds_50 ?_
    first | refine g_ildr Rw.g rfl (by omega) rfl (by omega) dL_holds_51 hL rfl ?_ | refine g_ildr Rw.t rfl (by omega) rfl (by omega) dL_holds_51 hL rfl ?_ | refine g_ildr Rw.d rfl (by omega) rfl (by omega) dL_holds_51 hL rfl ?_ | refine g_ildr Rw.a rfl (by omega) rfl (by omega) dL_holds_51 hL rfl ?_ | refine g_ildr Rw.b rfl (by omega) rfl (by omega) dL_holds_51 hL rfl ?_ | refine g_ildr Rw.c rfl (by omega) rfl (by omega) dL_holds_51 hL rfl ?_
    show Go _ _ _ _ _ _ 52 _ _
    refine g_if_ne (tgt := 59) dL_holds_52 (by decide) (fun c_52 => ?_) (fun c_52 => ?_)
    · skip
      refine g_iconst (v := nI 0) dL_holds_59 (by decide +kernel) ?_
      refine g_ist6 (by decide) dL_holds_60 ?_
      refine g_ild4 dL_holds_62 ?_
      refine g_bipush (v := nI 8) dL_holds_64 (by decide +kernel) ?_
      refine g_ishr dL_holds_66 ?_
      show Go _ _ _ _ _ _ 67 _ _
      refine g_iconst (v := nI 3) dL_holds_67 (by decide +kernel) ?_
      refine g_callS2 (l_low (h := h) _ 3 (by omega) (by omega)) mw_2_118 ok_L_low ⟨by decide, by decide⟩ (by omega) (by omega) (Nat.le_of_ble_eq_true rfl) dL_holds_68 (rI_K ?_)
      rintro r h ⟨rfl, p, hp9, rfl⟩
      refine g_if_le (tgt := 214) dL_holds_71 (by decide) (fun c_71 => ?_) (fun c_71 => ?_)
      · skip
        first | exact k214 j _ _ hj9 1 (Or.inl ⟨rfl, c_52⟩) | exact k214 j _ _ hj9 0 (Or.inr ⟨rfl, c_52⟩)
      · skip
        refine g_ild4 dL_holds_74 ?_
        refine g_iconst (v := nI 5) dL_holds_76 (by decide +kernel) ?_
        refine g_ishr dL_holds_77 ?_
        show Go _ _ _ _ _ _ 78 _ _
        refine g_iconst (v := nI 2) dL_holds_78 (by decide +kernel) ?_
        refine g_callS2 (l_low (h := h) _ 2 (by omega) (by omega)) mw_2_118 ok_L_low ⟨by decide, by decide⟩ (by omega) (by omega) (Nat.le_of_ble_eq_true rfl) dL_holds_79 (rI_K ?_)
        rintro r h ⟨rfl, p2, hp2, rfl⟩
        obtain ⟨u0, hu0, hu1⟩ := hU j hj9
        refine g_if_ne (tgt := 97) dL_holds_82 (by decide) (fun c_82 => ?_) (fun c_82 => ?_)
        · skip
          refine g_ald1 dL_holds_97 ?_
          refine g_iconst (v := nI 0) dL_holds_98 (by decide +kernel) ?_
          first | refine g_ildr Rw.g rfl (by omega) rfl (by omega) dL_holds_99 hL (v := (nI T)) h00 ?_ | refine g_ildr Rw.t rfl (by omega) rfl (by omega) dL_holds_99 hL (v := (nI T)) h00 ?_ | refine g_ildr Rw.d rfl (by omega) rfl (by omega) dL_holds_99 hL (v := (nI T)) h00 ?_ | refine g_ildr Rw.a rfl (by omega) rfl (by omega) dL_holds_99 hL (v := (nI T)) h00 ?_ | refine g_ildr Rw.b rfl (by omega) rfl (by omega) dL_holds_99 hL (v := (nI T)) h00 ?_ | refine g_ildr Rw.c rfl (by omega) rfl (by omega) dL_holds_99 hL (v := (nI T)) h00 ?_
          show Go _ _ _ _ _ _ 100 _ _
          refine g_ild4 dL_holds_100 ?_
          refine g_bipush (v := nI 11) dL_holds_102 (by decide +kernel) ?_
          refine g_ishr dL_holds_104 ?_
          refine g_bipush (v := nI 30) dL_holds_105 (by decide +kernel) ?_
          refine g_callS2 (l_low (h := h) _ 30 (by omega) (by omega)) mw_2_118 ok_L_low ⟨by decide, by decide⟩ (by omega) (by omega) (Nat.le_of_ble_eq_true rfl) dL_holds_107 (rI_K ?_)
          rintro r h ⟨rfl, p3, hp3, rfl⟩
          first | refine g_iadd_n dL_holds_110 ?_ | refine g_iadd dL_holds_110 ?_
          show Go _ _ _ _ _ _ 111 _ _
          refine g_ist7 (by decide) dL_holds_111 ?_
          first | exact k113 j u0 _ hj9 hu0 1 (Or.inl ⟨rfl, c_52⟩) | exact k113 j u0 _ hj9 hu0 0 (Or.inr ⟨rfl, c_52⟩) | exact k113 j (T + p3) _ hj9 (by omega) 1 (Or.inl ⟨rfl, c_52⟩) | exact k113 j (T + p3) _ hj9 (by omega) 0 (Or.inr ⟨rfl, c_52⟩)
        · skip
          refine g_ald3 dL_holds_85 ?_
          refine g_bipush (v := nI 6) dL_holds_86 (by decide +kernel) ?_
          refine g_ild5 dL_holds_88 ?_
          first | refine g_imul_n dL_holds_90 ?_ | refine g_imul dL_holds_90 ?_
          refine g_iconst (v := nI 3) dL_holds_91 (by decide +kernel) ?_
          show Go _ _ _ _ _ _ 92 _ _
          first | refine g_iadd_n dL_holds_92 ?_ | refine g_iadd dL_holds_92 ?_
          first | refine g_ildr Rw.g rfl (by omega) rfl (by omega) dL_holds_93 hL (v := (nI u0)) hu1 ?_ | refine g_ildr Rw.t rfl (by omega) rfl (by omega) dL_holds_93 hL (v := (nI u0)) hu1 ?_ | refine g_ildr Rw.d rfl (by omega) rfl (by omega) dL_holds_93 hL (v := (nI u0)) hu1 ?_ | refine g_ildr Rw.a rfl (by omega) rfl (by omega) dL_holds_93 hL (v := (nI u0)) hu1 ?_ | refine g_ildr Rw.b rfl (by omega) rfl (by omega) dL_holds_93 hL (v := (nI u0)) hu1 ?_ | refine g_ildr Rw.c rfl (by omega) rfl (by omega) dL_holds_93 hL (v := (nI u0)) hu1 ?_
          refine g_goto (tgt := 111) dL_holds_94 (by decide) ?_
          refine g_ist7 (by decide) dL_holds_111 ?_
          first | exact k113 j u0 _ hj9 hu0 1 (Or.inl ⟨rfl, c_52⟩) | exact k113 j u0 _ hj9 hu0 0 (Or.inr ⟨rfl, c_52⟩) | exact k113 j (T + p3) _ hj9 (by omega) 1 (Or.inl ⟨rfl, c_52⟩) | exact k113 j (T + p3) _ hj9 (by omega) 0 (Or.inr ⟨rfl, c_52⟩)
    · skip
      refine g_iconst (v := nI 1) dL_holds_55 (by decide +kernel) ?_
      refine g_goto (tgt := 60) dL_holds_56 (by decide) ?_
      show Go _ _ _ _ _ _ 60 _ _
      refine g_ist6 (by decide) dL_holds_60 ?_
      refine g_ild4 dL_holds_62 ?_
      refine g_bipush (v := nI 8) dL_holds_64 (by decide +kernel) ?_
      refine g_ishr dL_holds_66 ?_
      refine g_iconst (v := nI 3) dL_holds_67 (by decide +kernel) ?_
      refine g_callS2 (l_low (h := h) _ 3 (by omega) (by omega)) mw_2_118 ok_L_low ⟨by decide, by decide⟩ (by omega) (by omega) (Nat.le_of_ble_eq_true rfl) dL_holds_68 (rI_K ?_)
      rintro r h ⟨rfl, p, hp9, rfl⟩
      show Go _ _ _ _ _ _ 71 _ _
      refine g_if_le (tgt := 214) dL_holds_71 (by decide) (fun c_71 => ?_) (fun c_71 => ?_)
      · skip
        first | exact k214 j _ _ hj9 1 (Or.inl ⟨rfl, c_52⟩) | exact k214 j _ _ hj9 0 (Or.inr ⟨rfl, c_52⟩)
      · skip
        refine g_ild4 dL_holds_74 ?_
        refine g_iconst (v := nI 5) dL_holds_76 (by decide +kernel) ?_
        refine g_ishr dL_holds_77 ?_
        refine g_iconst (v := nI 2) dL_holds_78 (by decide +kernel) ?_
        refine g_callS2 (l_low (h := h) _ 2 (by omega) (by omega)) mw_2_118 ok_L_low ⟨by decide, by decide⟩ (by omega) (by omega) (Nat.le_of_ble_eq_true rfl) dL_holds_79 (rI_K ?_)
        rintro r h ⟨rfl, p2, hp2, rfl⟩
        obtain ⟨u0, hu0, hu1⟩ := hU j hj9
        show Go _ _ _ _ _ _ 82 _ _
        refine g_if_ne (tgt := 97) dL_holds_82 (by decide) (fun c_82 => ?_) (fun c_82 => ?_)
        · skip
          refine g_ald1 dL_holds_97 ?_
          refine g_iconst (v := nI 0) dL_holds_98 (by decide +kernel) ?_
          first | refine g_ildr Rw.g rfl (by omega) rfl (by omega) dL_holds_99 hL (v := (nI T)) h00 ?_ | refine g_ildr Rw.t rfl (by omega) rfl (by omega) dL_holds_99 hL (v := (nI T)) h00 ?_ | refine g_ildr Rw.d rfl (by omega) rfl (by omega) dL_holds_99 hL (v := (nI T)) h00 ?_ | refine g_ildr Rw.a rfl (by omega) rfl (by omega) dL_holds_99 hL (v := (nI T)) h00 ?_ | refine g_ildr Rw.b rfl (by omega) rfl (by omega) dL_holds_99 hL (v := (nI T)) h00 ?_ | refine g_ildr Rw.c rfl (by omega) rfl (by omega) dL_holds_99 hL (v := (nI T)) h00 ?_
          refine g_ild4 dL_holds_100 ?_
          refine g_bipush (v := nI 11) dL_holds_102 (by decide +kernel) ?_
          show Go _ _ _ _ _ _ 104 _ _
          refine g_ishr dL_holds_104 ?_
          refine g_bipush (v := nI 30) dL_holds_105 (by decide +kernel) ?_
          refine g_callS2 (l_low (h := h) _ 30 (by omega) (by omega)) mw_2_118 ok_L_low ⟨by decide, by decide⟩ (by omega) (by omega) (Nat.le_of_ble_eq_true rfl) dL_holds_107 (rI_K ?_)
          rintro r h ⟨rfl, p3, hp3, rfl⟩
          first | refine g_iadd_n dL_holds_110 ?_ | refine g_iadd dL_holds_110 ?_
          refine g_ist7 (by decide) dL_holds_111 ?_
          first | exact k113 j u0 _ hj9 hu0 1 (Or.inl ⟨rfl, c_52⟩) | exact k113 j u0 _ hj9 hu0 0 (Or.inr ⟨rfl, c_52⟩) | exact k113 j (T + p3) _ hj9 (by omega) 1 (Or.inl ⟨rfl, c_52⟩) | exact k113 j (T + p3) _ hj9 (by omega) 0 (Or.inr ⟨rfl, c_52⟩)
        · skip
          refine g_ald3 dL_holds_85 ?_
          show Go _ _ _ _ _ _ 86 _ _
          refine g_bipush (v := nI 6) dL_holds_86 (by decide +kernel) ?_
          refine g_ild5 dL_holds_88 ?_
          first | refine g_imul_n dL_holds_90 ?_ | refine g_imul dL_holds_90 ?_
          refine g_iconst (v := nI 3) dL_holds_91 (by decide +kernel) ?_
          first | refine g_iadd_n dL_holds_92 ?_ | refine g_iadd dL_holds_92 ?_
          first | refine g_ildr Rw.g rfl (by omega) rfl (by omega) dL_holds_93 hL (v := (nI u0)) hu1 ?_ | refine g_ildr Rw.t rfl (by omega) rfl (by omega) dL_holds_93 hL (v := (nI u0)) hu1 ?_ | refine g_ildr Rw.d rfl (by omega) rfl (by omega) dL_holds_93 hL (v := (nI u0)) hu1 ?_ | refine g_ildr Rw.a rfl (by omega) rfl (by omega) dL_holds_93 hL (v := (nI u0)) hu1 ?_ | refine g_ildr Rw.b rfl (by omega) rfl (by omega) dL_holds_93 hL (v := (nI u0)) hu1 ?_ | refine g_ildr Rw.c rfl (by omega) rfl (by omega) dL_holds_93 hL (v := (nI u0)) hu1 ?_
          show Go _ _ _ _ _ _ 94 _ _
          refine g_goto (tgt := 111) dL_holds_94 (by decide) ?_
          refine g_ist7 (by decide) dL_holds_111 ?_
          first | exact k113 j u0 _ hj9 hu0 1 (Or.inl ⟨rfl, c_52⟩) | exact k113 j u0 _ hj9 hu0 0 (Or.inr ⟨rfl, c_52⟩) | exact k113 j (T + p3) _ hj9 (by omega) 1 (Or.inl ⟨rfl, c_52⟩) | exact k113 j (T + p3) _ hj9 (by omega) 0 (Or.inr ⟨rfl, c_52⟩)
end P42b
