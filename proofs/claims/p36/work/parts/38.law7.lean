/-! ===== THE LAW'S TICKS ===== -/
def Fk (M : Mo) (ni : Nat) : Prop := ∀ i, i < ni → ∃ f, f < 9 ∧ M.1 1 (6 * i + 4) = nI f
def Md (M : Mo) (nj : Nat) : Prop := ∀ j, j < nj → M.1 3 (6 * j) = 2 → M.1 3 (6 * j + 5) = -5
def Un (M : Mo) (nj : Nat) : Prop := ∀ j, j < nj → ∃ u, u ≤ 5000 ∧ M.1 4 (6 * j + 3) = nI u
def Xt (M : Mo) (ni nd nj : Nat) : Prop := Iz M ni nd nj ∧ Fk M ni ∧ Md M nj ∧ Un M nj
section P38
variable {M : Mo} {ni nd nj T : Nat}
theorem Xt.of {S : Mo} (h : Xt M ni nd nj) (h0 : ∀ a, 9 ≤ a → a ≤ 11 → S.1 0 a = M.1 0 a) (h1 : ∀ i, i < ni → S.1 1 (6 * i + 4) = M.1 1 (6 * i + 4)) (h2 : ∀ j, S.1 3 (6 * j) = M.1 3 (6 * j)) (h3 : ∀ j, M.1 3 (6 * j) = 2 → S.1 3 (6 * j + 5) = M.1 3 (6 * j + 5) ∨ S.1 3 (6 * j + 5) = -5) (h4 : ∀ j, S.1 4 (6 * j + 3) = M.1 4 (6 * j + 3)) : Xt S ni nd nj := by
  obtain ⟨⟨z1, z2, z3, z4, z5, z6⟩, f, m, u⟩ := h
  refine ⟨⟨(h0 9 (by omega) (by omega)).trans z1, z2, (h0 10 (by omega) (by omega)).trans z3, z4, (h0 11 (by omega) (by omega)).trans z5, z6⟩, fun i hi => ?_, fun j hj z => ?_, fun j hj => ?_⟩
  · rw [h1 i hi]; exact f i hi
  · rw [h2 j] at z
    rcases h3 j z with e | e
    · rw [e]; exact m j hj z
    · exact e
  · rw [h4 j]; exact u j hj
theorem xt_bg (hI : Inv M ni nd nj T) (hT : T < 1500) (h : Xt M ni nd nj) : Xt (mBg M ni nd nj) ni nd nj := by
  unfold mBg
  split
  · refine h.of (fun a h1 h2 => ?_) (fun i hi => ?_) (fun j => ?_) (fun j z => ?_) (fun j => ?_)
    · simp (disch := omega) only [mBegin, up_ne]
    · simp (disch := omega) only [mBegin, up_ne]
    · simp (disch := omega) only [mBegin, up_ne]
    · by_cases e : j = (aJ M ni nd nj).toNatClampNeg
      · refine Or.inr ?_
        subst e
        simp (disch := omega) only [mBegin, up_ne, up_at]
        unfold kdO; rw [z, if_neg (by decide), if_neg (by decide)]
      · exact Or.inl (by simp (disch := omega) only [mBegin, up_ne])
    · simp (disch := omega) only [mBegin, up_ne]
  · exact h
theorem xt_run (hI : Inv M ni nd nj T) (hT : T < 1500) (h : Xt M ni nd nj) : Xt (mRun M).1 ni nd nj := by
  unfold mRun
  rcases hI.2.2.2.2.2.2 with w7 | ⟨j, it, k, q, hB⟩
  · rw [if_pos w7.1]
    exact h.of (fun a h1 h2 => by simp (disch := omega) only [mIdle, up_ne]) (fun i hi => rfl) (fun j => rfl) (fun j z => Or.inl rfl) (fun j => rfl)
  · obtain ⟨⟨hi, hd, hj10⟩, -⟩ := id hI.1
    obtain ⟨a, -, -, b⟩ := own_o hB.1 hj10 hi hd
    rw [if_neg b, a]
    obtain ⟨hO, hB1, hB2, hB3⟩ := id hB
    obtain ⟨⟨⟨x1, x2, x3, x4, x5⟩, x6, x7, x8, x9, x10, x11⟩, -⟩ := stp hI.1 hI.2.1 hO hB1
    unfold mDo
    rw [ms_o hO hj10 hi hd]
    have hS : Xt (mStep M j it k).1 ni nd nj := h.of (fun a h1 h2 => x6 a (by omega) h2) (fun i hi => (x7 i hi).2.1) (fun n => by rw [x3]) (fun n z => Or.inl (by rw [x3])) (fun n => x9 _ (by omega) (by omega))
    split
    · exact hS
    · unfold mAfter
      by_cases cc : (mStep M j it k).1.1 3 (6 * j + 4) + 1 = (if (mStep M j it k).1.1 3 (6 * j) = 2 then 4 else 8)
      · rw [if_pos cc]
        exact hS.of (fun a h1 h2 => by simp (disch := omega) only [mEnd, mEnd1, mNext, up_ne]) (fun i hi => by simp (disch := omega) only [mEnd, mEnd1, mNext, up_ne]) (fun j => by simp (disch := omega) only [mEnd, mEnd1, mNext, up_ne]) (fun j z => Or.inl (by simp (disch := omega) only [mEnd, mEnd1, mNext, up_ne])) (fun j => by simp (disch := omega) only [mEnd, mEnd1, mNext, up_ne])
      · rw [if_neg cc]
        exact hS.of (fun a h1 h2 => by simp (disch := omega) only [mNext, up_ne]) (fun i hi => by simp (disch := omega) only [mNext, up_ne]) (fun j => by simp (disch := omega) only [mNext, up_ne]) (fun j z => Or.inl (by simp (disch := omega) only [mNext, up_ne])) (fun j => by simp (disch := omega) only [mNext, up_ne])
theorem xt_one (hI : Inv M ni nd nj T) (hT : T < 1500) (h : Xt M ni nd nj) : Xt (mOne M ni nd nj).1 ni nd nj :=
  (xt_run (inv_bg hI (by omega)) hT (xt_bg hI hT h)).of (fun a h1 h2 => by simp (disch := omega) only [mOne, mPass, up_ne, uf_i]) (fun i hi => rfl) (fun j => rfl) (fun j z => Or.inl rfl) (fun j => rfl)
theorem xt_ticks (hI : Inv M ni nd nj T) (h : Xt M ni nd nj) : ∀ n, T + n ≤ 1500 → Xt (mTicks ni nd nj n M).1 ni nd nj
  | 0, _ => h
  | n + 1, hn => xt_one (inv_ticks hI n (by omega)) (show T + n < 1500 by omega) (xt_ticks hI h n (by omega))
end P38
section P38b
variable {G : Gl} {h : Hp}
theorem l_ticks (M : Mo) (ni nd nj T : Nat) (hL : Lw h M) (hI : Inv M ni nd nj T) (hX : Xt M ni nd nj) (hT : T < 1500) : Ct G mL_ticks [ga G 449, ga G 450, ga G 451, ga G 452, ga G 453, ga G 454, ga G 455] h 456 456 (rI (fun r h' => r = (mOne M ni nd nj).2 ∧ Lw h' (mOne M ni nd nj).1 ∧ KR h h')) := by
  obtain ⟨⟨hi, hd, hj⟩, hp, hH, hC, hf, hu, hJb, hsl⟩ := id hI.1
  have hz := hX.1
  have hK := KR.rf h
  have hIB := inv_bg hI (by omega)
  have hXB := xt_bg hI hT hX
  have hzz : ∀ M', (∀ a, 9 ≤ a → a ≤ 11 → M'.1 0 a = M.1 0 a) → Iz M' ni nd nj := fun M' e => ⟨(e 9 (by omega) (by omega)).trans hz.1, hz.2.1, (e 10 (by omega) (by omega)).trans hz.2.2.1, hz.2.2.2.1, (e 11 (by omega) (by omega)).trans hz.2.2.2.2.1, hz.2.2.2.2.2⟩
  have tail2 : ∀ h1 (N : Mo) (r : Int32) x, Lw h1 N → KR h h1 → mRun (mBg M ni nd nj) = (N, r) → Go G mL_ticks 456 (rI (fun r h' => r = (mOne M ni nd nj).2 ∧ Lw h' (mOne M ni nd nj).1 ∧ KR h h')) h1 456 324 [some (ga G 449), some (ga G 450), some (ga G 451), some (ga G 452), some (ga G 453), some (ga G 454), some (ga G 455), some (.int r), x] [] := by
    intro h1 N r x hL hK e
    have g8 : Gd (N.2 8) := by have := (inw_run hIB hT).1.2.2.2.2.1.2.1; rw [e] at this; exact this
    have e1 : mOne M ni nd nj = (mPass N, r) := by unfold mOne; rw [e]
    rw [e1]
    refine g_ald3 dL_ticks_324 ?_
    refine g_bipush (v := nI 8) dL_ticks_325 (by decide +kernel) ?_
    refine g_ald3 dL_ticks_327 ?_
    refine g_bipush (v := nI 8) dL_ticks_328 (by decide +kernel) ?_
    refine g_dldr rfl (by omega) rfl (by omega) dL_ticks_330 hL rfl ?_
    show Go _ _ _ _ _ _ 331 _ _
    refine g_d2f dL_ticks_331 (by rw [fl_rt g8]; exact fl_n32 g8) (fl_rt g8) ?_
    refine g_ldcf mw_4_16 dL_ticks_332 ?_
    refine g_fmul dL_ticks_334 (fl_n32 (fl_mul75 g8)) ?_
    refine g_f2d dL_ticks_335 (fl_n64 (fl_mul75 g8)) ?_
    refine g_dstr rfl (by omega) rfl (by omega) dL_ticks_336 hL hK ?_
    intro h hL hK
    refine g_ald0 dL_ticks_337 ?_
    show Go _ _ _ _ _ _ 338 _ _
    refine g_iconst (v := nI 0) dL_ticks_338 (by decide +kernel) ?_
    refine g_dup2 dL_ticks_339 rfl rfl ?_
    first | refine g_ildr Rw.g rfl (by omega) rfl (by omega) dL_ticks_340 hL (v := (N.1 0 0)) (by simp (disch := omega) only [uf_i]) ?_ | refine g_ildr Rw.t rfl (by omega) rfl (by omega) dL_ticks_340 hL (v := (N.1 0 0)) (by simp (disch := omega) only [uf_i]) ?_ | refine g_ildr Rw.d rfl (by omega) rfl (by omega) dL_ticks_340 hL (v := (N.1 0 0)) (by simp (disch := omega) only [uf_i]) ?_ | refine g_ildr Rw.a rfl (by omega) rfl (by omega) dL_ticks_340 hL (v := (N.1 0 0)) (by simp (disch := omega) only [uf_i]) ?_ | refine g_ildr Rw.b rfl (by omega) rfl (by omega) dL_ticks_340 hL (v := (N.1 0 0)) (by simp (disch := omega) only [uf_i]) ?_ | refine g_ildr Rw.c rfl (by omega) rfl (by omega) dL_ticks_340 hL (v := (N.1 0 0)) (by simp (disch := omega) only [uf_i]) ?_
    refine g_iconst (v := nI 1) dL_ticks_341 (by decide +kernel) ?_
    refine g_iadd dL_ticks_342 ?_
    first | refine g_istr Rw.g rfl (by omega) rfl (by omega) dL_ticks_343 hL hK ?_ | refine g_istr Rw.t rfl (by omega) rfl (by omega) dL_ticks_343 hL hK ?_ | refine g_istr Rw.d rfl (by omega) rfl (by omega) dL_ticks_343 hL hK ?_ | refine g_istr Rw.a rfl (by omega) rfl (by omega) dL_ticks_343 hL hK ?_ | refine g_istr Rw.b rfl (by omega) rfl (by omega) dL_ticks_343 hL hK ?_ | refine g_istr Rw.c rfl (by omega) rfl (by omega) dL_ticks_343 hL hK ?_
    intro h hL hK
    show Go _ _ _ _ _ _ 344 _ _
    refine g_ild7 dL_ticks_344 ?_
    exact g_iret rfl dL_ticks_346 ⟨r, rfl, rfl, hL, hK⟩
  have tail : ∀ h1 x, Lw h1 (mBg M ni nd nj) → KR h h1 → Go G mL_ticks 456 (rI (fun r h' => r = (mOne M ni nd nj).2 ∧ Lw h' (mOne M ni nd nj).1 ∧ KR h h')) h1 456 157 [some (ga G 449), some (ga G 450), some (ga G 451), some (ga G 452), some (ga G 453), some (ga G 454), some (ga G 455), some (.int 0), x] [] := by
    intro h1 x hL hK
    generalize hBB : mBg M ni nd nj = B at hL hIB hXB tail2
    rcases hIB.2.2.2.2.2.2 with hid | ⟨j, it, k, q, hO, hO2⟩
    · have e3 := hid.1
      refine g_ald0 dL_ticks_157 ?_
      refine g_iconst (v := nI 3) dL_ticks_158 (by decide +kernel) ?_
      first | refine g_ildr Rw.g rfl (by omega) rfl (by omega) dL_ticks_159 hL (v := (-5)) e3 ?_ | refine g_ildr Rw.t rfl (by omega) rfl (by omega) dL_ticks_159 hL (v := (-5)) e3 ?_ | refine g_ildr Rw.d rfl (by omega) rfl (by omega) dL_ticks_159 hL (v := (-5)) e3 ?_ | refine g_ildr Rw.a rfl (by omega) rfl (by omega) dL_ticks_159 hL (v := (-5)) e3 ?_ | refine g_ildr Rw.b rfl (by omega) rfl (by omega) dL_ticks_159 hL (v := (-5)) e3 ?_ | refine g_ildr Rw.c rfl (by omega) rfl (by omega) dL_ticks_159 hL (v := (-5)) e3 ?_
      refine g_ist8 (by decide) dL_ticks_160 ?_
      refine g_ald0 dL_ticks_162 ?_
      show Go _ _ _ _ _ _ 163 _ _
      refine g_bipush (v := nI 17) dL_ticks_163 (by decide +kernel) ?_
      refine g_dup2 dL_ticks_165 rfl rfl ?_
      first | refine g_ildr Rw.g rfl (by omega) rfl (by omega) dL_ticks_166 hL rfl ?_ | refine g_ildr Rw.t rfl (by omega) rfl (by omega) dL_ticks_166 hL rfl ?_ | refine g_ildr Rw.d rfl (by omega) rfl (by omega) dL_ticks_166 hL rfl ?_ | refine g_ildr Rw.a rfl (by omega) rfl (by omega) dL_ticks_166 hL rfl ?_ | refine g_ildr Rw.b rfl (by omega) rfl (by omega) dL_ticks_166 hL rfl ?_ | refine g_ildr Rw.c rfl (by omega) rfl (by omega) dL_ticks_166 hL rfl ?_
      refine g_ild8 dL_ticks_167 ?_
      refine g_if_ge_f (tgt := 176) dL_ticks_169 (by decide) (by decide) ?_
      refine g_iconst (v := nI 1) dL_ticks_172 (by decide +kernel) ?_
      show Go _ _ _ _ _ _ 173 _ _
      refine g_goto (tgt := 177) dL_ticks_173 (by decide) ?_
      refine g_iadd dL_ticks_177 ?_
      first | refine g_istr Rw.g rfl (by omega) rfl (by omega) dL_ticks_178 hL hK ?_ | refine g_istr Rw.t rfl (by omega) rfl (by omega) dL_ticks_178 hL hK ?_ | refine g_istr Rw.d rfl (by omega) rfl (by omega) dL_ticks_178 hL hK ?_ | refine g_istr Rw.a rfl (by omega) rfl (by omega) dL_ticks_178 hL hK ?_ | refine g_istr Rw.b rfl (by omega) rfl (by omega) dL_ticks_178 hL hK ?_ | refine g_istr Rw.c rfl (by omega) rfl (by omega) dL_ticks_178 hL hK ?_
      intro h hL hK
      refine g_ild8 dL_ticks_179 ?_
      refine g_if_lt_t (tgt := 324) dL_ticks_181 (by decide) (by decide) ?_
      exact tail2 _ (mIdle B) 0 _ hL hK (by unfold mRun; rw [if_pos e3])
    · obtain ⟨o1, o2, -, o4⟩ := own_o hO hj hi hd
      have hdo : mRun B = (if (mStep B j it k).2 = 0 then ((mStep B j it k).1, 0) else mAfter (mStep B j it k).1 j) := by
        unfold mRun mDo
        rw [if_neg o4, o1, ms_o hO hj hi hd]
      have X := stp hIB.1 hIB.2.1 hO hO2.1
      obtain ⟨⟨⟨x1, x2, x3, x4, x5⟩, x6, x7, x8, x9, x10, x11⟩, -⟩ := id X
      obtain ⟨⟨hj9, h3, h33, ht, h4, hq8⟩, hK9, -⟩ := id hO
      obtain ⟨f, hf9, hf4⟩ := hXB.2.1 it ht
      have hk7 : B.1 3 (6 * j) = 2 → q < 4 := by
        intro z
        rcases hK9 with ⟨z1, -⟩ | ⟨z1, -⟩ | ⟨-, -, -, z1⟩
        · rw [z1] at z; exact absurd z (by decide)
        · rw [z1] at z; exact absurd z (by decide)
        · exact z1
      have hsd := l_isDone (G := G) (h := h1) B ni nd nj j it k q f
      generalize hSS : mStep B j it k = S at hdo x3 hsd
      have hS4 : S.1.1 3 (6 * j + 4) = nI q := by rw [x3]; exact h4
      have hcond : (S.1.1 3 (6 * j + 4) + 1 = (if S.1.1 3 (6 * j) = 2 then 4 else 8)) ↔ (if B.1 3 (6 * j) = 2 then nI 4 else nI 8) = nI (q + 1) := by
        rw [hS4, x3, nI_1]
        by_cases z : B.1 3 (6 * j) = 2
        · rw [if_pos z, if_pos z]; exact ⟨fun y => y.symm, fun y => y.symm⟩
        · rw [if_neg z, if_neg z]; exact ⟨fun y => y.symm, fun y => y.symm⟩
      refine g_ald0 dL_ticks_157 ?_
      refine g_iconst (v := nI 3) dL_ticks_158 (by decide +kernel) ?_
      first | refine g_ildr Rw.g rfl (by omega) rfl (by omega) dL_ticks_159 hL (v := (nI j)) h3 ?_ | refine g_ildr Rw.t rfl (by omega) rfl (by omega) dL_ticks_159 hL (v := (nI j)) h3 ?_ | refine g_ildr Rw.d rfl (by omega) rfl (by omega) dL_ticks_159 hL (v := (nI j)) h3 ?_ | refine g_ildr Rw.a rfl (by omega) rfl (by omega) dL_ticks_159 hL (v := (nI j)) h3 ?_ | refine g_ildr Rw.b rfl (by omega) rfl (by omega) dL_ticks_159 hL (v := (nI j)) h3 ?_ | refine g_ildr Rw.c rfl (by omega) rfl (by omega) dL_ticks_159 hL (v := (nI j)) h3 ?_
      refine g_ist8 (by decide) dL_ticks_160 ?_
      refine g_ald0 dL_ticks_162 ?_
      show Go _ _ _ _ _ _ 163 _ _
      refine g_bipush (v := nI 17) dL_ticks_163 (by decide +kernel) ?_
      refine g_dup2 dL_ticks_165 rfl rfl ?_
      first | refine g_ildr Rw.g rfl (by omega) rfl (by omega) dL_ticks_166 hL rfl ?_ | refine g_ildr Rw.t rfl (by omega) rfl (by omega) dL_ticks_166 hL rfl ?_ | refine g_ildr Rw.d rfl (by omega) rfl (by omega) dL_ticks_166 hL rfl ?_ | refine g_ildr Rw.a rfl (by omega) rfl (by omega) dL_ticks_166 hL rfl ?_ | refine g_ildr Rw.b rfl (by omega) rfl (by omega) dL_ticks_166 hL rfl ?_ | refine g_ildr Rw.c rfl (by omega) rfl (by omega) dL_ticks_166 hL rfl ?_
      refine g_ild8 dL_ticks_167 ?_
      refine g_if_ge_t (tgt := 176) dL_ticks_169 (by decide) (Int32.not_lt.mp (nI_pos (by omega))) ?_
      refine g_iconst (v := nI 0) dL_ticks_176 (by decide +kernel) ?_
      show Go _ _ _ _ _ _ 177 _ _
      refine g_iadd_v dL_ticks_177 (v := B.1 0 17) (by rw [show nI 0 = 0 from rfl, Int32.add_zero]) ?_
      first | refine g_istr Rw.g rfl (by omega) rfl (by omega) dL_ticks_178 hL hK ?_ | refine g_istr Rw.t rfl (by omega) rfl (by omega) dL_ticks_178 hL hK ?_ | refine g_istr Rw.d rfl (by omega) rfl (by omega) dL_ticks_178 hL hK ?_ | refine g_istr Rw.a rfl (by omega) rfl (by omega) dL_ticks_178 hL hK ?_ | refine g_istr Rw.b rfl (by omega) rfl (by omega) dL_ticks_178 hL hK ?_ | refine g_istr Rw.c rfl (by omega) rfl (by omega) dL_ticks_178 hL hK ?_
      intro h hL hK
      rw [up_same] at hL
      refine g_ild8 dL_ticks_179 ?_
      refine g_if_lt_f (tgt := 324) dL_ticks_181 (by decide) (Int32.not_lt.mpr (nI_pos' (by omega))) ?_
      refine g_ald0 dL_ticks_184 ?_
      refine g_ald1 dL_ticks_185 ?_
      show Go _ _ _ _ _ _ 186 _ _
      refine g_ald2 dL_ticks_186 ?_
      refine g_ald3 dL_ticks_187 ?_
      refine g_ald4 dL_ticks_188 ?_
      refine g_ald5 dL_ticks_190 ?_
      refine g_ald6 dL_ticks_192 ?_
      refine g_callS7 (l_isDone (h := h) B ni nd nj j it k q f hL hIB.1 hO (fun z => hXB.2.2.1 j hj9 z) hf9 hf4) mw_4_0 ok_L_isDone ⟨by decide, by decide⟩ (by omega) (by omega) (Nat.le_of_ble_eq_true rfl) dL_ticks_194 (rI_K ?_)
      rw [hSS]
      rintro r h2 ⟨rfl, hL, hK2⟩
      have hK := hK.tr hK2
      show Go _ _ _ _ _ _ 197 _ _
      refine g_if_eq (tgt := 324) dL_ticks_197 (by decide) (fun c_197 => ?_) (fun c_197 => ?_)
      · skip
        have cE : S.2 = 0 := c_197
        first | exact tail2 _ S.1 0 _ hL hK (by rw [hdo, if_pos cE]) | exact tail2 _ (mNext S.1 j) 0 _ hL hK (by rw [hdo, if_neg cE]; unfold mAfter; rw [if_neg hne]) | exact tail2 _ (mEnd S.1 j) 1 _ (by unfold mEnd mEnd1; rw [if_neg hv]; exact hL) hK (by rw [hdo, if_neg cE]; unfold mAfter; rw [if_pos hne, if_neg hv]) | exact tail2 _ (mEnd S.1 j) 0 _ (by unfold mEnd mEnd1; rw [if_pos hv]; exact hL) hK (by rw [hdo, if_neg cE]; unfold mAfter; rw [if_pos hne, if_pos hv])
      · skip
        have cE : ¬ S.2 = 0 := c_197
        refine g_ald4 dL_ticks_200 ?_
        refine g_bipush (v := nI 6) dL_ticks_202 (by decide +kernel) ?_
        refine g_ild8 dL_ticks_204 ?_
        first | refine g_imul_n dL_ticks_206 ?_ | refine g_imul dL_ticks_206 ?_
        refine g_iconst (v := nI 4) dL_ticks_207 (by decide +kernel) ?_
        show Go _ _ _ _ _ _ 208 _ _
        first | refine g_iadd_n dL_ticks_208 ?_ | refine g_iadd dL_ticks_208 ?_
        refine g_dup2 dL_ticks_209 rfl rfl ?_
        first | refine g_ildr Rw.g rfl (by omega) rfl (by omega) dL_ticks_210 hL rfl ?_ | refine g_ildr Rw.t rfl (by omega) rfl (by omega) dL_ticks_210 hL rfl ?_ | refine g_ildr Rw.d rfl (by omega) rfl (by omega) dL_ticks_210 hL rfl ?_ | refine g_ildr Rw.a rfl (by omega) rfl (by omega) dL_ticks_210 hL rfl ?_ | refine g_ildr Rw.b rfl (by omega) rfl (by omega) dL_ticks_210 hL rfl ?_ | refine g_ildr Rw.c rfl (by omega) rfl (by omega) dL_ticks_210 hL rfl ?_
        refine g_iconst (v := nI 1) dL_ticks_211 (by decide +kernel) ?_
        refine g_iadd dL_ticks_212 ?_
        first | refine g_istr Rw.g rfl (by omega) rfl (by omega) dL_ticks_213 hL hK ?_ | refine g_istr Rw.t rfl (by omega) rfl (by omega) dL_ticks_213 hL hK ?_ | refine g_istr Rw.d rfl (by omega) rfl (by omega) dL_ticks_213 hL hK ?_ | refine g_istr Rw.a rfl (by omega) rfl (by omega) dL_ticks_213 hL hK ?_ | refine g_istr Rw.b rfl (by omega) rfl (by omega) dL_ticks_213 hL hK ?_ | refine g_istr Rw.c rfl (by omega) rfl (by omega) dL_ticks_213 hL hK ?_
        intro h hL hK
        show Go _ _ _ _ _ _ 214 _ _
        refine g_ald4 dL_ticks_214 ?_
        refine g_bipush (v := nI 6) dL_ticks_216 (by decide +kernel) ?_
        refine g_ild8 dL_ticks_218 ?_
        first | refine g_imul_n dL_ticks_220 ?_ | refine g_imul dL_ticks_220 ?_
        refine g_iconst (v := nI 4) dL_ticks_221 (by decide +kernel) ?_
        first | refine g_iadd_n dL_ticks_222 ?_ | refine g_iadd dL_ticks_222 ?_
        show Go _ _ _ _ _ _ 223 _ _
        first | refine g_ildr Rw.g rfl (by omega) rfl (by omega) dL_ticks_223 hL (v := (nI (q + 1))) (by simp (disch := omega) only [up_at]; rw [hS4]; exact nI_1 q) ?_ | refine g_ildr Rw.t rfl (by omega) rfl (by omega) dL_ticks_223 hL (v := (nI (q + 1))) (by simp (disch := omega) only [up_at]; rw [hS4]; exact nI_1 q) ?_ | refine g_ildr Rw.d rfl (by omega) rfl (by omega) dL_ticks_223 hL (v := (nI (q + 1))) (by simp (disch := omega) only [up_at]; rw [hS4]; exact nI_1 q) ?_ | refine g_ildr Rw.a rfl (by omega) rfl (by omega) dL_ticks_223 hL (v := (nI (q + 1))) (by simp (disch := omega) only [up_at]; rw [hS4]; exact nI_1 q) ?_ | refine g_ildr Rw.b rfl (by omega) rfl (by omega) dL_ticks_223 hL (v := (nI (q + 1))) (by simp (disch := omega) only [up_at]; rw [hS4]; exact nI_1 q) ?_ | refine g_ildr Rw.c rfl (by omega) rfl (by omega) dL_ticks_223 hL (v := (nI (q + 1))) (by simp (disch := omega) only [up_at]; rw [hS4]; exact nI_1 q) ?_
        refine g_ald4 dL_ticks_224 ?_
        refine g_bipush (v := nI 6) dL_ticks_226 (by decide +kernel) ?_
        refine g_ild8 dL_ticks_228 ?_
        first | refine g_imul_n dL_ticks_230 ?_ | refine g_imul dL_ticks_230 ?_
        first | refine g_ildr Rw.g rfl (by omega) rfl (by omega) dL_ticks_231 hL (v := (B.1 3 (6 * j))) (by simp (disch := omega) only [up_ne]; rw [x3]) ?_ | refine g_ildr Rw.t rfl (by omega) rfl (by omega) dL_ticks_231 hL (v := (B.1 3 (6 * j))) (by simp (disch := omega) only [up_ne]; rw [x3]) ?_ | refine g_ildr Rw.d rfl (by omega) rfl (by omega) dL_ticks_231 hL (v := (B.1 3 (6 * j))) (by simp (disch := omega) only [up_ne]; rw [x3]) ?_ | refine g_ildr Rw.a rfl (by omega) rfl (by omega) dL_ticks_231 hL (v := (B.1 3 (6 * j))) (by simp (disch := omega) only [up_ne]; rw [x3]) ?_ | refine g_ildr Rw.b rfl (by omega) rfl (by omega) dL_ticks_231 hL (v := (B.1 3 (6 * j))) (by simp (disch := omega) only [up_ne]; rw [x3]) ?_ | refine g_ildr Rw.c rfl (by omega) rfl (by omega) dL_ticks_231 hL (v := (B.1 3 (6 * j))) (by simp (disch := omega) only [up_ne]; rw [x3]) ?_
        show Go _ _ _ _ _ _ 232 _ _
        refine g_iconst (v := nI 2) dL_ticks_232 (by decide +kernel) ?_
        refine g_icmp_ne (tgt := 240) dL_ticks_233 (by decide) (fun c_233 => ?_) (fun c_233 => ?_)
        · skip
          refine g_bipush (v := nI 8) dL_ticks_240 (by decide +kernel) ?_
          refine g_icmp_ne (tgt := 324) dL_ticks_242 (by decide) (fun c_242 => ?_) (fun c_242 => ?_)
          · skip
            have hne : ¬ (S.1.1 3 (6 * j + 4) + 1 = (if S.1.1 3 (6 * j) = 2 then 4 else 8)) := fun z => c_242 (by have := hcond.mp z; rw [if_neg (show ¬ B.1 3 (6 * j) = 2 from c_233)] at this; exact this.symm)
            first | exact tail2 _ S.1 0 _ hL hK (by rw [hdo, if_pos cE]) | exact tail2 _ (mNext S.1 j) 0 _ hL hK (by rw [hdo, if_neg cE]; unfold mAfter; rw [if_neg hne]) | exact tail2 _ (mEnd S.1 j) 1 _ (by unfold mEnd mEnd1; rw [if_neg hv]; exact hL) hK (by rw [hdo, if_neg cE]; unfold mAfter; rw [if_pos hne, if_neg hv]) | exact tail2 _ (mEnd S.1 j) 0 _ (by unfold mEnd mEnd1; rw [if_pos hv]; exact hL) hK (by rw [hdo, if_neg cE]; unfold mAfter; rw [if_pos hne, if_pos hv])
          · skip
            have hne : S.1.1 3 (6 * j + 4) + 1 = (if S.1.1 3 (6 * j) = 2 then 4 else 8) := hcond.mpr (by rw [if_neg (show ¬ B.1 3 (6 * j) = 2 from c_233)]; exact c_242.symm)
            refine g_ald4 dL_ticks_245 ?_
            refine g_bipush (v := nI 6) dL_ticks_247 (by decide +kernel) ?_
            show Go _ _ _ _ _ _ 249 _ _
            refine g_ild8 dL_ticks_249 ?_
            first | refine g_imul_n dL_ticks_251 ?_ | refine g_imul dL_ticks_251 ?_
            refine g_iconst (v := nI 3) dL_ticks_252 (by decide +kernel) ?_
            first | refine g_iadd_n dL_ticks_253 ?_ | refine g_iadd dL_ticks_253 ?_
            refine g_ald5 dL_ticks_254 ?_
            refine g_bipush (v := nI 6) dL_ticks_256 (by decide +kernel) ?_
            show Go _ _ _ _ _ _ 258 _ _
            refine g_ild8 dL_ticks_258 ?_
            first | refine g_imul_n dL_ticks_260 ?_ | refine g_imul dL_ticks_260 ?_
            refine g_iconst (v := nI 1) dL_ticks_261 (by decide +kernel) ?_
            first | refine g_iadd_n dL_ticks_262 ?_ | refine g_iadd dL_ticks_262 ?_
            first | refine g_ildr Rw.g rfl (by omega) rfl (by omega) dL_ticks_263 hL (v := (S.1.1 4 (6 * j + 1))) (by simp (disch := omega) only [up_ne]) ?_ | refine g_ildr Rw.t rfl (by omega) rfl (by omega) dL_ticks_263 hL (v := (S.1.1 4 (6 * j + 1))) (by simp (disch := omega) only [up_ne]) ?_ | refine g_ildr Rw.d rfl (by omega) rfl (by omega) dL_ticks_263 hL (v := (S.1.1 4 (6 * j + 1))) (by simp (disch := omega) only [up_ne]) ?_ | refine g_ildr Rw.a rfl (by omega) rfl (by omega) dL_ticks_263 hL (v := (S.1.1 4 (6 * j + 1))) (by simp (disch := omega) only [up_ne]) ?_ | refine g_ildr Rw.b rfl (by omega) rfl (by omega) dL_ticks_263 hL (v := (S.1.1 4 (6 * j + 1))) (by simp (disch := omega) only [up_ne]) ?_ | refine g_ildr Rw.c rfl (by omega) rfl (by omega) dL_ticks_263 hL (v := (S.1.1 4 (6 * j + 1))) (by simp (disch := omega) only [up_ne]) ?_
            refine g_if_le (tgt := 271) dL_ticks_264 (by decide) (fun c_264 => ?_) (fun c_264 => ?_)
            · skip
              have hv : ¬ (0 : Int32) < S.1.1 4 (6 * j + 1) := Int32.not_lt.mpr c_264
              show Go _ _ _ _ _ _ 271 _ _
              refine g_iconst (v := nI 2) dL_ticks_271 (by decide +kernel) ?_
              first | refine g_istr Rw.g rfl (by omega) rfl (by omega) dL_ticks_272 hL hK ?_ | refine g_istr Rw.t rfl (by omega) rfl (by omega) dL_ticks_272 hL hK ?_ | refine g_istr Rw.d rfl (by omega) rfl (by omega) dL_ticks_272 hL hK ?_ | refine g_istr Rw.a rfl (by omega) rfl (by omega) dL_ticks_272 hL hK ?_ | refine g_istr Rw.b rfl (by omega) rfl (by omega) dL_ticks_272 hL hK ?_ | refine g_istr Rw.c rfl (by omega) rfl (by omega) dL_ticks_272 hL hK ?_
              intro h hL hK
              refine g_ald4 dL_ticks_273 ?_
              refine g_bipush (v := nI 6) dL_ticks_275 (by decide +kernel) ?_
              refine g_ild8 dL_ticks_277 ?_
              first | refine g_imul_n dL_ticks_279 ?_ | refine g_imul dL_ticks_279 ?_
              show Go _ _ _ _ _ _ 280 _ _
              refine g_iconst (v := nI 4) dL_ticks_280 (by decide +kernel) ?_
              first | refine g_iadd_n dL_ticks_281 ?_ | refine g_iadd dL_ticks_281 ?_
              refine g_bipush (v := -5) dL_ticks_282 (by decide +kernel) ?_
              first | refine g_istr Rw.g rfl (by omega) rfl (by omega) dL_ticks_284 hL hK ?_ | refine g_istr Rw.t rfl (by omega) rfl (by omega) dL_ticks_284 hL hK ?_ | refine g_istr Rw.d rfl (by omega) rfl (by omega) dL_ticks_284 hL hK ?_ | refine g_istr Rw.a rfl (by omega) rfl (by omega) dL_ticks_284 hL hK ?_ | refine g_istr Rw.b rfl (by omega) rfl (by omega) dL_ticks_284 hL hK ?_ | refine g_istr Rw.c rfl (by omega) rfl (by omega) dL_ticks_284 hL hK ?_
              intro h hL hK
              refine g_ald5 dL_ticks_285 ?_
              refine g_bipush (v := nI 6) dL_ticks_287 (by decide +kernel) ?_
              show Go _ _ _ _ _ _ 289 _ _
              refine g_ild8 dL_ticks_289 ?_
              first | refine g_imul_n dL_ticks_291 ?_ | refine g_imul dL_ticks_291 ?_
              refine g_iconst (v := nI 5) dL_ticks_292 (by decide +kernel) ?_
              first | refine g_iadd_n dL_ticks_293 ?_ | refine g_iadd dL_ticks_293 ?_
              refine g_ald0 dL_ticks_294 ?_
              refine g_iconst (v := nI 0) dL_ticks_295 (by decide +kernel) ?_
              show Go _ _ _ _ _ _ 296 _ _
              first | refine g_ildr Rw.g rfl (by omega) rfl (by omega) dL_ticks_296 hL (v := (S.1.1 0 0)) (by simp (disch := omega) only [up_ne]) ?_ | refine g_ildr Rw.t rfl (by omega) rfl (by omega) dL_ticks_296 hL (v := (S.1.1 0 0)) (by simp (disch := omega) only [up_ne]) ?_ | refine g_ildr Rw.d rfl (by omega) rfl (by omega) dL_ticks_296 hL (v := (S.1.1 0 0)) (by simp (disch := omega) only [up_ne]) ?_ | refine g_ildr Rw.a rfl (by omega) rfl (by omega) dL_ticks_296 hL (v := (S.1.1 0 0)) (by simp (disch := omega) only [up_ne]) ?_ | refine g_ildr Rw.b rfl (by omega) rfl (by omega) dL_ticks_296 hL (v := (S.1.1 0 0)) (by simp (disch := omega) only [up_ne]) ?_ | refine g_ildr Rw.c rfl (by omega) rfl (by omega) dL_ticks_296 hL (v := (S.1.1 0 0)) (by simp (disch := omega) only [up_ne]) ?_
              first | refine g_istr Rw.g rfl (by omega) rfl (by omega) dL_ticks_297 hL hK ?_ | refine g_istr Rw.t rfl (by omega) rfl (by omega) dL_ticks_297 hL hK ?_ | refine g_istr Rw.d rfl (by omega) rfl (by omega) dL_ticks_297 hL hK ?_ | refine g_istr Rw.a rfl (by omega) rfl (by omega) dL_ticks_297 hL hK ?_ | refine g_istr Rw.b rfl (by omega) rfl (by omega) dL_ticks_297 hL hK ?_ | refine g_istr Rw.c rfl (by omega) rfl (by omega) dL_ticks_297 hL hK ?_
              intro h hL hK
              refine g_ald0 dL_ticks_298 ?_
              refine g_iconst (v := nI 3) dL_ticks_299 (by decide +kernel) ?_
              refine g_bipush (v := -5) dL_ticks_300 (by decide +kernel) ?_
              first | refine g_istr Rw.g rfl (by omega) rfl (by omega) dL_ticks_302 hL hK ?_ | refine g_istr Rw.t rfl (by omega) rfl (by omega) dL_ticks_302 hL hK ?_ | refine g_istr Rw.d rfl (by omega) rfl (by omega) dL_ticks_302 hL hK ?_ | refine g_istr Rw.a rfl (by omega) rfl (by omega) dL_ticks_302 hL hK ?_ | refine g_istr Rw.b rfl (by omega) rfl (by omega) dL_ticks_302 hL hK ?_ | refine g_istr Rw.c rfl (by omega) rfl (by omega) dL_ticks_302 hL hK ?_
              intro h hL hK
              show Go _ _ _ _ _ _ 303 _ _
              refine g_ald4 dL_ticks_303 ?_
              refine g_bipush (v := nI 6) dL_ticks_305 (by decide +kernel) ?_
              refine g_ild8 dL_ticks_307 ?_
              first | refine g_imul_n dL_ticks_309 ?_ | refine g_imul dL_ticks_309 ?_
              refine g_iconst (v := nI 3) dL_ticks_310 (by decide +kernel) ?_
              first | refine g_iadd_n dL_ticks_311 ?_ | refine g_iadd dL_ticks_311 ?_
              show Go _ _ _ _ _ _ 312 _ _
              first | refine g_ildr Rw.g rfl (by omega) rfl (by omega) dL_ticks_312 hL (v := (nI 2)) (by simp (disch := omega) only [up_ne, up_at]) ?_ | refine g_ildr Rw.t rfl (by omega) rfl (by omega) dL_ticks_312 hL (v := (nI 2)) (by simp (disch := omega) only [up_ne, up_at]) ?_ | refine g_ildr Rw.d rfl (by omega) rfl (by omega) dL_ticks_312 hL (v := (nI 2)) (by simp (disch := omega) only [up_ne, up_at]) ?_ | refine g_ildr Rw.a rfl (by omega) rfl (by omega) dL_ticks_312 hL (v := (nI 2)) (by simp (disch := omega) only [up_ne, up_at]) ?_ | refine g_ildr Rw.b rfl (by omega) rfl (by omega) dL_ticks_312 hL (v := (nI 2)) (by simp (disch := omega) only [up_ne, up_at]) ?_ | refine g_ildr Rw.c rfl (by omega) rfl (by omega) dL_ticks_312 hL (v := (nI 2)) (by simp (disch := omega) only [up_ne, up_at]) ?_
              refine g_iconst (v := nI 2) dL_ticks_313 (by decide +kernel) ?_
              refine g_icmp_ne_f (tgt := 321) dL_ticks_314 (by decide) (by decide) ?_
              refine g_iconst (v := nI 1) dL_ticks_317 (by decide +kernel) ?_
              refine g_goto (tgt := 322) dL_ticks_318 (by decide) ?_
              refine g_ist7 (by decide) dL_ticks_322 ?_
              first | exact tail2 _ S.1 0 _ hL hK (by rw [hdo, if_pos cE]) | exact tail2 _ (mNext S.1 j) 0 _ hL hK (by rw [hdo, if_neg cE]; unfold mAfter; rw [if_neg hne]) | exact tail2 _ (mEnd S.1 j) 1 _ (by unfold mEnd mEnd1; rw [if_neg hv]; exact hL) hK (by rw [hdo, if_neg cE]; unfold mAfter; rw [if_pos hne, if_neg hv]) | exact tail2 _ (mEnd S.1 j) 0 _ (by unfold mEnd mEnd1; rw [if_pos hv]; exact hL) hK (by rw [hdo, if_neg cE]; unfold mAfter; rw [if_pos hne, if_pos hv])
            · skip
              have hv : (0 : Int32) < S.1.1 4 (6 * j + 1) := Int32.not_le.mp c_264
              show Go _ _ _ _ _ _ 267 _ _
              refine g_iconst (v := nI 3) dL_ticks_267 (by decide +kernel) ?_
              refine g_goto (tgt := 272) dL_ticks_268 (by decide) ?_
              first | refine g_istr Rw.g rfl (by omega) rfl (by omega) dL_ticks_272 hL hK ?_ | refine g_istr Rw.t rfl (by omega) rfl (by omega) dL_ticks_272 hL hK ?_ | refine g_istr Rw.d rfl (by omega) rfl (by omega) dL_ticks_272 hL hK ?_ | refine g_istr Rw.a rfl (by omega) rfl (by omega) dL_ticks_272 hL hK ?_ | refine g_istr Rw.b rfl (by omega) rfl (by omega) dL_ticks_272 hL hK ?_ | refine g_istr Rw.c rfl (by omega) rfl (by omega) dL_ticks_272 hL hK ?_
              intro h hL hK
              refine g_ald4 dL_ticks_273 ?_
              refine g_bipush (v := nI 6) dL_ticks_275 (by decide +kernel) ?_
              refine g_ild8 dL_ticks_277 ?_
              show Go _ _ _ _ _ _ 279 _ _
              first | refine g_imul_n dL_ticks_279 ?_ | refine g_imul dL_ticks_279 ?_
              refine g_iconst (v := nI 4) dL_ticks_280 (by decide +kernel) ?_
              first | refine g_iadd_n dL_ticks_281 ?_ | refine g_iadd dL_ticks_281 ?_
              refine g_bipush (v := -5) dL_ticks_282 (by decide +kernel) ?_
              first | refine g_istr Rw.g rfl (by omega) rfl (by omega) dL_ticks_284 hL hK ?_ | refine g_istr Rw.t rfl (by omega) rfl (by omega) dL_ticks_284 hL hK ?_ | refine g_istr Rw.d rfl (by omega) rfl (by omega) dL_ticks_284 hL hK ?_ | refine g_istr Rw.a rfl (by omega) rfl (by omega) dL_ticks_284 hL hK ?_ | refine g_istr Rw.b rfl (by omega) rfl (by omega) dL_ticks_284 hL hK ?_ | refine g_istr Rw.c rfl (by omega) rfl (by omega) dL_ticks_284 hL hK ?_
              intro h hL hK
              refine g_ald5 dL_ticks_285 ?_
              show Go _ _ _ _ _ _ 287 _ _
              refine g_bipush (v := nI 6) dL_ticks_287 (by decide +kernel) ?_
              refine g_ild8 dL_ticks_289 ?_
              first | refine g_imul_n dL_ticks_291 ?_ | refine g_imul dL_ticks_291 ?_
              refine g_iconst (v := nI 5) dL_ticks_292 (by decide +kernel) ?_
              first | refine g_iadd_n dL_ticks_293 ?_ | refine g_iadd dL_ticks_293 ?_
              refine g_ald0 dL_ticks_294 ?_
              show Go _ _ _ _ _ _ 295 _ _
              refine g_iconst (v := nI 0) dL_ticks_295 (by decide +kernel) ?_
              first | refine g_ildr Rw.g rfl (by omega) rfl (by omega) dL_ticks_296 hL (v := (S.1.1 0 0)) (by simp (disch := omega) only [up_ne]) ?_ | refine g_ildr Rw.t rfl (by omega) rfl (by omega) dL_ticks_296 hL (v := (S.1.1 0 0)) (by simp (disch := omega) only [up_ne]) ?_ | refine g_ildr Rw.d rfl (by omega) rfl (by omega) dL_ticks_296 hL (v := (S.1.1 0 0)) (by simp (disch := omega) only [up_ne]) ?_ | refine g_ildr Rw.a rfl (by omega) rfl (by omega) dL_ticks_296 hL (v := (S.1.1 0 0)) (by simp (disch := omega) only [up_ne]) ?_ | refine g_ildr Rw.b rfl (by omega) rfl (by omega) dL_ticks_296 hL (v := (S.1.1 0 0)) (by simp (disch := omega) only [up_ne]) ?_ | refine g_ildr Rw.c rfl (by omega) rfl (by omega) dL_ticks_296 hL (v := (S.1.1 0 0)) (by simp (disch := omega) only [up_ne]) ?_
              first | refine g_istr Rw.g rfl (by omega) rfl (by omega) dL_ticks_297 hL hK ?_ | refine g_istr Rw.t rfl (by omega) rfl (by omega) dL_ticks_297 hL hK ?_ | refine g_istr Rw.d rfl (by omega) rfl (by omega) dL_ticks_297 hL hK ?_ | refine g_istr Rw.a rfl (by omega) rfl (by omega) dL_ticks_297 hL hK ?_ | refine g_istr Rw.b rfl (by omega) rfl (by omega) dL_ticks_297 hL hK ?_ | refine g_istr Rw.c rfl (by omega) rfl (by omega) dL_ticks_297 hL hK ?_
              intro h hL hK
              refine g_ald0 dL_ticks_298 ?_
              refine g_iconst (v := nI 3) dL_ticks_299 (by decide +kernel) ?_
              refine g_bipush (v := -5) dL_ticks_300 (by decide +kernel) ?_
              show Go _ _ _ _ _ _ 302 _ _
              first | refine g_istr Rw.g rfl (by omega) rfl (by omega) dL_ticks_302 hL hK ?_ | refine g_istr Rw.t rfl (by omega) rfl (by omega) dL_ticks_302 hL hK ?_ | refine g_istr Rw.d rfl (by omega) rfl (by omega) dL_ticks_302 hL hK ?_ | refine g_istr Rw.a rfl (by omega) rfl (by omega) dL_ticks_302 hL hK ?_ | refine g_istr Rw.b rfl (by omega) rfl (by omega) dL_ticks_302 hL hK ?_ | refine g_istr Rw.c rfl (by omega) rfl (by omega) dL_ticks_302 hL hK ?_
              intro h hL hK
              refine g_ald4 dL_ticks_303 ?_
              refine g_bipush (v := nI 6) dL_ticks_305 (by decide +kernel) ?_
              refine g_ild8 dL_ticks_307 ?_
              first | refine g_imul_n dL_ticks_309 ?_ | refine g_imul dL_ticks_309 ?_
              refine g_iconst (v := nI 3) dL_ticks_310 (by decide +kernel) ?_
              show Go _ _ _ _ _ _ 311 _ _
              first | refine g_iadd_n dL_ticks_311 ?_ | refine g_iadd dL_ticks_311 ?_
              first | refine g_ildr Rw.g rfl (by omega) rfl (by omega) dL_ticks_312 hL (v := (nI 3)) (by simp (disch := omega) only [up_ne, up_at]) ?_ | refine g_ildr Rw.t rfl (by omega) rfl (by omega) dL_ticks_312 hL (v := (nI 3)) (by simp (disch := omega) only [up_ne, up_at]) ?_ | refine g_ildr Rw.d rfl (by omega) rfl (by omega) dL_ticks_312 hL (v := (nI 3)) (by simp (disch := omega) only [up_ne, up_at]) ?_ | refine g_ildr Rw.a rfl (by omega) rfl (by omega) dL_ticks_312 hL (v := (nI 3)) (by simp (disch := omega) only [up_ne, up_at]) ?_ | refine g_ildr Rw.b rfl (by omega) rfl (by omega) dL_ticks_312 hL (v := (nI 3)) (by simp (disch := omega) only [up_ne, up_at]) ?_ | refine g_ildr Rw.c rfl (by omega) rfl (by omega) dL_ticks_312 hL (v := (nI 3)) (by simp (disch := omega) only [up_ne, up_at]) ?_
              refine g_iconst (v := nI 2) dL_ticks_313 (by decide +kernel) ?_
              refine g_icmp_ne_t (tgt := 321) dL_ticks_314 (by decide) (by decide) ?_
              refine g_iconst (v := nI 0) dL_ticks_321 (by decide +kernel) ?_
              refine g_ist7 (by decide) dL_ticks_322 ?_
              first | exact tail2 _ S.1 0 _ hL hK (by rw [hdo, if_pos cE]) | exact tail2 _ (mNext S.1 j) 0 _ hL hK (by rw [hdo, if_neg cE]; unfold mAfter; rw [if_neg hne]) | exact tail2 _ (mEnd S.1 j) 1 _ (by unfold mEnd mEnd1; rw [if_neg hv]; exact hL) hK (by rw [hdo, if_neg cE]; unfold mAfter; rw [if_pos hne, if_neg hv]) | exact tail2 _ (mEnd S.1 j) 0 _ (by unfold mEnd mEnd1; rw [if_pos hv]; exact hL) hK (by rw [hdo, if_neg cE]; unfold mAfter; rw [if_pos hne, if_pos hv])
        · skip
          show Go _ _ _ _ _ _ 236 _ _
          refine g_iconst (v := nI 4) dL_ticks_236 (by decide +kernel) ?_
          refine g_goto (tgt := 242) dL_ticks_237 (by decide) ?_
          refine g_icmp_ne (tgt := 324) dL_ticks_242 (by decide) (fun c_242 => ?_) (fun c_242 => ?_)
          · skip
            have hne : ¬ (S.1.1 3 (6 * j + 4) + 1 = (if S.1.1 3 (6 * j) = 2 then 4 else 8)) := fun z => c_242 (by have := hcond.mp z; rw [if_pos (show B.1 3 (6 * j) = 2 from c_233)] at this; exact this.symm)
            first | exact tail2 _ S.1 0 _ hL hK (by rw [hdo, if_pos cE]) | exact tail2 _ (mNext S.1 j) 0 _ hL hK (by rw [hdo, if_neg cE]; unfold mAfter; rw [if_neg hne]) | exact tail2 _ (mEnd S.1 j) 1 _ (by unfold mEnd mEnd1; rw [if_neg hv]; exact hL) hK (by rw [hdo, if_neg cE]; unfold mAfter; rw [if_pos hne, if_neg hv]) | exact tail2 _ (mEnd S.1 j) 0 _ (by unfold mEnd mEnd1; rw [if_pos hv]; exact hL) hK (by rw [hdo, if_neg cE]; unfold mAfter; rw [if_pos hne, if_pos hv])
          · skip
            have hne : S.1.1 3 (6 * j + 4) + 1 = (if S.1.1 3 (6 * j) = 2 then 4 else 8) := hcond.mpr (by rw [if_pos (show B.1 3 (6 * j) = 2 from c_233)]; exact c_242.symm)
            refine g_ald4 dL_ticks_245 ?_
            refine g_bipush (v := nI 6) dL_ticks_247 (by decide +kernel) ?_
            refine g_ild8 dL_ticks_249 ?_
            show Go _ _ _ _ _ _ 251 _ _
            first | refine g_imul_n dL_ticks_251 ?_ | refine g_imul dL_ticks_251 ?_
            refine g_iconst (v := nI 3) dL_ticks_252 (by decide +kernel) ?_
            first | refine g_iadd_n dL_ticks_253 ?_ | refine g_iadd dL_ticks_253 ?_
            refine g_ald5 dL_ticks_254 ?_
            refine g_bipush (v := nI 6) dL_ticks_256 (by decide +kernel) ?_
            refine g_ild8 dL_ticks_258 ?_
            show Go _ _ _ _ _ _ 260 _ _
            first | refine g_imul_n dL_ticks_260 ?_ | refine g_imul dL_ticks_260 ?_
            refine g_iconst (v := nI 1) dL_ticks_261 (by decide +kernel) ?_
            first | refine g_iadd_n dL_ticks_262 ?_ | refine g_iadd dL_ticks_262 ?_
            first | refine g_ildr Rw.g rfl (by omega) rfl (by omega) dL_ticks_263 hL (v := (S.1.1 4 (6 * j + 1))) (by simp (disch := omega) only [up_ne]) ?_ | refine g_ildr Rw.t rfl (by omega) rfl (by omega) dL_ticks_263 hL (v := (S.1.1 4 (6 * j + 1))) (by simp (disch := omega) only [up_ne]) ?_ | refine g_ildr Rw.d rfl (by omega) rfl (by omega) dL_ticks_263 hL (v := (S.1.1 4 (6 * j + 1))) (by simp (disch := omega) only [up_ne]) ?_ | refine g_ildr Rw.a rfl (by omega) rfl (by omega) dL_ticks_263 hL (v := (S.1.1 4 (6 * j + 1))) (by simp (disch := omega) only [up_ne]) ?_ | refine g_ildr Rw.b rfl (by omega) rfl (by omega) dL_ticks_263 hL (v := (S.1.1 4 (6 * j + 1))) (by simp (disch := omega) only [up_ne]) ?_ | refine g_ildr Rw.c rfl (by omega) rfl (by omega) dL_ticks_263 hL (v := (S.1.1 4 (6 * j + 1))) (by simp (disch := omega) only [up_ne]) ?_
            refine g_if_le (tgt := 271) dL_ticks_264 (by decide) (fun c_264 => ?_) (fun c_264 => ?_)
            · skip
              have hv : ¬ (0 : Int32) < S.1.1 4 (6 * j + 1) := Int32.not_lt.mpr c_264
              refine g_iconst (v := nI 2) dL_ticks_271 (by decide +kernel) ?_
              show Go _ _ _ _ _ _ 272 _ _
              first | refine g_istr Rw.g rfl (by omega) rfl (by omega) dL_ticks_272 hL hK ?_ | refine g_istr Rw.t rfl (by omega) rfl (by omega) dL_ticks_272 hL hK ?_ | refine g_istr Rw.d rfl (by omega) rfl (by omega) dL_ticks_272 hL hK ?_ | refine g_istr Rw.a rfl (by omega) rfl (by omega) dL_ticks_272 hL hK ?_ | refine g_istr Rw.b rfl (by omega) rfl (by omega) dL_ticks_272 hL hK ?_ | refine g_istr Rw.c rfl (by omega) rfl (by omega) dL_ticks_272 hL hK ?_
              intro h hL hK
              refine g_ald4 dL_ticks_273 ?_
              refine g_bipush (v := nI 6) dL_ticks_275 (by decide +kernel) ?_
              refine g_ild8 dL_ticks_277 ?_
              first | refine g_imul_n dL_ticks_279 ?_ | refine g_imul dL_ticks_279 ?_
              refine g_iconst (v := nI 4) dL_ticks_280 (by decide +kernel) ?_
              show Go _ _ _ _ _ _ 281 _ _
              first | refine g_iadd_n dL_ticks_281 ?_ | refine g_iadd dL_ticks_281 ?_
              refine g_bipush (v := -5) dL_ticks_282 (by decide +kernel) ?_
              first | refine g_istr Rw.g rfl (by omega) rfl (by omega) dL_ticks_284 hL hK ?_ | refine g_istr Rw.t rfl (by omega) rfl (by omega) dL_ticks_284 hL hK ?_ | refine g_istr Rw.d rfl (by omega) rfl (by omega) dL_ticks_284 hL hK ?_ | refine g_istr Rw.a rfl (by omega) rfl (by omega) dL_ticks_284 hL hK ?_ | refine g_istr Rw.b rfl (by omega) rfl (by omega) dL_ticks_284 hL hK ?_ | refine g_istr Rw.c rfl (by omega) rfl (by omega) dL_ticks_284 hL hK ?_
              intro h hL hK
              refine g_ald5 dL_ticks_285 ?_
              refine g_bipush (v := nI 6) dL_ticks_287 (by decide +kernel) ?_
              refine g_ild8 dL_ticks_289 ?_
              show Go _ _ _ _ _ _ 291 _ _
              first | refine g_imul_n dL_ticks_291 ?_ | refine g_imul dL_ticks_291 ?_
              refine g_iconst (v := nI 5) dL_ticks_292 (by decide +kernel) ?_
              first | refine g_iadd_n dL_ticks_293 ?_ | refine g_iadd dL_ticks_293 ?_
              refine g_ald0 dL_ticks_294 ?_
              refine g_iconst (v := nI 0) dL_ticks_295 (by decide +kernel) ?_
              first | refine g_ildr Rw.g rfl (by omega) rfl (by omega) dL_ticks_296 hL (v := (S.1.1 0 0)) (by simp (disch := omega) only [up_ne]) ?_ | refine g_ildr Rw.t rfl (by omega) rfl (by omega) dL_ticks_296 hL (v := (S.1.1 0 0)) (by simp (disch := omega) only [up_ne]) ?_ | refine g_ildr Rw.d rfl (by omega) rfl (by omega) dL_ticks_296 hL (v := (S.1.1 0 0)) (by simp (disch := omega) only [up_ne]) ?_ | refine g_ildr Rw.a rfl (by omega) rfl (by omega) dL_ticks_296 hL (v := (S.1.1 0 0)) (by simp (disch := omega) only [up_ne]) ?_ | refine g_ildr Rw.b rfl (by omega) rfl (by omega) dL_ticks_296 hL (v := (S.1.1 0 0)) (by simp (disch := omega) only [up_ne]) ?_ | refine g_ildr Rw.c rfl (by omega) rfl (by omega) dL_ticks_296 hL (v := (S.1.1 0 0)) (by simp (disch := omega) only [up_ne]) ?_
              show Go _ _ _ _ _ _ 297 _ _
              first | refine g_istr Rw.g rfl (by omega) rfl (by omega) dL_ticks_297 hL hK ?_ | refine g_istr Rw.t rfl (by omega) rfl (by omega) dL_ticks_297 hL hK ?_ | refine g_istr Rw.d rfl (by omega) rfl (by omega) dL_ticks_297 hL hK ?_ | refine g_istr Rw.a rfl (by omega) rfl (by omega) dL_ticks_297 hL hK ?_ | refine g_istr Rw.b rfl (by omega) rfl (by omega) dL_ticks_297 hL hK ?_ | refine g_istr Rw.c rfl (by omega) rfl (by omega) dL_ticks_297 hL hK ?_
              intro h hL hK
              refine g_ald0 dL_ticks_298 ?_
              refine g_iconst (v := nI 3) dL_ticks_299 (by decide +kernel) ?_
              refine g_bipush (v := -5) dL_ticks_300 (by decide +kernel) ?_
              first | refine g_istr Rw.g rfl (by omega) rfl (by omega) dL_ticks_302 hL hK ?_ | refine g_istr Rw.t rfl (by omega) rfl (by omega) dL_ticks_302 hL hK ?_ | refine g_istr Rw.d rfl (by omega) rfl (by omega) dL_ticks_302 hL hK ?_ | refine g_istr Rw.a rfl (by omega) rfl (by omega) dL_ticks_302 hL hK ?_ | refine g_istr Rw.b rfl (by omega) rfl (by omega) dL_ticks_302 hL hK ?_ | refine g_istr Rw.c rfl (by omega) rfl (by omega) dL_ticks_302 hL hK ?_
              intro h hL hK
              refine g_ald4 dL_ticks_303 ?_
              show Go _ _ _ _ _ _ 305 _ _
              refine g_bipush (v := nI 6) dL_ticks_305 (by decide +kernel) ?_
              refine g_ild8 dL_ticks_307 ?_
              first | refine g_imul_n dL_ticks_309 ?_ | refine g_imul dL_ticks_309 ?_
              refine g_iconst (v := nI 3) dL_ticks_310 (by decide +kernel) ?_
              first | refine g_iadd_n dL_ticks_311 ?_ | refine g_iadd dL_ticks_311 ?_
              first | refine g_ildr Rw.g rfl (by omega) rfl (by omega) dL_ticks_312 hL (v := (nI 2)) (by simp (disch := omega) only [up_ne, up_at]) ?_ | refine g_ildr Rw.t rfl (by omega) rfl (by omega) dL_ticks_312 hL (v := (nI 2)) (by simp (disch := omega) only [up_ne, up_at]) ?_ | refine g_ildr Rw.d rfl (by omega) rfl (by omega) dL_ticks_312 hL (v := (nI 2)) (by simp (disch := omega) only [up_ne, up_at]) ?_ | refine g_ildr Rw.a rfl (by omega) rfl (by omega) dL_ticks_312 hL (v := (nI 2)) (by simp (disch := omega) only [up_ne, up_at]) ?_ | refine g_ildr Rw.b rfl (by omega) rfl (by omega) dL_ticks_312 hL (v := (nI 2)) (by simp (disch := omega) only [up_ne, up_at]) ?_ | refine g_ildr Rw.c rfl (by omega) rfl (by omega) dL_ticks_312 hL (v := (nI 2)) (by simp (disch := omega) only [up_ne, up_at]) ?_
              show Go _ _ _ _ _ _ 313 _ _
              refine g_iconst (v := nI 2) dL_ticks_313 (by decide +kernel) ?_
              refine g_icmp_ne_f (tgt := 321) dL_ticks_314 (by decide) (by decide) ?_
              refine g_iconst (v := nI 1) dL_ticks_317 (by decide +kernel) ?_
              refine g_goto (tgt := 322) dL_ticks_318 (by decide) ?_
              refine g_ist7 (by decide) dL_ticks_322 ?_
              first | exact tail2 _ S.1 0 _ hL hK (by rw [hdo, if_pos cE]) | exact tail2 _ (mNext S.1 j) 0 _ hL hK (by rw [hdo, if_neg cE]; unfold mAfter; rw [if_neg hne]) | exact tail2 _ (mEnd S.1 j) 1 _ (by unfold mEnd mEnd1; rw [if_neg hv]; exact hL) hK (by rw [hdo, if_neg cE]; unfold mAfter; rw [if_pos hne, if_neg hv]) | exact tail2 _ (mEnd S.1 j) 0 _ (by unfold mEnd mEnd1; rw [if_pos hv]; exact hL) hK (by rw [hdo, if_neg cE]; unfold mAfter; rw [if_pos hne, if_pos hv])
            · skip
              have hv : (0 : Int32) < S.1.1 4 (6 * j + 1) := Int32.not_le.mp c_264
              refine g_iconst (v := nI 3) dL_ticks_267 (by decide +kernel) ?_
              show Go _ _ _ _ _ _ 268 _ _
              refine g_goto (tgt := 272) dL_ticks_268 (by decide) ?_
              first | refine g_istr Rw.g rfl (by omega) rfl (by omega) dL_ticks_272 hL hK ?_ | refine g_istr Rw.t rfl (by omega) rfl (by omega) dL_ticks_272 hL hK ?_ | refine g_istr Rw.d rfl (by omega) rfl (by omega) dL_ticks_272 hL hK ?_ | refine g_istr Rw.a rfl (by omega) rfl (by omega) dL_ticks_272 hL hK ?_ | refine g_istr Rw.b rfl (by omega) rfl (by omega) dL_ticks_272 hL hK ?_ | refine g_istr Rw.c rfl (by omega) rfl (by omega) dL_ticks_272 hL hK ?_
              intro h hL hK
              refine g_ald4 dL_ticks_273 ?_
              refine g_bipush (v := nI 6) dL_ticks_275 (by decide +kernel) ?_
              refine g_ild8 dL_ticks_277 ?_
              first | refine g_imul_n dL_ticks_279 ?_ | refine g_imul dL_ticks_279 ?_
              show Go _ _ _ _ _ _ 280 _ _
              refine g_iconst (v := nI 4) dL_ticks_280 (by decide +kernel) ?_
              first | refine g_iadd_n dL_ticks_281 ?_ | refine g_iadd dL_ticks_281 ?_
              refine g_bipush (v := -5) dL_ticks_282 (by decide +kernel) ?_
              first | refine g_istr Rw.g rfl (by omega) rfl (by omega) dL_ticks_284 hL hK ?_ | refine g_istr Rw.t rfl (by omega) rfl (by omega) dL_ticks_284 hL hK ?_ | refine g_istr Rw.d rfl (by omega) rfl (by omega) dL_ticks_284 hL hK ?_ | refine g_istr Rw.a rfl (by omega) rfl (by omega) dL_ticks_284 hL hK ?_ | refine g_istr Rw.b rfl (by omega) rfl (by omega) dL_ticks_284 hL hK ?_ | refine g_istr Rw.c rfl (by omega) rfl (by omega) dL_ticks_284 hL hK ?_
              intro h hL hK
              refine g_ald5 dL_ticks_285 ?_
              refine g_bipush (v := nI 6) dL_ticks_287 (by decide +kernel) ?_
              show Go _ _ _ _ _ _ 289 _ _
              refine g_ild8 dL_ticks_289 ?_
              first | refine g_imul_n dL_ticks_291 ?_ | refine g_imul dL_ticks_291 ?_
              refine g_iconst (v := nI 5) dL_ticks_292 (by decide +kernel) ?_
              first | refine g_iadd_n dL_ticks_293 ?_ | refine g_iadd dL_ticks_293 ?_
              refine g_ald0 dL_ticks_294 ?_
              refine g_iconst (v := nI 0) dL_ticks_295 (by decide +kernel) ?_
              show Go _ _ _ _ _ _ 296 _ _
              first | refine g_ildr Rw.g rfl (by omega) rfl (by omega) dL_ticks_296 hL (v := (S.1.1 0 0)) (by simp (disch := omega) only [up_ne]) ?_ | refine g_ildr Rw.t rfl (by omega) rfl (by omega) dL_ticks_296 hL (v := (S.1.1 0 0)) (by simp (disch := omega) only [up_ne]) ?_ | refine g_ildr Rw.d rfl (by omega) rfl (by omega) dL_ticks_296 hL (v := (S.1.1 0 0)) (by simp (disch := omega) only [up_ne]) ?_ | refine g_ildr Rw.a rfl (by omega) rfl (by omega) dL_ticks_296 hL (v := (S.1.1 0 0)) (by simp (disch := omega) only [up_ne]) ?_ | refine g_ildr Rw.b rfl (by omega) rfl (by omega) dL_ticks_296 hL (v := (S.1.1 0 0)) (by simp (disch := omega) only [up_ne]) ?_ | refine g_ildr Rw.c rfl (by omega) rfl (by omega) dL_ticks_296 hL (v := (S.1.1 0 0)) (by simp (disch := omega) only [up_ne]) ?_
              first | refine g_istr Rw.g rfl (by omega) rfl (by omega) dL_ticks_297 hL hK ?_ | refine g_istr Rw.t rfl (by omega) rfl (by omega) dL_ticks_297 hL hK ?_ | refine g_istr Rw.d rfl (by omega) rfl (by omega) dL_ticks_297 hL hK ?_ | refine g_istr Rw.a rfl (by omega) rfl (by omega) dL_ticks_297 hL hK ?_ | refine g_istr Rw.b rfl (by omega) rfl (by omega) dL_ticks_297 hL hK ?_ | refine g_istr Rw.c rfl (by omega) rfl (by omega) dL_ticks_297 hL hK ?_
              intro h hL hK
              refine g_ald0 dL_ticks_298 ?_
              refine g_iconst (v := nI 3) dL_ticks_299 (by decide +kernel) ?_
              refine g_bipush (v := -5) dL_ticks_300 (by decide +kernel) ?_
              first | refine g_istr Rw.g rfl (by omega) rfl (by omega) dL_ticks_302 hL hK ?_ | refine g_istr Rw.t rfl (by omega) rfl (by omega) dL_ticks_302 hL hK ?_ | refine g_istr Rw.d rfl (by omega) rfl (by omega) dL_ticks_302 hL hK ?_ | refine g_istr Rw.a rfl (by omega) rfl (by omega) dL_ticks_302 hL hK ?_ | refine g_istr Rw.b rfl (by omega) rfl (by omega) dL_ticks_302 hL hK ?_ | refine g_istr Rw.c rfl (by omega) rfl (by omega) dL_ticks_302 hL hK ?_
              intro h hL hK
              show Go _ _ _ _ _ _ 303 _ _
              refine g_ald4 dL_ticks_303 ?_
              refine g_bipush (v := nI 6) dL_ticks_305 (by decide +kernel) ?_
              refine g_ild8 dL_ticks_307 ?_
              first | refine g_imul_n dL_ticks_309 ?_ | refine g_imul dL_ticks_309 ?_
              refine g_iconst (v := nI 3) dL_ticks_310 (by decide +kernel) ?_
              first | refine g_iadd_n dL_ticks_311 ?_ | refine g_iadd dL_ticks_311 ?_
              show Go _ _ _ _ _ _ 312 _ _
              first | refine g_ildr Rw.g rfl (by omega) rfl (by omega) dL_ticks_312 hL (v := (nI 3)) (by simp (disch := omega) only [up_ne, up_at]) ?_ | refine g_ildr Rw.t rfl (by omega) rfl (by omega) dL_ticks_312 hL (v := (nI 3)) (by simp (disch := omega) only [up_ne, up_at]) ?_ | refine g_ildr Rw.d rfl (by omega) rfl (by omega) dL_ticks_312 hL (v := (nI 3)) (by simp (disch := omega) only [up_ne, up_at]) ?_ | refine g_ildr Rw.a rfl (by omega) rfl (by omega) dL_ticks_312 hL (v := (nI 3)) (by simp (disch := omega) only [up_ne, up_at]) ?_ | refine g_ildr Rw.b rfl (by omega) rfl (by omega) dL_ticks_312 hL (v := (nI 3)) (by simp (disch := omega) only [up_ne, up_at]) ?_ | refine g_ildr Rw.c rfl (by omega) rfl (by omega) dL_ticks_312 hL (v := (nI 3)) (by simp (disch := omega) only [up_ne, up_at]) ?_
              refine g_iconst (v := nI 2) dL_ticks_313 (by decide +kernel) ?_
              refine g_icmp_ne_t (tgt := 321) dL_ticks_314 (by decide) (by decide) ?_
              refine g_iconst (v := nI 0) dL_ticks_321 (by decide +kernel) ?_
              refine g_ist7 (by decide) dL_ticks_322 ?_
              first | exact tail2 _ S.1 0 _ hL hK (by rw [hdo, if_pos cE]) | exact tail2 _ (mNext S.1 j) 0 _ hL hK (by rw [hdo, if_neg cE]; unfold mAfter; rw [if_neg hne]) | exact tail2 _ (mEnd S.1 j) 1 _ (by unfold mEnd mEnd1; rw [if_neg hv]; exact hL) hK (by rw [hdo, if_neg cE]; unfold mAfter; rw [if_pos hne, if_neg hv]) | exact tail2 _ (mEnd S.1 j) 0 _ (by unfold mEnd mEnd1; rw [if_pos hv]; exact hL) hK (by rw [hdo, if_neg cE]; unfold mAfter; rw [if_pos hne, if_pos hv])
  refine Ct.of rfl (by simp [Value.category, ga]) (Nat.le_of_ble_eq_true rfl) (Nat.le_refl _) ?_
  show Go _ _ _ _ _ _ _ [some (ga G 449), some (ga G 450), some (ga G 451), some (ga G 452), some (ga G 453), some (ga G 454), some (ga G 455), none, none] []
  by_cases c : M.1 0 3 = -5
  · have hm := am_s (OKj M ni nd) (grp M) nj (by omega)
    by_cases c2 : aJ M ni nd nj = -5
    · have e : mBg M ni nd nj = M := by unfold mBg; rw [if_neg (fun z => z.2 c2)]
      refine g_iconst (v := nI 0) dL_ticks_0 (by decide +kernel) ?_
      refine g_ist7 (by decide) dL_ticks_1 ?_
      refine g_ald0 dL_ticks_3 ?_
      refine g_iconst (v := nI 3) dL_ticks_4 (by decide +kernel) ?_
      first | refine g_ildr Rw.g rfl (by omega) rfl (by omega) dL_ticks_5 hL (v := (-5)) c ?_ | refine g_ildr Rw.t rfl (by omega) rfl (by omega) dL_ticks_5 hL (v := (-5)) c ?_ | refine g_ildr Rw.d rfl (by omega) rfl (by omega) dL_ticks_5 hL (v := (-5)) c ?_ | refine g_ildr Rw.a rfl (by omega) rfl (by omega) dL_ticks_5 hL (v := (-5)) c ?_ | refine g_ildr Rw.b rfl (by omega) rfl (by omega) dL_ticks_5 hL (v := (-5)) c ?_ | refine g_ildr Rw.c rfl (by omega) rfl (by omega) dL_ticks_5 hL (v := (-5)) c ?_
      show Go _ _ _ _ _ _ 6 _ _
      refine g_if_ge_f (tgt := 22) dL_ticks_6 (by decide) (by decide) ?_
      refine g_ald0 dL_ticks_9 ?_
      refine g_ald1 dL_ticks_10 ?_
      refine g_ald3 dL_ticks_11 ?_
      refine g_ald4 dL_ticks_12 ?_
      refine g_ald5 dL_ticks_14 ?_
      show Go _ _ _ _ _ _ 16 _ _
      refine g_callS5 (l_first (h := h) M ni nd nj hL hz hI.1) mw_3_38 ok_L_first ⟨by decide, by decide⟩ (by omega) (by omega) (Nat.le_of_ble_eq_true rfl) dL_ticks_16 (rI_K ?_)
      rintro r h ⟨rfl, hM⟩
      obtain rfl : aJ M ni nd nj = r := am_of (by omega) hM
      refine g_goto (tgt := 24) dL_ticks_19 (by decide) ?_
      refine g_ist8 (by decide) dL_ticks_24 ?_
      refine g_ild8 dL_ticks_26 ?_
      refine g_if_lt_t (tgt := 157) dL_ticks_28 (by decide) (by rw [c2]; decide) ?_
      exact tail _ _ (by rw [e]; exact hL) hK
    · obtain ⟨j, hj9, hmj⟩ : ∃ j, j < nj ∧ aJ M ni nd nj = nI j := by
        rcases id hm with ⟨y, -⟩ | ⟨j, hj, y1, -⟩
        · exact absurd y c2
        · exact ⟨j, hj, y1⟩
      have e : mBg M ni nd nj = mBegin M j (kdO M nd j) (clO M ni j) := by unfold mBg; rw [if_pos ⟨c, c2⟩, hmj, nI_clamp (by omega)]
      rcases hJb j hj9 with ⟨hk, -⟩ | ⟨hk, -⟩ | ⟨hk, -⟩
      · have ek : kdO M nd j = aD M nd := by unfold kdO; rw [if_pos hk]
        have ec : clO M ni j = -5 := by unfold clO; rw [hk, if_neg (by decide)]
        rw [ek, ec] at e
        refine g_iconst (v := nI 0) dL_ticks_0 (by decide +kernel) ?_
        refine g_ist7 (by decide) dL_ticks_1 ?_
        refine g_ald0 dL_ticks_3 ?_
        refine g_iconst (v := nI 3) dL_ticks_4 (by decide +kernel) ?_
        first | refine g_ildr Rw.g rfl (by omega) rfl (by omega) dL_ticks_5 hL (v := (-5)) c ?_ | refine g_ildr Rw.t rfl (by omega) rfl (by omega) dL_ticks_5 hL (v := (-5)) c ?_ | refine g_ildr Rw.d rfl (by omega) rfl (by omega) dL_ticks_5 hL (v := (-5)) c ?_ | refine g_ildr Rw.a rfl (by omega) rfl (by omega) dL_ticks_5 hL (v := (-5)) c ?_ | refine g_ildr Rw.b rfl (by omega) rfl (by omega) dL_ticks_5 hL (v := (-5)) c ?_ | refine g_ildr Rw.c rfl (by omega) rfl (by omega) dL_ticks_5 hL (v := (-5)) c ?_
        show Go _ _ _ _ _ _ 6 _ _
        refine g_if_ge_f (tgt := 22) dL_ticks_6 (by decide) (by decide) ?_
        refine g_ald0 dL_ticks_9 ?_
        refine g_ald1 dL_ticks_10 ?_
        refine g_ald3 dL_ticks_11 ?_
        refine g_ald4 dL_ticks_12 ?_
        refine g_ald5 dL_ticks_14 ?_
        show Go _ _ _ _ _ _ 16 _ _
        refine g_callS5 (l_first (h := h) M ni nd nj hL hz hI.1) mw_3_38 ok_L_first ⟨by decide, by decide⟩ (by omega) (by omega) (Nat.le_of_ble_eq_true rfl) dL_ticks_16 (rI_K ?_)
        rintro r h ⟨rfl, hM⟩
        obtain rfl : r = nI j := (am_of (by omega) hM).symm.trans hmj
        refine g_goto (tgt := 24) dL_ticks_19 (by decide) ?_
        refine g_ist8 (by decide) dL_ticks_24 ?_
        refine g_ild8 dL_ticks_26 ?_
        refine g_if_lt_f (tgt := 157) dL_ticks_28 (by decide) (Int32.not_lt.mpr (nI_pos' (by omega))) ?_
        refine g_ald0 dL_ticks_31 ?_
        show Go _ _ _ _ _ _ 32 _ _
        refine g_iconst (v := nI 3) dL_ticks_32 (by decide +kernel) ?_
        refine g_ild8 dL_ticks_33 ?_
        first | refine g_istr Rw.g rfl (by omega) rfl (by omega) dL_ticks_35 hL hK ?_ | refine g_istr Rw.t rfl (by omega) rfl (by omega) dL_ticks_35 hL hK ?_ | refine g_istr Rw.d rfl (by omega) rfl (by omega) dL_ticks_35 hL hK ?_ | refine g_istr Rw.a rfl (by omega) rfl (by omega) dL_ticks_35 hL hK ?_ | refine g_istr Rw.b rfl (by omega) rfl (by omega) dL_ticks_35 hL hK ?_ | refine g_istr Rw.c rfl (by omega) rfl (by omega) dL_ticks_35 hL hK ?_
        intro h hL hK
        refine g_ald4 dL_ticks_36 ?_
        refine g_bipush (v := nI 6) dL_ticks_38 (by decide +kernel) ?_
        refine g_ild8 dL_ticks_40 ?_
        show Go _ _ _ _ _ _ 42 _ _
        first | refine g_imul_n dL_ticks_42 ?_ | refine g_imul dL_ticks_42 ?_
        refine g_iconst (v := nI 3) dL_ticks_43 (by decide +kernel) ?_
        first | refine g_iadd_n dL_ticks_44 ?_ | refine g_iadd dL_ticks_44 ?_
        refine g_iconst (v := nI 1) dL_ticks_45 (by decide +kernel) ?_
        first | refine g_istr Rw.g rfl (by omega) rfl (by omega) dL_ticks_46 hL hK ?_ | refine g_istr Rw.t rfl (by omega) rfl (by omega) dL_ticks_46 hL hK ?_ | refine g_istr Rw.d rfl (by omega) rfl (by omega) dL_ticks_46 hL hK ?_ | refine g_istr Rw.a rfl (by omega) rfl (by omega) dL_ticks_46 hL hK ?_ | refine g_istr Rw.b rfl (by omega) rfl (by omega) dL_ticks_46 hL hK ?_ | refine g_istr Rw.c rfl (by omega) rfl (by omega) dL_ticks_46 hL hK ?_
        intro h hL hK
        refine g_ald4 dL_ticks_47 ?_
        show Go _ _ _ _ _ _ 49 _ _
        refine g_bipush (v := nI 6) dL_ticks_49 (by decide +kernel) ?_
        refine g_ild8 dL_ticks_51 ?_
        first | refine g_imul_n dL_ticks_53 ?_ | refine g_imul dL_ticks_53 ?_
        refine g_iconst (v := nI 4) dL_ticks_54 (by decide +kernel) ?_
        first | refine g_iadd_n dL_ticks_55 ?_ | refine g_iadd dL_ticks_55 ?_
        refine g_iconst (v := nI 0) dL_ticks_56 (by decide +kernel) ?_
        show Go _ _ _ _ _ _ 57 _ _
        first | refine g_istr Rw.g rfl (by omega) rfl (by omega) dL_ticks_57 hL hK ?_ | refine g_istr Rw.t rfl (by omega) rfl (by omega) dL_ticks_57 hL hK ?_ | refine g_istr Rw.d rfl (by omega) rfl (by omega) dL_ticks_57 hL hK ?_ | refine g_istr Rw.a rfl (by omega) rfl (by omega) dL_ticks_57 hL hK ?_ | refine g_istr Rw.b rfl (by omega) rfl (by omega) dL_ticks_57 hL hK ?_ | refine g_istr Rw.c rfl (by omega) rfl (by omega) dL_ticks_57 hL hK ?_
        intro h hL hK
        refine g_ald4 dL_ticks_58 ?_
        refine g_bipush (v := nI 6) dL_ticks_60 (by decide +kernel) ?_
        refine g_ild8 dL_ticks_62 ?_
        first | refine g_imul_n dL_ticks_64 ?_ | refine g_imul dL_ticks_64 ?_
        refine g_iconst (v := nI 5) dL_ticks_65 (by decide +kernel) ?_
        show Go _ _ _ _ _ _ 66 _ _
        first | refine g_iadd_n dL_ticks_66 ?_ | refine g_iadd dL_ticks_66 ?_
        refine g_ald4 dL_ticks_67 ?_
        refine g_bipush (v := nI 6) dL_ticks_69 (by decide +kernel) ?_
        refine g_ild8 dL_ticks_71 ?_
        first | refine g_imul_n dL_ticks_73 ?_ | refine g_imul dL_ticks_73 ?_
        first | refine g_ildr Rw.g rfl (by omega) rfl (by omega) dL_ticks_74 hL (v := (0 : Int32)) (by simp (disch := omega) only [up_ne]; exact hk) ?_ | refine g_ildr Rw.t rfl (by omega) rfl (by omega) dL_ticks_74 hL (v := (0 : Int32)) (by simp (disch := omega) only [up_ne]; exact hk) ?_ | refine g_ildr Rw.d rfl (by omega) rfl (by omega) dL_ticks_74 hL (v := (0 : Int32)) (by simp (disch := omega) only [up_ne]; exact hk) ?_ | refine g_ildr Rw.a rfl (by omega) rfl (by omega) dL_ticks_74 hL (v := (0 : Int32)) (by simp (disch := omega) only [up_ne]; exact hk) ?_ | refine g_ildr Rw.b rfl (by omega) rfl (by omega) dL_ticks_74 hL (v := (0 : Int32)) (by simp (disch := omega) only [up_ne]; exact hk) ?_ | refine g_ildr Rw.c rfl (by omega) rfl (by omega) dL_ticks_74 hL (v := (0 : Int32)) (by simp (disch := omega) only [up_ne]; exact hk) ?_
        show Go _ _ _ _ _ _ 75 _ _
        refine g_if_ne_f (tgt := 86) dL_ticks_75 (by decide) rfl ?_
        refine g_ald0 dL_ticks_78 ?_
        refine g_ald3 dL_ticks_79 ?_
        refine g_callS2 (l_drive (h := h) _ ni nd nj hL (hzz _ (fun a h1 h2 => by simp (disch := omega) only [up_ne])) hf) mw_3_47 ok_L_drive ⟨by decide, by decide⟩ (by omega) (by omega) (Nat.le_of_ble_eq_true rfl) dL_ticks_80 (rI_K ?_)
        rintro r5 h ⟨rfl, hM5⟩
        obtain rfl : aD M nd = r5 := am_of (by omega) hM5
        refine g_goto (tgt := 113) dL_ticks_83 (by decide) ?_
        first | refine g_istr Rw.g rfl (by omega) rfl (by omega) dL_ticks_113 hL hK ?_ | refine g_istr Rw.t rfl (by omega) rfl (by omega) dL_ticks_113 hL hK ?_ | refine g_istr Rw.d rfl (by omega) rfl (by omega) dL_ticks_113 hL hK ?_ | refine g_istr Rw.a rfl (by omega) rfl (by omega) dL_ticks_113 hL hK ?_ | refine g_istr Rw.b rfl (by omega) rfl (by omega) dL_ticks_113 hL hK ?_ | refine g_istr Rw.c rfl (by omega) rfl (by omega) dL_ticks_113 hL hK ?_
        intro h hL hK
        show Go _ _ _ _ _ _ 114 _ _
        refine g_ald5 dL_ticks_114 ?_
        refine g_bipush (v := nI 6) dL_ticks_116 (by decide +kernel) ?_
        refine g_ild8 dL_ticks_118 ?_
        first | refine g_imul_n dL_ticks_120 ?_ | refine g_imul dL_ticks_120 ?_
        refine g_ald4 dL_ticks_121 ?_
        refine g_bipush (v := nI 6) dL_ticks_123 (by decide +kernel) ?_
        show Go _ _ _ _ _ _ 125 _ _
        refine g_ild8 dL_ticks_125 ?_
        first | refine g_imul_n dL_ticks_127 ?_ | refine g_imul dL_ticks_127 ?_
        first | refine g_ildr Rw.g rfl (by omega) rfl (by omega) dL_ticks_128 hL (v := (0 : Int32)) (by simp (disch := omega) only [up_ne]; exact hk) ?_ | refine g_ildr Rw.t rfl (by omega) rfl (by omega) dL_ticks_128 hL (v := (0 : Int32)) (by simp (disch := omega) only [up_ne]; exact hk) ?_ | refine g_ildr Rw.d rfl (by omega) rfl (by omega) dL_ticks_128 hL (v := (0 : Int32)) (by simp (disch := omega) only [up_ne]; exact hk) ?_ | refine g_ildr Rw.a rfl (by omega) rfl (by omega) dL_ticks_128 hL (v := (0 : Int32)) (by simp (disch := omega) only [up_ne]; exact hk) ?_ | refine g_ildr Rw.b rfl (by omega) rfl (by omega) dL_ticks_128 hL (v := (0 : Int32)) (by simp (disch := omega) only [up_ne]; exact hk) ?_ | refine g_ildr Rw.c rfl (by omega) rfl (by omega) dL_ticks_128 hL (v := (0 : Int32)) (by simp (disch := omega) only [up_ne]; exact hk) ?_
        refine g_iconst (v := nI 1) dL_ticks_129 (by decide +kernel) ?_
        refine g_icmp_ne_t (tgt := 141) dL_ticks_130 (by decide) (by decide) ?_
        refine g_bipush (v := -5) dL_ticks_141 (by decide +kernel) ?_
        show Go _ _ _ _ _ _ 143 _ _
        first | refine g_istr Rw.g rfl (by omega) rfl (by omega) dL_ticks_143 hL hK ?_ | refine g_istr Rw.t rfl (by omega) rfl (by omega) dL_ticks_143 hL hK ?_ | refine g_istr Rw.d rfl (by omega) rfl (by omega) dL_ticks_143 hL hK ?_ | refine g_istr Rw.a rfl (by omega) rfl (by omega) dL_ticks_143 hL hK ?_ | refine g_istr Rw.b rfl (by omega) rfl (by omega) dL_ticks_143 hL hK ?_ | refine g_istr Rw.c rfl (by omega) rfl (by omega) dL_ticks_143 hL hK ?_
        intro h hL hK
        refine g_ald5 dL_ticks_144 ?_
        refine g_bipush (v := nI 6) dL_ticks_146 (by decide +kernel) ?_
        refine g_ild8 dL_ticks_148 ?_
        first | refine g_imul_n dL_ticks_150 ?_ | refine g_imul dL_ticks_150 ?_
        refine g_iconst (v := nI 4) dL_ticks_151 (by decide +kernel) ?_
        show Go _ _ _ _ _ _ 152 _ _
        first | refine g_iadd_n dL_ticks_152 ?_ | refine g_iadd dL_ticks_152 ?_
        refine g_ald0 dL_ticks_153 ?_
        refine g_iconst (v := nI 0) dL_ticks_154 (by decide +kernel) ?_
        first | refine g_ildr Rw.g rfl (by omega) rfl (by omega) dL_ticks_155 hL (v := (M.1 0 0)) (by simp (disch := omega) only [up_ne]) ?_ | refine g_ildr Rw.t rfl (by omega) rfl (by omega) dL_ticks_155 hL (v := (M.1 0 0)) (by simp (disch := omega) only [up_ne]) ?_ | refine g_ildr Rw.d rfl (by omega) rfl (by omega) dL_ticks_155 hL (v := (M.1 0 0)) (by simp (disch := omega) only [up_ne]) ?_ | refine g_ildr Rw.a rfl (by omega) rfl (by omega) dL_ticks_155 hL (v := (M.1 0 0)) (by simp (disch := omega) only [up_ne]) ?_ | refine g_ildr Rw.b rfl (by omega) rfl (by omega) dL_ticks_155 hL (v := (M.1 0 0)) (by simp (disch := omega) only [up_ne]) ?_ | refine g_ildr Rw.c rfl (by omega) rfl (by omega) dL_ticks_155 hL (v := (M.1 0 0)) (by simp (disch := omega) only [up_ne]) ?_
        first | refine g_istr Rw.g rfl (by omega) rfl (by omega) dL_ticks_156 hL hK ?_ | refine g_istr Rw.t rfl (by omega) rfl (by omega) dL_ticks_156 hL hK ?_ | refine g_istr Rw.d rfl (by omega) rfl (by omega) dL_ticks_156 hL hK ?_ | refine g_istr Rw.a rfl (by omega) rfl (by omega) dL_ticks_156 hL hK ?_ | refine g_istr Rw.b rfl (by omega) rfl (by omega) dL_ticks_156 hL hK ?_ | refine g_istr Rw.c rfl (by omega) rfl (by omega) dL_ticks_156 hL hK ?_
        intro h hL hK
        exact tail _ _ (by rw [e]; exact hL) hK
      · have ek : kdO M nd j = M.1 3 (6 * j + 1) := by unfold kdO; rw [hk, if_neg (by decide), if_pos (by decide)]
        have ec : clO M ni j = aC M ni := by unfold clO; rw [if_pos hk]
        rw [ek, ec] at e
        refine g_iconst (v := nI 0) dL_ticks_0 (by decide +kernel) ?_
        refine g_ist7 (by decide) dL_ticks_1 ?_
        refine g_ald0 dL_ticks_3 ?_
        refine g_iconst (v := nI 3) dL_ticks_4 (by decide +kernel) ?_
        first | refine g_ildr Rw.g rfl (by omega) rfl (by omega) dL_ticks_5 hL (v := (-5)) c ?_ | refine g_ildr Rw.t rfl (by omega) rfl (by omega) dL_ticks_5 hL (v := (-5)) c ?_ | refine g_ildr Rw.d rfl (by omega) rfl (by omega) dL_ticks_5 hL (v := (-5)) c ?_ | refine g_ildr Rw.a rfl (by omega) rfl (by omega) dL_ticks_5 hL (v := (-5)) c ?_ | refine g_ildr Rw.b rfl (by omega) rfl (by omega) dL_ticks_5 hL (v := (-5)) c ?_ | refine g_ildr Rw.c rfl (by omega) rfl (by omega) dL_ticks_5 hL (v := (-5)) c ?_
        show Go _ _ _ _ _ _ 6 _ _
        refine g_if_ge_f (tgt := 22) dL_ticks_6 (by decide) (by decide) ?_
        refine g_ald0 dL_ticks_9 ?_
        refine g_ald1 dL_ticks_10 ?_
        refine g_ald3 dL_ticks_11 ?_
        refine g_ald4 dL_ticks_12 ?_
        refine g_ald5 dL_ticks_14 ?_
        show Go _ _ _ _ _ _ 16 _ _
        refine g_callS5 (l_first (h := h) M ni nd nj hL hz hI.1) mw_3_38 ok_L_first ⟨by decide, by decide⟩ (by omega) (by omega) (Nat.le_of_ble_eq_true rfl) dL_ticks_16 (rI_K ?_)
        rintro r h ⟨rfl, hM⟩
        obtain rfl : r = nI j := (am_of (by omega) hM).symm.trans hmj
        refine g_goto (tgt := 24) dL_ticks_19 (by decide) ?_
        refine g_ist8 (by decide) dL_ticks_24 ?_
        refine g_ild8 dL_ticks_26 ?_
        refine g_if_lt_f (tgt := 157) dL_ticks_28 (by decide) (Int32.not_lt.mpr (nI_pos' (by omega))) ?_
        refine g_ald0 dL_ticks_31 ?_
        show Go _ _ _ _ _ _ 32 _ _
        refine g_iconst (v := nI 3) dL_ticks_32 (by decide +kernel) ?_
        refine g_ild8 dL_ticks_33 ?_
        first | refine g_istr Rw.g rfl (by omega) rfl (by omega) dL_ticks_35 hL hK ?_ | refine g_istr Rw.t rfl (by omega) rfl (by omega) dL_ticks_35 hL hK ?_ | refine g_istr Rw.d rfl (by omega) rfl (by omega) dL_ticks_35 hL hK ?_ | refine g_istr Rw.a rfl (by omega) rfl (by omega) dL_ticks_35 hL hK ?_ | refine g_istr Rw.b rfl (by omega) rfl (by omega) dL_ticks_35 hL hK ?_ | refine g_istr Rw.c rfl (by omega) rfl (by omega) dL_ticks_35 hL hK ?_
        intro h hL hK
        refine g_ald4 dL_ticks_36 ?_
        refine g_bipush (v := nI 6) dL_ticks_38 (by decide +kernel) ?_
        refine g_ild8 dL_ticks_40 ?_
        show Go _ _ _ _ _ _ 42 _ _
        first | refine g_imul_n dL_ticks_42 ?_ | refine g_imul dL_ticks_42 ?_
        refine g_iconst (v := nI 3) dL_ticks_43 (by decide +kernel) ?_
        first | refine g_iadd_n dL_ticks_44 ?_ | refine g_iadd dL_ticks_44 ?_
        refine g_iconst (v := nI 1) dL_ticks_45 (by decide +kernel) ?_
        first | refine g_istr Rw.g rfl (by omega) rfl (by omega) dL_ticks_46 hL hK ?_ | refine g_istr Rw.t rfl (by omega) rfl (by omega) dL_ticks_46 hL hK ?_ | refine g_istr Rw.d rfl (by omega) rfl (by omega) dL_ticks_46 hL hK ?_ | refine g_istr Rw.a rfl (by omega) rfl (by omega) dL_ticks_46 hL hK ?_ | refine g_istr Rw.b rfl (by omega) rfl (by omega) dL_ticks_46 hL hK ?_ | refine g_istr Rw.c rfl (by omega) rfl (by omega) dL_ticks_46 hL hK ?_
        intro h hL hK
        refine g_ald4 dL_ticks_47 ?_
        show Go _ _ _ _ _ _ 49 _ _
        refine g_bipush (v := nI 6) dL_ticks_49 (by decide +kernel) ?_
        refine g_ild8 dL_ticks_51 ?_
        first | refine g_imul_n dL_ticks_53 ?_ | refine g_imul dL_ticks_53 ?_
        refine g_iconst (v := nI 4) dL_ticks_54 (by decide +kernel) ?_
        first | refine g_iadd_n dL_ticks_55 ?_ | refine g_iadd dL_ticks_55 ?_
        refine g_iconst (v := nI 0) dL_ticks_56 (by decide +kernel) ?_
        show Go _ _ _ _ _ _ 57 _ _
        first | refine g_istr Rw.g rfl (by omega) rfl (by omega) dL_ticks_57 hL hK ?_ | refine g_istr Rw.t rfl (by omega) rfl (by omega) dL_ticks_57 hL hK ?_ | refine g_istr Rw.d rfl (by omega) rfl (by omega) dL_ticks_57 hL hK ?_ | refine g_istr Rw.a rfl (by omega) rfl (by omega) dL_ticks_57 hL hK ?_ | refine g_istr Rw.b rfl (by omega) rfl (by omega) dL_ticks_57 hL hK ?_ | refine g_istr Rw.c rfl (by omega) rfl (by omega) dL_ticks_57 hL hK ?_
        intro h hL hK
        refine g_ald4 dL_ticks_58 ?_
        refine g_bipush (v := nI 6) dL_ticks_60 (by decide +kernel) ?_
        refine g_ild8 dL_ticks_62 ?_
        first | refine g_imul_n dL_ticks_64 ?_ | refine g_imul dL_ticks_64 ?_
        refine g_iconst (v := nI 5) dL_ticks_65 (by decide +kernel) ?_
        show Go _ _ _ _ _ _ 66 _ _
        first | refine g_iadd_n dL_ticks_66 ?_ | refine g_iadd dL_ticks_66 ?_
        refine g_ald4 dL_ticks_67 ?_
        refine g_bipush (v := nI 6) dL_ticks_69 (by decide +kernel) ?_
        refine g_ild8 dL_ticks_71 ?_
        first | refine g_imul_n dL_ticks_73 ?_ | refine g_imul dL_ticks_73 ?_
        first | refine g_ildr Rw.g rfl (by omega) rfl (by omega) dL_ticks_74 hL (v := (1 : Int32)) (by simp (disch := omega) only [up_ne]; exact hk) ?_ | refine g_ildr Rw.t rfl (by omega) rfl (by omega) dL_ticks_74 hL (v := (1 : Int32)) (by simp (disch := omega) only [up_ne]; exact hk) ?_ | refine g_ildr Rw.d rfl (by omega) rfl (by omega) dL_ticks_74 hL (v := (1 : Int32)) (by simp (disch := omega) only [up_ne]; exact hk) ?_ | refine g_ildr Rw.a rfl (by omega) rfl (by omega) dL_ticks_74 hL (v := (1 : Int32)) (by simp (disch := omega) only [up_ne]; exact hk) ?_ | refine g_ildr Rw.b rfl (by omega) rfl (by omega) dL_ticks_74 hL (v := (1 : Int32)) (by simp (disch := omega) only [up_ne]; exact hk) ?_ | refine g_ildr Rw.c rfl (by omega) rfl (by omega) dL_ticks_74 hL (v := (1 : Int32)) (by simp (disch := omega) only [up_ne]; exact hk) ?_
        show Go _ _ _ _ _ _ 75 _ _
        refine g_if_ne_t (tgt := 86) dL_ticks_75 (by decide) (by decide) ?_
        refine g_ald4 dL_ticks_86 ?_
        refine g_bipush (v := nI 6) dL_ticks_88 (by decide +kernel) ?_
        refine g_ild8 dL_ticks_90 ?_
        first | refine g_imul_n dL_ticks_92 ?_ | refine g_imul dL_ticks_92 ?_
        first | refine g_ildr Rw.g rfl (by omega) rfl (by omega) dL_ticks_93 hL (v := (1 : Int32)) (by simp (disch := omega) only [up_ne]; exact hk) ?_ | refine g_ildr Rw.t rfl (by omega) rfl (by omega) dL_ticks_93 hL (v := (1 : Int32)) (by simp (disch := omega) only [up_ne]; exact hk) ?_ | refine g_ildr Rw.d rfl (by omega) rfl (by omega) dL_ticks_93 hL (v := (1 : Int32)) (by simp (disch := omega) only [up_ne]; exact hk) ?_ | refine g_ildr Rw.a rfl (by omega) rfl (by omega) dL_ticks_93 hL (v := (1 : Int32)) (by simp (disch := omega) only [up_ne]; exact hk) ?_ | refine g_ildr Rw.b rfl (by omega) rfl (by omega) dL_ticks_93 hL (v := (1 : Int32)) (by simp (disch := omega) only [up_ne]; exact hk) ?_ | refine g_ildr Rw.c rfl (by omega) rfl (by omega) dL_ticks_93 hL (v := (1 : Int32)) (by simp (disch := omega) only [up_ne]; exact hk) ?_
        show Go _ _ _ _ _ _ 94 _ _
        refine g_iconst (v := nI 1) dL_ticks_94 (by decide +kernel) ?_
        refine g_icmp_ne_f (tgt := 111) dL_ticks_95 (by decide) (by decide) ?_
        refine g_ald4 dL_ticks_98 ?_
        refine g_bipush (v := nI 6) dL_ticks_100 (by decide +kernel) ?_
        refine g_ild8 dL_ticks_102 ?_
        first | refine g_imul_n dL_ticks_104 ?_ | refine g_imul dL_ticks_104 ?_
        show Go _ _ _ _ _ _ 105 _ _
        refine g_iconst (v := nI 1) dL_ticks_105 (by decide +kernel) ?_
        first | refine g_iadd_n dL_ticks_106 ?_ | refine g_iadd dL_ticks_106 ?_
        first | refine g_ildr Rw.g rfl (by omega) rfl (by omega) dL_ticks_107 hL (v := (M.1 3 (6 * j + 1))) (by simp (disch := omega) only [up_ne]) ?_ | refine g_ildr Rw.t rfl (by omega) rfl (by omega) dL_ticks_107 hL (v := (M.1 3 (6 * j + 1))) (by simp (disch := omega) only [up_ne]) ?_ | refine g_ildr Rw.d rfl (by omega) rfl (by omega) dL_ticks_107 hL (v := (M.1 3 (6 * j + 1))) (by simp (disch := omega) only [up_ne]) ?_ | refine g_ildr Rw.a rfl (by omega) rfl (by omega) dL_ticks_107 hL (v := (M.1 3 (6 * j + 1))) (by simp (disch := omega) only [up_ne]) ?_ | refine g_ildr Rw.b rfl (by omega) rfl (by omega) dL_ticks_107 hL (v := (M.1 3 (6 * j + 1))) (by simp (disch := omega) only [up_ne]) ?_ | refine g_ildr Rw.c rfl (by omega) rfl (by omega) dL_ticks_107 hL (v := (M.1 3 (6 * j + 1))) (by simp (disch := omega) only [up_ne]) ?_
        refine g_goto (tgt := 113) dL_ticks_108 (by decide) ?_
        first | refine g_istr Rw.g rfl (by omega) rfl (by omega) dL_ticks_113 hL hK ?_ | refine g_istr Rw.t rfl (by omega) rfl (by omega) dL_ticks_113 hL hK ?_ | refine g_istr Rw.d rfl (by omega) rfl (by omega) dL_ticks_113 hL hK ?_ | refine g_istr Rw.a rfl (by omega) rfl (by omega) dL_ticks_113 hL hK ?_ | refine g_istr Rw.b rfl (by omega) rfl (by omega) dL_ticks_113 hL hK ?_ | refine g_istr Rw.c rfl (by omega) rfl (by omega) dL_ticks_113 hL hK ?_
        intro h hL hK
        refine g_ald5 dL_ticks_114 ?_
        show Go _ _ _ _ _ _ 116 _ _
        refine g_bipush (v := nI 6) dL_ticks_116 (by decide +kernel) ?_
        refine g_ild8 dL_ticks_118 ?_
        first | refine g_imul_n dL_ticks_120 ?_ | refine g_imul dL_ticks_120 ?_
        refine g_ald4 dL_ticks_121 ?_
        refine g_bipush (v := nI 6) dL_ticks_123 (by decide +kernel) ?_
        refine g_ild8 dL_ticks_125 ?_
        show Go _ _ _ _ _ _ 127 _ _
        first | refine g_imul_n dL_ticks_127 ?_ | refine g_imul dL_ticks_127 ?_
        first | refine g_ildr Rw.g rfl (by omega) rfl (by omega) dL_ticks_128 hL (v := (1 : Int32)) (by simp (disch := omega) only [up_ne]; exact hk) ?_ | refine g_ildr Rw.t rfl (by omega) rfl (by omega) dL_ticks_128 hL (v := (1 : Int32)) (by simp (disch := omega) only [up_ne]; exact hk) ?_ | refine g_ildr Rw.d rfl (by omega) rfl (by omega) dL_ticks_128 hL (v := (1 : Int32)) (by simp (disch := omega) only [up_ne]; exact hk) ?_ | refine g_ildr Rw.a rfl (by omega) rfl (by omega) dL_ticks_128 hL (v := (1 : Int32)) (by simp (disch := omega) only [up_ne]; exact hk) ?_ | refine g_ildr Rw.b rfl (by omega) rfl (by omega) dL_ticks_128 hL (v := (1 : Int32)) (by simp (disch := omega) only [up_ne]; exact hk) ?_ | refine g_ildr Rw.c rfl (by omega) rfl (by omega) dL_ticks_128 hL (v := (1 : Int32)) (by simp (disch := omega) only [up_ne]; exact hk) ?_
        refine g_iconst (v := nI 1) dL_ticks_129 (by decide +kernel) ?_
        refine g_icmp_ne_f (tgt := 141) dL_ticks_130 (by decide) (by decide) ?_
        refine g_ald0 dL_ticks_133 ?_
        refine g_ald1 dL_ticks_134 ?_
        show Go _ _ _ _ _ _ 135 _ _
        refine g_callS2 (l_cleaner (h := h) _ ni nd nj hL (hzz _ (fun a h1 h2 => by simp (disch := omega) only [up_ne])) hH hp) mw_3_50 ok_L_cleaner ⟨by decide, by decide⟩ (by omega) (by omega) (Nat.le_of_ble_eq_true rfl) dL_ticks_135 (rI_K ?_)
        rintro r5 h ⟨rfl, hM5⟩
        obtain rfl : aC M ni = r5 := am_of (by omega) hM5
        refine g_goto (tgt := 143) dL_ticks_138 (by decide) ?_
        first | refine g_istr Rw.g rfl (by omega) rfl (by omega) dL_ticks_143 hL hK ?_ | refine g_istr Rw.t rfl (by omega) rfl (by omega) dL_ticks_143 hL hK ?_ | refine g_istr Rw.d rfl (by omega) rfl (by omega) dL_ticks_143 hL hK ?_ | refine g_istr Rw.a rfl (by omega) rfl (by omega) dL_ticks_143 hL hK ?_ | refine g_istr Rw.b rfl (by omega) rfl (by omega) dL_ticks_143 hL hK ?_ | refine g_istr Rw.c rfl (by omega) rfl (by omega) dL_ticks_143 hL hK ?_
        intro h hL hK
        refine g_ald5 dL_ticks_144 ?_
        refine g_bipush (v := nI 6) dL_ticks_146 (by decide +kernel) ?_
        refine g_ild8 dL_ticks_148 ?_
        show Go _ _ _ _ _ _ 150 _ _
        first | refine g_imul_n dL_ticks_150 ?_ | refine g_imul dL_ticks_150 ?_
        refine g_iconst (v := nI 4) dL_ticks_151 (by decide +kernel) ?_
        first | refine g_iadd_n dL_ticks_152 ?_ | refine g_iadd dL_ticks_152 ?_
        refine g_ald0 dL_ticks_153 ?_
        refine g_iconst (v := nI 0) dL_ticks_154 (by decide +kernel) ?_
        first | refine g_ildr Rw.g rfl (by omega) rfl (by omega) dL_ticks_155 hL (v := (M.1 0 0)) (by simp (disch := omega) only [up_ne]) ?_ | refine g_ildr Rw.t rfl (by omega) rfl (by omega) dL_ticks_155 hL (v := (M.1 0 0)) (by simp (disch := omega) only [up_ne]) ?_ | refine g_ildr Rw.d rfl (by omega) rfl (by omega) dL_ticks_155 hL (v := (M.1 0 0)) (by simp (disch := omega) only [up_ne]) ?_ | refine g_ildr Rw.a rfl (by omega) rfl (by omega) dL_ticks_155 hL (v := (M.1 0 0)) (by simp (disch := omega) only [up_ne]) ?_ | refine g_ildr Rw.b rfl (by omega) rfl (by omega) dL_ticks_155 hL (v := (M.1 0 0)) (by simp (disch := omega) only [up_ne]) ?_ | refine g_ildr Rw.c rfl (by omega) rfl (by omega) dL_ticks_155 hL (v := (M.1 0 0)) (by simp (disch := omega) only [up_ne]) ?_
        show Go _ _ _ _ _ _ 156 _ _
        first | refine g_istr Rw.g rfl (by omega) rfl (by omega) dL_ticks_156 hL hK ?_ | refine g_istr Rw.t rfl (by omega) rfl (by omega) dL_ticks_156 hL hK ?_ | refine g_istr Rw.d rfl (by omega) rfl (by omega) dL_ticks_156 hL hK ?_ | refine g_istr Rw.a rfl (by omega) rfl (by omega) dL_ticks_156 hL hK ?_ | refine g_istr Rw.b rfl (by omega) rfl (by omega) dL_ticks_156 hL hK ?_ | refine g_istr Rw.c rfl (by omega) rfl (by omega) dL_ticks_156 hL hK ?_
        intro h hL hK
        exact tail _ _ (by rw [e]; exact hL) hK
      · have ek : kdO M nd j = -5 := by unfold kdO; rw [hk, if_neg (by decide), if_neg (by decide)]
        have ec : clO M ni j = -5 := by unfold clO; rw [hk, if_neg (by decide)]
        rw [ek, ec] at e
        refine g_iconst (v := nI 0) dL_ticks_0 (by decide +kernel) ?_
        refine g_ist7 (by decide) dL_ticks_1 ?_
        refine g_ald0 dL_ticks_3 ?_
        refine g_iconst (v := nI 3) dL_ticks_4 (by decide +kernel) ?_
        first | refine g_ildr Rw.g rfl (by omega) rfl (by omega) dL_ticks_5 hL (v := (-5)) c ?_ | refine g_ildr Rw.t rfl (by omega) rfl (by omega) dL_ticks_5 hL (v := (-5)) c ?_ | refine g_ildr Rw.d rfl (by omega) rfl (by omega) dL_ticks_5 hL (v := (-5)) c ?_ | refine g_ildr Rw.a rfl (by omega) rfl (by omega) dL_ticks_5 hL (v := (-5)) c ?_ | refine g_ildr Rw.b rfl (by omega) rfl (by omega) dL_ticks_5 hL (v := (-5)) c ?_ | refine g_ildr Rw.c rfl (by omega) rfl (by omega) dL_ticks_5 hL (v := (-5)) c ?_
        show Go _ _ _ _ _ _ 6 _ _
        refine g_if_ge_f (tgt := 22) dL_ticks_6 (by decide) (by decide) ?_
        refine g_ald0 dL_ticks_9 ?_
        refine g_ald1 dL_ticks_10 ?_
        refine g_ald3 dL_ticks_11 ?_
        refine g_ald4 dL_ticks_12 ?_
        refine g_ald5 dL_ticks_14 ?_
        show Go _ _ _ _ _ _ 16 _ _
        refine g_callS5 (l_first (h := h) M ni nd nj hL hz hI.1) mw_3_38 ok_L_first ⟨by decide, by decide⟩ (by omega) (by omega) (Nat.le_of_ble_eq_true rfl) dL_ticks_16 (rI_K ?_)
        rintro r h ⟨rfl, hM⟩
        obtain rfl : r = nI j := (am_of (by omega) hM).symm.trans hmj
        refine g_goto (tgt := 24) dL_ticks_19 (by decide) ?_
        refine g_ist8 (by decide) dL_ticks_24 ?_
        refine g_ild8 dL_ticks_26 ?_
        refine g_if_lt_f (tgt := 157) dL_ticks_28 (by decide) (Int32.not_lt.mpr (nI_pos' (by omega))) ?_
        refine g_ald0 dL_ticks_31 ?_
        show Go _ _ _ _ _ _ 32 _ _
        refine g_iconst (v := nI 3) dL_ticks_32 (by decide +kernel) ?_
        refine g_ild8 dL_ticks_33 ?_
        first | refine g_istr Rw.g rfl (by omega) rfl (by omega) dL_ticks_35 hL hK ?_ | refine g_istr Rw.t rfl (by omega) rfl (by omega) dL_ticks_35 hL hK ?_ | refine g_istr Rw.d rfl (by omega) rfl (by omega) dL_ticks_35 hL hK ?_ | refine g_istr Rw.a rfl (by omega) rfl (by omega) dL_ticks_35 hL hK ?_ | refine g_istr Rw.b rfl (by omega) rfl (by omega) dL_ticks_35 hL hK ?_ | refine g_istr Rw.c rfl (by omega) rfl (by omega) dL_ticks_35 hL hK ?_
        intro h hL hK
        refine g_ald4 dL_ticks_36 ?_
        refine g_bipush (v := nI 6) dL_ticks_38 (by decide +kernel) ?_
        refine g_ild8 dL_ticks_40 ?_
        show Go _ _ _ _ _ _ 42 _ _
        first | refine g_imul_n dL_ticks_42 ?_ | refine g_imul dL_ticks_42 ?_
        refine g_iconst (v := nI 3) dL_ticks_43 (by decide +kernel) ?_
        first | refine g_iadd_n dL_ticks_44 ?_ | refine g_iadd dL_ticks_44 ?_
        refine g_iconst (v := nI 1) dL_ticks_45 (by decide +kernel) ?_
        first | refine g_istr Rw.g rfl (by omega) rfl (by omega) dL_ticks_46 hL hK ?_ | refine g_istr Rw.t rfl (by omega) rfl (by omega) dL_ticks_46 hL hK ?_ | refine g_istr Rw.d rfl (by omega) rfl (by omega) dL_ticks_46 hL hK ?_ | refine g_istr Rw.a rfl (by omega) rfl (by omega) dL_ticks_46 hL hK ?_ | refine g_istr Rw.b rfl (by omega) rfl (by omega) dL_ticks_46 hL hK ?_ | refine g_istr Rw.c rfl (by omega) rfl (by omega) dL_ticks_46 hL hK ?_
        intro h hL hK
        refine g_ald4 dL_ticks_47 ?_
        show Go _ _ _ _ _ _ 49 _ _
        refine g_bipush (v := nI 6) dL_ticks_49 (by decide +kernel) ?_
        refine g_ild8 dL_ticks_51 ?_
        first | refine g_imul_n dL_ticks_53 ?_ | refine g_imul dL_ticks_53 ?_
        refine g_iconst (v := nI 4) dL_ticks_54 (by decide +kernel) ?_
        first | refine g_iadd_n dL_ticks_55 ?_ | refine g_iadd dL_ticks_55 ?_
        refine g_iconst (v := nI 0) dL_ticks_56 (by decide +kernel) ?_
        show Go _ _ _ _ _ _ 57 _ _
        first | refine g_istr Rw.g rfl (by omega) rfl (by omega) dL_ticks_57 hL hK ?_ | refine g_istr Rw.t rfl (by omega) rfl (by omega) dL_ticks_57 hL hK ?_ | refine g_istr Rw.d rfl (by omega) rfl (by omega) dL_ticks_57 hL hK ?_ | refine g_istr Rw.a rfl (by omega) rfl (by omega) dL_ticks_57 hL hK ?_ | refine g_istr Rw.b rfl (by omega) rfl (by omega) dL_ticks_57 hL hK ?_ | refine g_istr Rw.c rfl (by omega) rfl (by omega) dL_ticks_57 hL hK ?_
        intro h hL hK
        refine g_ald4 dL_ticks_58 ?_
        refine g_bipush (v := nI 6) dL_ticks_60 (by decide +kernel) ?_
        refine g_ild8 dL_ticks_62 ?_
        first | refine g_imul_n dL_ticks_64 ?_ | refine g_imul dL_ticks_64 ?_
        refine g_iconst (v := nI 5) dL_ticks_65 (by decide +kernel) ?_
        show Go _ _ _ _ _ _ 66 _ _
        first | refine g_iadd_n dL_ticks_66 ?_ | refine g_iadd dL_ticks_66 ?_
        refine g_ald4 dL_ticks_67 ?_
        refine g_bipush (v := nI 6) dL_ticks_69 (by decide +kernel) ?_
        refine g_ild8 dL_ticks_71 ?_
        first | refine g_imul_n dL_ticks_73 ?_ | refine g_imul dL_ticks_73 ?_
        first | refine g_ildr Rw.g rfl (by omega) rfl (by omega) dL_ticks_74 hL (v := (2 : Int32)) (by simp (disch := omega) only [up_ne]; exact hk) ?_ | refine g_ildr Rw.t rfl (by omega) rfl (by omega) dL_ticks_74 hL (v := (2 : Int32)) (by simp (disch := omega) only [up_ne]; exact hk) ?_ | refine g_ildr Rw.d rfl (by omega) rfl (by omega) dL_ticks_74 hL (v := (2 : Int32)) (by simp (disch := omega) only [up_ne]; exact hk) ?_ | refine g_ildr Rw.a rfl (by omega) rfl (by omega) dL_ticks_74 hL (v := (2 : Int32)) (by simp (disch := omega) only [up_ne]; exact hk) ?_ | refine g_ildr Rw.b rfl (by omega) rfl (by omega) dL_ticks_74 hL (v := (2 : Int32)) (by simp (disch := omega) only [up_ne]; exact hk) ?_ | refine g_ildr Rw.c rfl (by omega) rfl (by omega) dL_ticks_74 hL (v := (2 : Int32)) (by simp (disch := omega) only [up_ne]; exact hk) ?_
        show Go _ _ _ _ _ _ 75 _ _
        refine g_if_ne_t (tgt := 86) dL_ticks_75 (by decide) (by decide) ?_
        refine g_ald4 dL_ticks_86 ?_
        refine g_bipush (v := nI 6) dL_ticks_88 (by decide +kernel) ?_
        refine g_ild8 dL_ticks_90 ?_
        first | refine g_imul_n dL_ticks_92 ?_ | refine g_imul dL_ticks_92 ?_
        first | refine g_ildr Rw.g rfl (by omega) rfl (by omega) dL_ticks_93 hL (v := (2 : Int32)) (by simp (disch := omega) only [up_ne]; exact hk) ?_ | refine g_ildr Rw.t rfl (by omega) rfl (by omega) dL_ticks_93 hL (v := (2 : Int32)) (by simp (disch := omega) only [up_ne]; exact hk) ?_ | refine g_ildr Rw.d rfl (by omega) rfl (by omega) dL_ticks_93 hL (v := (2 : Int32)) (by simp (disch := omega) only [up_ne]; exact hk) ?_ | refine g_ildr Rw.a rfl (by omega) rfl (by omega) dL_ticks_93 hL (v := (2 : Int32)) (by simp (disch := omega) only [up_ne]; exact hk) ?_ | refine g_ildr Rw.b rfl (by omega) rfl (by omega) dL_ticks_93 hL (v := (2 : Int32)) (by simp (disch := omega) only [up_ne]; exact hk) ?_ | refine g_ildr Rw.c rfl (by omega) rfl (by omega) dL_ticks_93 hL (v := (2 : Int32)) (by simp (disch := omega) only [up_ne]; exact hk) ?_
        show Go _ _ _ _ _ _ 94 _ _
        refine g_iconst (v := nI 1) dL_ticks_94 (by decide +kernel) ?_
        refine g_icmp_ne_t (tgt := 111) dL_ticks_95 (by decide) (by decide) ?_
        refine g_bipush (v := -5) dL_ticks_111 (by decide +kernel) ?_
        first | refine g_istr Rw.g rfl (by omega) rfl (by omega) dL_ticks_113 hL hK ?_ | refine g_istr Rw.t rfl (by omega) rfl (by omega) dL_ticks_113 hL hK ?_ | refine g_istr Rw.d rfl (by omega) rfl (by omega) dL_ticks_113 hL hK ?_ | refine g_istr Rw.a rfl (by omega) rfl (by omega) dL_ticks_113 hL hK ?_ | refine g_istr Rw.b rfl (by omega) rfl (by omega) dL_ticks_113 hL hK ?_ | refine g_istr Rw.c rfl (by omega) rfl (by omega) dL_ticks_113 hL hK ?_
        intro h hL hK
        refine g_ald5 dL_ticks_114 ?_
        refine g_bipush (v := nI 6) dL_ticks_116 (by decide +kernel) ?_
        show Go _ _ _ _ _ _ 118 _ _
        refine g_ild8 dL_ticks_118 ?_
        first | refine g_imul_n dL_ticks_120 ?_ | refine g_imul dL_ticks_120 ?_
        refine g_ald4 dL_ticks_121 ?_
        refine g_bipush (v := nI 6) dL_ticks_123 (by decide +kernel) ?_
        refine g_ild8 dL_ticks_125 ?_
        first | refine g_imul_n dL_ticks_127 ?_ | refine g_imul dL_ticks_127 ?_
        show Go _ _ _ _ _ _ 128 _ _
        first | refine g_ildr Rw.g rfl (by omega) rfl (by omega) dL_ticks_128 hL (v := (2 : Int32)) (by simp (disch := omega) only [up_ne]; exact hk) ?_ | refine g_ildr Rw.t rfl (by omega) rfl (by omega) dL_ticks_128 hL (v := (2 : Int32)) (by simp (disch := omega) only [up_ne]; exact hk) ?_ | refine g_ildr Rw.d rfl (by omega) rfl (by omega) dL_ticks_128 hL (v := (2 : Int32)) (by simp (disch := omega) only [up_ne]; exact hk) ?_ | refine g_ildr Rw.a rfl (by omega) rfl (by omega) dL_ticks_128 hL (v := (2 : Int32)) (by simp (disch := omega) only [up_ne]; exact hk) ?_ | refine g_ildr Rw.b rfl (by omega) rfl (by omega) dL_ticks_128 hL (v := (2 : Int32)) (by simp (disch := omega) only [up_ne]; exact hk) ?_ | refine g_ildr Rw.c rfl (by omega) rfl (by omega) dL_ticks_128 hL (v := (2 : Int32)) (by simp (disch := omega) only [up_ne]; exact hk) ?_
        refine g_iconst (v := nI 1) dL_ticks_129 (by decide +kernel) ?_
        refine g_icmp_ne_t (tgt := 141) dL_ticks_130 (by decide) (by decide) ?_
        refine g_bipush (v := -5) dL_ticks_141 (by decide +kernel) ?_
        first | refine g_istr Rw.g rfl (by omega) rfl (by omega) dL_ticks_143 hL hK ?_ | refine g_istr Rw.t rfl (by omega) rfl (by omega) dL_ticks_143 hL hK ?_ | refine g_istr Rw.d rfl (by omega) rfl (by omega) dL_ticks_143 hL hK ?_ | refine g_istr Rw.a rfl (by omega) rfl (by omega) dL_ticks_143 hL hK ?_ | refine g_istr Rw.b rfl (by omega) rfl (by omega) dL_ticks_143 hL hK ?_ | refine g_istr Rw.c rfl (by omega) rfl (by omega) dL_ticks_143 hL hK ?_
        intro h hL hK
        refine g_ald5 dL_ticks_144 ?_
        show Go _ _ _ _ _ _ 146 _ _
        refine g_bipush (v := nI 6) dL_ticks_146 (by decide +kernel) ?_
        refine g_ild8 dL_ticks_148 ?_
        first | refine g_imul_n dL_ticks_150 ?_ | refine g_imul dL_ticks_150 ?_
        refine g_iconst (v := nI 4) dL_ticks_151 (by decide +kernel) ?_
        first | refine g_iadd_n dL_ticks_152 ?_ | refine g_iadd dL_ticks_152 ?_
        refine g_ald0 dL_ticks_153 ?_
        show Go _ _ _ _ _ _ 154 _ _
        refine g_iconst (v := nI 0) dL_ticks_154 (by decide +kernel) ?_
        first | refine g_ildr Rw.g rfl (by omega) rfl (by omega) dL_ticks_155 hL (v := (M.1 0 0)) (by simp (disch := omega) only [up_ne]) ?_ | refine g_ildr Rw.t rfl (by omega) rfl (by omega) dL_ticks_155 hL (v := (M.1 0 0)) (by simp (disch := omega) only [up_ne]) ?_ | refine g_ildr Rw.d rfl (by omega) rfl (by omega) dL_ticks_155 hL (v := (M.1 0 0)) (by simp (disch := omega) only [up_ne]) ?_ | refine g_ildr Rw.a rfl (by omega) rfl (by omega) dL_ticks_155 hL (v := (M.1 0 0)) (by simp (disch := omega) only [up_ne]) ?_ | refine g_ildr Rw.b rfl (by omega) rfl (by omega) dL_ticks_155 hL (v := (M.1 0 0)) (by simp (disch := omega) only [up_ne]) ?_ | refine g_ildr Rw.c rfl (by omega) rfl (by omega) dL_ticks_155 hL (v := (M.1 0 0)) (by simp (disch := omega) only [up_ne]) ?_
        first | refine g_istr Rw.g rfl (by omega) rfl (by omega) dL_ticks_156 hL hK ?_ | refine g_istr Rw.t rfl (by omega) rfl (by omega) dL_ticks_156 hL hK ?_ | refine g_istr Rw.d rfl (by omega) rfl (by omega) dL_ticks_156 hL hK ?_ | refine g_istr Rw.a rfl (by omega) rfl (by omega) dL_ticks_156 hL hK ?_ | refine g_istr Rw.b rfl (by omega) rfl (by omega) dL_ticks_156 hL hK ?_ | refine g_istr Rw.c rfl (by omega) rfl (by omega) dL_ticks_156 hL hK ?_
        intro h hL hK
        exact tail _ _ (by rw [e]; exact hL) hK
  · have e : mBg M ni nd nj = M := by unfold mBg; rw [if_neg (fun z => c z.1)]
    obtain ⟨j, hj9, h3⟩ : ∃ j, j < nj ∧ M.1 0 3 = nI j := by
      rcases hI.2.2.2.2.2.2 with w | ⟨j, it, k, q, hB⟩
      · exact absurd w.1 c
      · exact ⟨j, hB.1.1.1, hB.1.1.2.1⟩
    refine g_iconst (v := nI 0) dL_ticks_0 (by decide +kernel) ?_
    refine g_ist7 (by decide) dL_ticks_1 ?_
    refine g_ald0 dL_ticks_3 ?_
    refine g_iconst (v := nI 3) dL_ticks_4 (by decide +kernel) ?_
    first | refine g_ildr Rw.g rfl (by omega) rfl (by omega) dL_ticks_5 hL (v := (nI j)) h3 ?_ | refine g_ildr Rw.t rfl (by omega) rfl (by omega) dL_ticks_5 hL (v := (nI j)) h3 ?_ | refine g_ildr Rw.d rfl (by omega) rfl (by omega) dL_ticks_5 hL (v := (nI j)) h3 ?_ | refine g_ildr Rw.a rfl (by omega) rfl (by omega) dL_ticks_5 hL (v := (nI j)) h3 ?_ | refine g_ildr Rw.b rfl (by omega) rfl (by omega) dL_ticks_5 hL (v := (nI j)) h3 ?_ | refine g_ildr Rw.c rfl (by omega) rfl (by omega) dL_ticks_5 hL (v := (nI j)) h3 ?_
    show Go _ _ _ _ _ _ 6 _ _
    refine g_if_ge_t (tgt := 22) dL_ticks_6 (by decide) (Int32.not_lt.mp (nI_pos (by omega))) ?_
    refine g_bipush (v := -5) dL_ticks_22 (by decide +kernel) ?_
    refine g_ist8 (by decide) dL_ticks_24 ?_
    refine g_ild8 dL_ticks_26 ?_
    refine g_if_lt_t (tgt := 157) dL_ticks_28 (by decide) (by decide) ?_
    exact tail _ _ (by rw [e]; exact hL) hK
end P38b
