/-! ===== WHAT IS NOT YET THERE IS EMPTY: the law's rows behind the last item and the last drive ===== -/
def Nz (M : Mo) (ni nd : Nat) : Prop := (∀ i, ni ≤ i → M.1 1 (6 * i + 2) = 0 ∧ M.1 1 (6 * i + 5) = 0) ∧ ∀ k, nd ≤ k → k < 4 → M.1 2 (7 * k + 3) = 0 ∧ M.1 2 (7 * k + 4) = 0 ∧ M.1 2 (7 * k + 5) = 0 ∧ M.2 (2 * k) = 0
/-- a job that is not under way shows no step -/
def S5 (M : Mo) (nj : Nat) : Prop := ∀ j, j < nj → M.1 3 (6 * j + 3) ≠ 1 → M.1 3 (6 * j + 4) = -5
def Xn (M : Mo) (ni nd nj : Nat) : Prop := Xt M ni nd nj ∧ Nz M ni nd ∧ S5 M nj
section P38n
variable {M S : Mo} {ni nd nj j it k q T : Nat}
theorem Nz.of (h : Nz M ni nd) (h1 : ∀ i, ni ≤ i → S.1 1 (6 * i + 2) = M.1 1 (6 * i + 2) ∧ S.1 1 (6 * i + 5) = M.1 1 (6 * i + 5)) (h2 : ∀ k, nd ≤ k → k < 4 → S.1 2 (7 * k + 3) = M.1 2 (7 * k + 3) ∧ S.1 2 (7 * k + 4) = M.1 2 (7 * k + 4) ∧ S.1 2 (7 * k + 5) = M.1 2 (7 * k + 5) ∧ S.2 (2 * k) = M.2 (2 * k)) : Nz S ni nd := by
  refine ⟨fun i hi => ?_, fun k hk hk4 => ?_⟩
  · rw [(h1 i hi).1, (h1 i hi).2]; exact h.1 i hi
  · obtain ⟨a, b, c, d⟩ := h2 k hk hk4
    rw [a, b, c, d]; exact h.2 k hk hk4
theorem Nz.row (h : Nz M ni nd) (h1 : S.1 1 = M.1 1) (h2 : S.1 2 = M.1 2) (hf : S.2 = M.2) : Nz S ni nd := h.of (fun i _ => by rw [h1]; exact ⟨rfl, rfl⟩) (fun k _ _ => by rw [h2, hf]; exact ⟨rfl, rfl, rfl, rfl⟩)
theorem nz_plea (hx : True) (h : Nz M ni nd) : Nz (mPlea M j) ni nd := h.of (fun i hi => ⟨by simp (disch := omega) only [mPlea, up_ne, uf_i, up_f], by simp (disch := omega) only [mPlea, up_ne, uf_i, up_f]⟩) (fun k' hk' hk4 => ⟨by simp (disch := omega) only [mPlea, up_ne, uf_i, up_f], by simp (disch := omega) only [mPlea, up_ne, uf_i, up_f], by simp (disch := omega) only [mPlea, up_ne, uf_i, up_f], by simp (disch := omega) only [mPlea, up_f, uf_ne]⟩)
theorem nz_take (ht : it < ni) (h : Nz M ni nd) : Nz (mTake M it) ni nd := h.of (fun i hi => ⟨by simp (disch := omega) only [mTake, up_ne, uf_i, up_f], by simp (disch := omega) only [mTake, up_ne, uf_i, up_f]⟩) (fun k' hk' hk4 => ⟨by simp (disch := omega) only [mTake, up_ne, uf_i, up_f], by simp (disch := omega) only [mTake, up_ne, uf_i, up_f], by simp (disch := omega) only [mTake, up_ne, uf_i, up_f], by simp (disch := omega) only [mTake, up_f, uf_ne]⟩)
theorem nz_home (ht : it < ni) (h : Nz M ni nd) : Nz (mHome M it) ni nd := h.of (fun i hi => ⟨by simp (disch := omega) only [mHome, up_ne, uf_i, up_f], by simp (disch := omega) only [mHome, up_ne, uf_i, up_f]⟩) (fun k' hk' hk4 => ⟨by simp (disch := omega) only [mHome, up_ne, uf_i, up_f], by simp (disch := omega) only [mHome, up_ne, uf_i, up_f], by simp (disch := omega) only [mHome, up_ne, uf_i, up_f], by simp (disch := omega) only [mHome, up_f, uf_ne]⟩)
theorem nz_load (ht : it < ni) (h : Nz M ni nd) : Nz (mLoad M it k) ni nd := h.of (fun i hi => ⟨by simp (disch := omega) only [mLoad, up_ne, uf_i, up_f], by simp (disch := omega) only [mLoad, up_ne, uf_i, up_f]⟩) (fun k' hk' hk4 => ⟨by simp (disch := omega) only [mLoad, up_ne, uf_i, up_f], by simp (disch := omega) only [mLoad, up_ne, uf_i, up_f], by simp (disch := omega) only [mLoad, up_ne, uf_i, up_f], by simp (disch := omega) only [mLoad, up_f, uf_ne]⟩)
theorem nz_unload (ht : it < ni) (h : Nz M ni nd) : Nz (mUnload M it k) ni nd := h.of (fun i hi => ⟨by simp (disch := omega) only [mUnload, up_ne, uf_i, up_f], by simp (disch := omega) only [mUnload, up_ne, uf_i, up_f]⟩) (fun k' hk' hk4 => ⟨by simp (disch := omega) only [mUnload, up_ne, uf_i, up_f], by simp (disch := omega) only [mUnload, up_ne, uf_i, up_f], by simp (disch := omega) only [mUnload, up_ne, uf_i, up_f], by simp (disch := omega) only [mUnload, up_f, uf_ne]⟩)
theorem nz_read1 (hx : it < ni ∧ k < nd) (h : Nz M ni nd) : Nz (mRead1 M it k) ni nd := h.of (fun i hi => ⟨by simp (disch := omega) only [mRead1, up_ne, uf_i, up_f], by simp (disch := omega) only [mRead1, up_ne, uf_i, up_f]⟩) (fun k' hk' hk4 => ⟨by simp (disch := omega) only [mRead1, up_ne, uf_i, up_f], by simp (disch := omega) only [mRead1, up_ne, uf_i, up_f], by simp (disch := omega) only [mRead1, up_ne, uf_i, up_f], by simp (disch := omega) only [mRead1, up_f, uf_ne]⟩)
theorem nz_lost (hx : it < ni ∧ k < nd) (h : Nz M ni nd) : Nz (mLost M it k) ni nd := h.of (fun i hi => ⟨by simp (disch := omega) only [mLost, up_ne, uf_i, up_f], by simp (disch := omega) only [mLost, up_ne, uf_i, up_f]⟩) (fun k' hk' hk4 => ⟨by simp (disch := omega) only [mLost, up_ne, uf_i, up_f], by simp (disch := omega) only [mLost, up_ne, uf_i, up_f], by simp (disch := omega) only [mLost, up_ne, uf_i, up_f], by simp (disch := omega) only [mLost, up_f, uf_ne]⟩)
theorem nz_clean (hx : it < ni ∧ k < nd) (h : Nz M ni nd) : Nz (mClean M it k) ni nd := h.of (fun i hi => ⟨by simp (disch := omega) only [mClean, up_ne, uf_i, up_f], by simp (disch := omega) only [mClean, up_ne, uf_i, up_f]⟩) (fun k' hk' hk4 => ⟨by simp (disch := omega) only [mClean, up_ne, uf_i, up_f], by simp (disch := omega) only [mClean, up_ne, uf_i, up_f], by simp (disch := omega) only [mClean, up_ne, uf_i, up_f], by simp (disch := omega) only [mClean, up_f, uf_ne]⟩)
theorem nz_next (hx : True) (h : Nz M ni nd) : Nz (mNext M j) ni nd := h.of (fun i hi => ⟨by simp (disch := omega) only [mNext, up_ne, uf_i, up_f], by simp (disch := omega) only [mNext, up_ne, uf_i, up_f]⟩) (fun k' hk' hk4 => ⟨by simp (disch := omega) only [mNext, up_ne, uf_i, up_f], by simp (disch := omega) only [mNext, up_ne, uf_i, up_f], by simp (disch := omega) only [mNext, up_ne, uf_i, up_f], by simp (disch := omega) only [mNext, up_f, uf_ne]⟩)
theorem nz_went (s : Nat) (h : Nz M ni nd) : Nz (mWent M s) ni nd := h.of (fun i hi => ⟨by simp (disch := omega) only [mWent, up_ne, uf_i, up_f], by simp (disch := omega) only [mWent, up_ne, uf_i, up_f]⟩) (fun k' hk' hk4 => ⟨by simp (disch := omega) only [mWent, up_ne, uf_i, up_f], by simp (disch := omega) only [mWent, up_ne, uf_i, up_f], by simp (disch := omega) only [mWent, up_ne, uf_i, up_f], by simp (disch := omega) only [mWent, up_f, uf_ne]⟩)
theorem nz_up4 (x : Nat) (v : Int32) (h : Nz M ni nd) : Nz (up M 4 x v) ni nd := h.row (up_row (by omega)) (up_row (by omega)) rfl
theorem nz_up5 (x : Nat) (v : Int32) (h : Nz M ni nd) : Nz (up M 5 x v) ni nd := h.row (up_row (by omega)) (up_row (by omega)) rfl
theorem nz_up3 (x : Nat) (v : Int32) (h : Nz M ni nd) : Nz (up M 3 x v) ni nd := h.row (up_row (by omega)) (up_row (by omega)) rfl
theorem nz_up0 (x : Nat) (v : Int32) (h : Nz M ni nd) : Nz (up M 0 x v) ni nd := h.row (up_row (by omega)) (up_row (by omega)) rfl
theorem nz_move (v : Int32) (ht : it < ni) (h : Nz M ni nd) : Nz (mMove M it v) ni nd := nz_home ht (h.of (fun i hi => ⟨up_ne (by omega), up_ne (by omega)⟩) (fun k' hk' hk4 => ⟨up_ne (by omega), up_ne (by omega), up_ne (by omega), rfl⟩))
theorem nz_go (s : Nat) (h : Nz M ni nd) : Nz (mGo M j s).1 ni nd := by
  unfold mGo
  split
  · exact h
  · split
    · exact nz_plea trivial h
    · exact nz_went s h
theorem nz_read (hx : it < ni ∧ k < nd) (h : Nz M ni nd) : Nz (mRead M j it k).1 ni nd := by
  unfold mRead
  split
  · exact nz_up4 _ _ h
  · split
    · exact nz_up4 _ _ (nz_up5 _ _ (nz_lost hx (nz_read1 hx h)))
    · exact nz_read1 hx h
theorem nz_begin (kd cl : Int32) (h : Nz M ni nd) : Nz (mBegin M j kd cl) ni nd := nz_up4 _ _ (nz_up4 _ _ (nz_up3 _ _ (nz_up3 _ _ (nz_up3 _ _ (nz_up0 _ _ h)))))
theorem nz_end (h : Nz M ni nd) : Nz (mEnd M j) ni nd := nz_up0 _ _ (nz_up4 _ _ (nz_up3 _ _ (nz_up3 _ _ (nz_next trivial h))))
theorem nz_pass (h : Nz M ni nd) : Nz (mPass M) ni nd := nz_up0 _ _ (h.of (fun i hi => ⟨rfl, rfl⟩) (fun k' hk' hk4 => ⟨rfl, rfl, rfl, uf_ne (by omega)⟩))
theorem nz_step (hO : Own M ni nd nj j it k q) (h : Nz M ni nd) : Nz (mStep M j it k).1 ni nd := by
  obtain ⟨⟨-, -, -, ht, h4, hq8⟩, hK, -⟩ := hO
  obtain rfl | rfl | rfl | rfl | rfl | rfl | rfl | rfl : q = 0 ∨ q = 1 ∨ q = 2 ∨ q = 3 ∨ q = 4 ∨ q = 5 ∨ q = 6 ∨ q = 7 := by omega
  · rw [ms06 (Or.inl h4)]; exact nz_go _ h
  · rw [ms1 h4]; exact nz_take ht h
  · rw [ms2 h4]; exact nz_go _ h
  · rw [ms3 h4]
    by_cases c : M.1 3 (6 * j) = 2
    · rw [if_pos c]; exact nz_move _ ht h
    · rw [if_neg c]; exact nz_load ht h
  · rw [ms4 h4]
    have hk : k < nd := by
      rcases hK with ⟨-, -, z, -⟩ | ⟨-, -, z, -⟩ | ⟨-, -, -, z⟩
      · exact z
      · exact z
      · omega
    by_cases c : M.1 3 (6 * j) = 0
    · rw [if_pos c]; exact nz_read ⟨ht, hk⟩ h
    · rw [if_neg c]; exact nz_clean ⟨ht, hk⟩ h
  · rw [ms5 h4]; exact nz_unload ht h
  · rw [ms06 (Or.inr h4)]; exact nz_go _ h
  · rw [ms7 h4]; exact nz_home ht h
theorem nz_bg (h : Nz M ni nd) : Nz (mBg M ni nd nj) ni nd := by
  unfold mBg
  split
  · exact nz_begin _ _ h
  · exact h
theorem nz_run (hI : Inv M ni nd nj T) (h : Nz M ni nd) : Nz (mRun M).1 ni nd := by
  unfold mRun
  rcases hI.2.2.2.2.2.2 with w7 | ⟨j, it, k, q, hB⟩
  · rw [if_pos w7.1]
    exact nz_up0 _ _ h
  · obtain ⟨⟨hi, hd, hj10⟩, -⟩ := id hI.1
    obtain ⟨a, -, -, b⟩ := own_o hB.1 hj10 hi hd
    rw [if_neg b, a]
    unfold mDo
    rw [ms_o hB.1 hj10 hi hd]
    have hS := nz_step hB.1 h
    split
    · exact hS
    · unfold mAfter
      by_cases cc : (mStep M j it k).1.1 3 (6 * j + 4) + 1 = (if (mStep M j it k).1.1 3 (6 * j) = 2 then 4 else 8)
      · rw [if_pos cc]; exact nz_end hS
      · rw [if_neg cc]; exact nz_next trivial hS
theorem nz_one (hI : Inv M ni nd nj T) (hT : T < 1500) (h : Nz M ni nd) : Nz (mOne M ni nd nj).1 ni nd := nz_pass (nz_run (inv_bg hI (by omega)) (nz_bg h))
theorem S5.row (h : S5 M nj) (h3 : S.1 3 = M.1 3) : S5 S nj := fun n hn => by rw [h3]; exact h n hn
theorem s5_begin (kd cl : Int32) (h : S5 M nj) : S5 (mBegin M j kd cl) nj := fun n hn z => by
  by_cases e : n = j
  · subst e
    exact absurd (by simp (disch := omega) only [mBegin, up_ne, up_at]) z
  · have e3 : (mBegin M j kd cl).1 3 (6 * n + 3) = M.1 3 (6 * n + 3) := by simp (disch := omega) only [mBegin, up_ne]
    have e4 : (mBegin M j kd cl).1 3 (6 * n + 4) = M.1 3 (6 * n + 4) := by simp (disch := omega) only [mBegin, up_ne]
    rw [e3] at z; rw [e4]; exact h n hn z
theorem s5_next (h1 : M.1 3 (6 * j + 3) = 1) (h : S5 M nj) : S5 (mNext M j) nj := fun n hn z => by
  have e3 : (mNext M j).1 3 (6 * n + 3) = M.1 3 (6 * n + 3) := by simp (disch := omega) only [mNext, up_ne]
  rw [e3] at z
  by_cases e : n = j
  · subst e; exact absurd h1 z
  · have e4 : (mNext M j).1 3 (6 * n + 4) = M.1 3 (6 * n + 4) := by simp (disch := omega) only [mNext, up_ne]
    rw [e4]; exact h n hn z
theorem s5_end (h : S5 M nj) : S5 (mEnd M j) nj := fun n hn z => by
  by_cases e : n = j
  · subst e
    simp (disch := omega) only [mEnd, mEnd1, mNext, up_ne, up_at]
  · have e3 : (mEnd M j).1 3 (6 * n + 3) = M.1 3 (6 * n + 3) := by simp (disch := omega) only [mEnd, mEnd1, mNext, up_ne]
    have e4 : (mEnd M j).1 3 (6 * n + 4) = M.1 3 (6 * n + 4) := by simp (disch := omega) only [mEnd, mEnd1, mNext, up_ne]
    rw [e3] at z; rw [e4]; exact h n hn z
theorem s5_bg (h : S5 M nj) : S5 (mBg M ni nd nj) nj := by
  unfold mBg
  split
  · exact s5_begin _ _ h
  · exact h
theorem s5_run (hI : Inv M ni nd nj T) (h : S5 M nj) : S5 (mRun M).1 nj := by
  unfold mRun
  rcases hI.2.2.2.2.2.2 with w7 | ⟨j, it, k, q, hB⟩
  · rw [if_pos w7.1]
    exact h.row (up_row (by omega))
  · obtain ⟨⟨hi, hd, hj10⟩, -⟩ := id hI.1
    obtain ⟨a, -, -, b⟩ := own_o hB.1 hj10 hi hd
    rw [if_neg b, a]
    obtain ⟨hO, hB1, hB2, hB3⟩ := id hB
    obtain ⟨⟨⟨x1, x2, x3, x4, x5⟩, x6, x7, x8, x9, x10, x11⟩, -⟩ := stp hI.1 hI.2.1 hO hB1
    unfold mDo
    rw [ms_o hO hj10 hi hd]
    have hS : S5 (mStep M j it k).1 nj := h.row x3
    split
    · exact hS
    · unfold mAfter
      by_cases cc : (mStep M j it k).1.1 3 (6 * j + 4) + 1 = (if (mStep M j it k).1.1 3 (6 * j) = 2 then 4 else 8)
      · rw [if_pos cc]; exact s5_end hS
      · rw [if_neg cc]; exact s5_next (by rw [x3]; exact hO.1.2.2.1) hS
theorem s5_one (hI : Inv M ni nd nj T) (hT : T < 1500) (h : S5 M nj) : S5 (mOne M ni nd nj).1 nj := (s5_run (inv_bg hI (by omega)) (s5_bg h)).row (up_row (by omega))
theorem xn_ticks (hI : Inv M ni nd nj T) (h : Xn M ni nd nj) : ∀ n, T + n ≤ 1500 → Xn (mTicks ni nd nj n M).1 ni nd nj
  | 0, _ => h
  | n + 1, hn => ⟨xt_ticks hI h.1 (n + 1) hn, nz_one (inv_ticks hI n (by omega)) (show T + n < 1500 by omega) (xn_ticks hI h n (by omega)).2.1, s5_one (inv_ticks hI n (by omega)) (show T + n < 1500 by omega) (xn_ticks hI h n (by omega)).2.2⟩
end P38n
