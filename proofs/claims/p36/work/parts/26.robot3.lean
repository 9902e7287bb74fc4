/-! ===== A STEP OF THE JOB UNDER WAY ===== -/
def Isl (M : Mo) (nd : Nat) : Prop := ∀ k, k < nd → ∃ s, s < 24 ∧ M.1 2 (7 * k) = nI s
/-- what holds of the model at any time -/
def IS (M : Mo) (ni nd nj : Nat) : Prop := (ni ≤ 8 ∧ nd ≤ 4 ∧ nj ≤ 10) ∧ Ip M ∧ Ihm M ni ∧ Icl M ni ∧ Ifl M nd ∧ Iu M ni ∧ Ijb M ni nd nj ∧ Isl M nd
def Ph (M : Mo) (nd it k q : Nat) : Prop := if q ≤ 1 then PhA M nd else if q = 4 ∨ q = 5 then PhC M nd it k else PhB M nd it
/-- the job under way: its number, its item, its drive, its step -/
def Own (M : Mo) (ni nd nj j it k q : Nat) : Prop := (j < nj ∧ M.1 0 3 = nI j ∧ M.1 3 (6 * j + 3) = 1 ∧ it < ni ∧ M.1 3 (6 * j + 4) = nI q ∧ q < 8) ∧
  ((M.1 3 (6 * j) = 0 ∧ M.1 3 (6 * j + 1) = nI it ∧ k < nd ∧ M.1 3 (6 * j + 5) = nI k ∧ ∃ r, r < 1600 ∧ M.1 1 (6 * it + 3) = nI r) ∨ (M.1 3 (6 * j) = 1 ∧ M.1 4 (6 * j) = nI it ∧ k < nd ∧ M.1 3 (6 * j + 1) = nI k ∧ M.1 3 (6 * j + 5) = nI k) ∨ (M.1 3 (6 * j) = 2 ∧ M.1 3 (6 * j + 1) = nI it ∧ (∃ s, s < 24 ∧ M.1 3 (6 * j + 2) = nI s) ∧ q < 4)) ∧
  Ph M nd it k q ∧ (q ≤ 4 → ∃ c0, c0 ≤ 2 ∧ M.1 5 j = nI c0) ∧ (M.1 4 (6 * j + 1) = -5 ∨ M.1 4 (6 * j + 1) = 1 ∨ M.1 4 (6 * j + 1) = 2)
noncomputable def mStep (M : Mo) (j it k : Nat) : Mo × Int32 :=
  if M.1 3 (6 * j + 4) = 0 ∨ M.1 3 (6 * j + 4) = 6 then mGo M j (hm M it)
  else if M.1 3 (6 * j + 4) = 2 then mGo M j (if M.1 3 (6 * j) = 2 then (M.1 3 (6 * j + 2)).toNatClampNeg else (M.1 2 (7 * k)).toNatClampNeg)
  else if M.1 3 (6 * j + 4) = 1 then (mTake M it, 1)
  else if M.1 3 (6 * j + 4) = 5 then (mUnload M it k, 1)
  else if M.1 3 (6 * j + 4) = 7 then (mHome M it, 1)
  else if M.1 3 (6 * j + 4) = 3 then (if M.1 3 (6 * j) = 2 then mMove M it (M.1 3 (6 * j + 2)) else mLoad M it k, 1)
  else if M.1 3 (6 * j) = 0 then mRead M j it k else (mClean M it k, 1)
def mAfter (M : Mo) (j : Nat) : Mo × Int32 := if M.1 3 (6 * j + 4) + 1 = (if M.1 3 (6 * j) = 2 then 4 else 8) then (mEnd M j, if 0 < M.1 4 (6 * j + 1) then 0 else 1) else (mNext M j, 0)
theorem ms06 {M : Mo} {j it k : Nat} (h : M.1 3 (6 * j + 4) = nI 0 ∨ M.1 3 (6 * j + 4) = nI 6) : mStep M j it k = mGo M j (hm M it) := if_pos h
theorem ms2 {M : Mo} {j it k : Nat} (h : M.1 3 (6 * j + 4) = nI 2) : mStep M j it k = mGo M j (if M.1 3 (6 * j) = 2 then (M.1 3 (6 * j + 2)).toNatClampNeg else (M.1 2 (7 * k)).toNatClampNeg) := by unfold mStep; rw [h, if_neg (by decide), if_pos (by decide)]
theorem ms1 {M : Mo} {j it k : Nat} (h : M.1 3 (6 * j + 4) = nI 1) : mStep M j it k = (mTake M it, 1) := by unfold mStep; rw [h, if_neg (by decide), if_neg (by decide), if_pos (by decide)]
theorem ms5 {M : Mo} {j it k : Nat} (h : M.1 3 (6 * j + 4) = nI 5) : mStep M j it k = (mUnload M it k, 1) := by unfold mStep; rw [h, if_neg (by decide), if_neg (by decide), if_neg (by decide), if_pos (by decide)]
theorem ms7 {M : Mo} {j it k : Nat} (h : M.1 3 (6 * j + 4) = nI 7) : mStep M j it k = (mHome M it, 1) := by unfold mStep; rw [h, if_neg (by decide), if_neg (by decide), if_neg (by decide), if_neg (by decide), if_pos (by decide)]
theorem ms3 {M : Mo} {j it k : Nat} (h : M.1 3 (6 * j + 4) = nI 3) : mStep M j it k = (if M.1 3 (6 * j) = 2 then mMove M it (M.1 3 (6 * j + 2)) else mLoad M it k, 1) := by unfold mStep; rw [h, if_neg (by decide), if_neg (by decide), if_neg (by decide), if_neg (by decide), if_neg (by decide), if_pos (by decide)]
theorem ms4 {M : Mo} {j it k : Nat} (h : M.1 3 (6 * j + 4) = nI 4) : mStep M j it k = (if M.1 3 (6 * j) = 0 then mRead M j it k else (mClean M it k, 1)) := by unfold mStep; rw [h, if_neg (by decide), if_neg (by decide), if_neg (by decide), if_neg (by decide), if_neg (by decide), if_neg (by decide)]
theorem Ph.hd {M : Mo} {ni nd it k q : Nat} (h : Ph M nd it k q) (ht : it < ni) : Ihd M ni := by
  unfold Ph at h
  split at h
  · exact Or.inl h.1
  · split at h
    · exact Or.inl h.1
    · exact Or.inr ⟨it, ht, h.1⟩
theorem nb {r : Int32} (h : r = 0 ∨ r = 1) : narrow .boolean (.int r) = .int r := by rcases h with rfl | rfl <;> rfl
theorem mGo_b (M : Mo) (j s : Nat) : (mGo M j s).2 = 0 ∨ (mGo M j s).2 = 1 := by
  unfold mGo
  split
  · exact Or.inr rfl
  · split
    · exact Or.inl rfl
    · exact Or.inr rfl
theorem mRead_b (M : Mo) (j it k : Nat) : (mRead M j it k).2 = 0 ∨ (mRead M j it k).2 = 1 := by
  unfold mRead
  split
  · exact Or.inr rfl
  · split
    · show (if M.1 5 j + 1 = 3 then (1 : Int32) else 0) = 0 ∨ (if M.1 5 j + 1 = 3 then (1 : Int32) else 0) = 1
      split
      · exact Or.inr rfl
      · exact Or.inl rfl
    · exact Or.inr rfl
theorem mStep_b (M : Mo) (j it k : Nat) : (mStep M j it k).2 = 0 ∨ (mStep M j it k).2 = 1 := by
  unfold mStep
  repeat' split
  all_goals first | exact mGo_b _ _ _ | exact mRead_b _ _ _ _ | exact Or.inr rfl
theorem rb_begina {h : Hp} {M : Mo} {ni nd nj : Nat} (R : Rb h M ni nd nj) (hi : ni ≤ 8) (hd : nd ≤ 4) (hj : nj ≤ 10) (j : Nat) (hjj : j < nj) (h0 : M.1 3 (6 * j + 3) = 0) : Rb (wI (wI h (29 + j) 3 (nI 1)) (29 + j) 4 (M.1 0 0)) (up (up (up M 3 (6 * j + 4) 0) 3 (6 * j + 3) 1) 4 (6 * j + 4) (M.1 0 0)) ni nd nj := by
  obtain ⟨⟨s5, s6, s7, s8, s9, s10, s11, s3, s4⟩, ⟨n1, n2, n3, n4, n5⟩, hI, hD, hJ, hL, hH, hS⟩ := R
  refine ⟨⟨(by (try simp (disch := omega) only [wI_at, wI_ne, wF_at, wF_ne, wI_f, wF_i, up_at, up_ne, uf_at, uf_ne, up_f, uf_i]) <;> first | assumption | rfl | exact a7.trans hw.1 | exact a8.trans hw.2), (by (try simp (disch := omega) only [wI_at, wI_ne, wF_at, wF_ne, wI_f, wF_i, up_at, up_ne, uf_at, uf_ne, up_f, uf_i]) <;> first | assumption | rfl | exact a7.trans hw.1 | exact a8.trans hw.2), (by (try simp (disch := omega) only [wI_at, wI_ne, wF_at, wF_ne, wI_f, wF_i, up_at, up_ne, uf_at, uf_ne, up_f, uf_i]) <;> first | assumption | rfl | exact a7.trans hw.1 | exact a8.trans hw.2), (by (try simp (disch := omega) only [wI_at, wI_ne, wF_at, wF_ne, wI_f, wF_i, up_at, up_ne, uf_at, uf_ne, up_f, uf_i]) <;> first | assumption | rfl | exact a7.trans hw.1 | exact a8.trans hw.2), (by (try simp (disch := omega) only [wI_at, wI_ne, wF_at, wF_ne, wI_f, wF_i, up_at, up_ne, uf_at, uf_ne, up_f, uf_i]) <;> first | assumption | rfl | exact a7.trans hw.1 | exact a8.trans hw.2), (by (try simp (disch := omega) only [wI_at, wI_ne, wF_at, wF_ne, wI_f, wF_i, up_at, up_ne, uf_at, uf_ne, up_f, uf_i]) <;> first | assumption | rfl | exact a7.trans hw.1 | exact a8.trans hw.2), (by (try simp (disch := omega) only [wI_at, wI_ne, wF_at, wF_ne, wI_f, wF_i, up_at, up_ne, uf_at, uf_ne, up_f, uf_i]) <;> first | assumption | rfl | exact a7.trans hw.1 | exact a8.trans hw.2), (by (try simp (disch := omega) only [wI_at, wI_ne, wF_at, wF_ne, wI_f, wF_i, up_at, up_ne, uf_at, uf_ne, up_f, uf_i]) <;> first | assumption | rfl | exact a7.trans hw.1 | exact a8.trans hw.2), (by (try simp (disch := omega) only [wI_at, wI_ne, wF_at, wF_ne, wI_f, wF_i, up_at, up_ne, uf_at, uf_ne, up_f, uf_i]) <;> first | assumption | rfl | exact a7.trans hw.1 | exact a8.trans hw.2)⟩, ⟨(by (try simp (disch := omega) only [wI_at, wI_ne, wF_at, wF_ne, wI_f, wF_i, up_at, up_ne, uf_at, uf_ne, up_f, uf_i]) <;> first | assumption | rfl | exact a7.trans hw.1 | exact a8.trans hw.2), (by (try simp (disch := omega) only [wI_at, wI_ne, wF_at, wF_ne, wI_f, wF_i, up_at, up_ne, uf_at, uf_ne, up_f, uf_i]) <;> first | assumption | rfl | exact a7.trans hw.1 | exact a8.trans hw.2), (by (try simp (disch := omega) only [wI_at, wI_ne, wF_at, wF_ne, wI_f, wF_i, up_at, up_ne, uf_at, uf_ne, up_f, uf_i]) <;> first | assumption | rfl | exact a7.trans hw.1 | exact a8.trans hw.2), (by (try simp (disch := omega) only [wI_at, wI_ne, wF_at, wF_ne, wI_f, wF_i, up_at, up_ne, uf_at, uf_ne, up_f, uf_i]) <;> first | assumption | rfl | exact a7.trans hw.1 | exact a8.trans hw.2), (by (try simp (disch := omega) only [wI_at, wI_ne, wF_at, wF_ne, wI_f, wF_i, up_at, up_ne, uf_at, uf_ne, up_f, uf_i]) <;> first | assumption | rfl | exact a7.trans hw.1 | exact a8.trans hw.2)⟩, fun i hi' => ?_, fun k' hk' => ?_, fun j' hj' => ?_, ?_, ?_, hS⟩
  · obtain ⟨a0, a1, a2, a3, a4, ⟨f, f1, f2, f3, f4⟩, a7⟩ := hI i hi'
    exact ⟨(by (try simp (disch := omega) only [wI_at, wI_ne, wF_at, wF_ne, wI_f, wF_i, up_at, up_ne, uf_at, uf_ne, up_f, uf_i]) <;> first | assumption | rfl | exact a7.trans hw.1 | exact a8.trans hw.2), (by (try simp (disch := omega) only [wI_at, wI_ne, wF_at, wF_ne, wI_f, wF_i, up_at, up_ne, uf_at, uf_ne, up_f, uf_i]) <;> first | assumption | rfl | exact a7.trans hw.1 | exact a8.trans hw.2), (by (try simp (disch := omega) only [wI_at, wI_ne, wF_at, wF_ne, wI_f, wF_i, up_at, up_ne, uf_at, uf_ne, up_f, uf_i]) <;> first | assumption | rfl | exact a7.trans hw.1 | exact a8.trans hw.2), (by rw [inD_congr (M := M) i nd (fun q hq => (by (try simp (disch := omega) only [wI_at, wI_ne, wF_at, wF_ne, wI_f, wF_i, up_at, up_ne, uf_at, uf_ne, up_f, uf_i]) <;> first | assumption | rfl | exact a7.trans hw.1 | exact a8.trans hw.2))]; (try simp (disch := omega) only [wI_at, wI_ne, wF_at, wF_ne, wI_f, wF_i, up_at, up_ne, uf_at, uf_ne, up_f, uf_i]) <;> first | assumption | rfl), (by (try simp (disch := omega) only [wI_at, wI_ne, wF_at, wF_ne, wI_f, wF_i, up_at, up_ne, uf_at, uf_ne, up_f, uf_i]) <;> first | assumption | rfl | exact a7.trans hw.1 | exact a8.trans hw.2), ⟨f, f1, (by (try simp (disch := omega) only [wI_at, wI_ne, wF_at, wF_ne, wI_f, wF_i, up_at, up_ne, uf_at, uf_ne, up_f, uf_i]) <;> first | assumption | rfl | exact a7.trans hw.1 | exact a8.trans hw.2), (by (try simp (disch := omega) only [wI_at, wI_ne, wF_at, wF_ne, wI_f, wF_i, up_at, up_ne, uf_at, uf_ne, up_f, uf_i]) <;> first | assumption | rfl | exact a7.trans hw.1 | exact a8.trans hw.2), (by (try simp (disch := omega) only [wI_at, wI_ne, wF_at, wF_ne, wI_f, wF_i, up_at, up_ne, uf_at, uf_ne, up_f, uf_i]) <;> first | assumption | rfl | exact a7.trans hw.1 | exact a8.trans hw.2)⟩, (by (try simp (disch := omega) only [wI_at, wI_ne, wF_at, wF_ne, wI_f, wF_i, up_at, up_ne, uf_at, uf_ne, up_f, uf_i]) <;> first | assumption | rfl | exact a7.trans hw.1 | exact a8.trans hw.2)⟩
  · obtain ⟨a0, a1, a2, a3, a4, a5, a6⟩ := hD k' hk'
    exact ⟨(by (try simp (disch := omega) only [wI_at, wI_ne, wF_at, wF_ne, wI_f, wF_i, up_at, up_ne, uf_at, uf_ne, up_f, uf_i]) <;> first | assumption | rfl | exact a7.trans hw.1 | exact a8.trans hw.2), (by (try simp (disch := omega) only [wI_at, wI_ne, wF_at, wF_ne, wI_f, wF_i, up_at, up_ne, uf_at, uf_ne, up_f, uf_i]) <;> first | assumption | rfl | exact a7.trans hw.1 | exact a8.trans hw.2), (by (try simp (disch := omega) only [wI_at, wI_ne, wF_at, wF_ne, wI_f, wF_i, up_at, up_ne, uf_at, uf_ne, up_f, uf_i]) <;> first | assumption | rfl | exact a7.trans hw.1 | exact a8.trans hw.2), (by (try simp (disch := omega) only [wI_at, wI_ne, wF_at, wF_ne, wI_f, wF_i, up_at, up_ne, uf_at, uf_ne, up_f, uf_i]) <;> first | assumption | rfl | exact a7.trans hw.1 | exact a8.trans hw.2), (by (try simp (disch := omega) only [wI_at, wI_ne, wF_at, wF_ne, wI_f, wF_i, up_at, up_ne, uf_at, uf_ne, up_f, uf_i]) <;> first | assumption | rfl | exact a7.trans hw.1 | exact a8.trans hw.2), (by (try simp (disch := omega) only [wI_at, wI_ne, wF_at, wF_ne, wI_f, wF_i, up_at, up_ne, uf_at, uf_ne, up_f, uf_i]) <;> first | assumption | rfl | exact a7.trans hw.1 | exact a8.trans hw.2), (by (try simp (disch := omega) only [wI_at, wI_ne, wF_at, wF_ne, wI_f, wF_i, up_at, up_ne, uf_at, uf_ne, up_f, uf_i]) <;> first | assumption | rfl | exact a7.trans hw.1 | exact a8.trans hw.2)⟩
  · obtain ⟨⟨a0, a1, a2, a3⟩, ⟨a4, a5, a6, b6, a7⟩, a8, a9, a10, a11, a12⟩ := hJ j' hj'
    rcases Decidable.em (j' = j) with rfl | e <;> exact ⟨⟨(by (try simp (disch := omega) only [wI_at, wI_ne, wF_at, wF_ne, wI_f, wF_i, up_at, up_ne, uf_at, uf_ne, up_f, uf_i]) <;> first | assumption | rfl | exact a7.trans hw.1 | exact a8.trans hw.2), (by (try simp (disch := omega) only [wI_at, wI_ne, wF_at, wF_ne, wI_f, wF_i, up_at, up_ne, uf_at, uf_ne, up_f, uf_i]) <;> first | assumption | rfl | exact a7.trans hw.1 | exact a8.trans hw.2), (by (try simp (disch := omega) only [wI_at, wI_ne, wF_at, wF_ne, wI_f, wF_i, up_at, up_ne, uf_at, uf_ne, up_f, uf_i]) <;> first | assumption | rfl | exact a7.trans hw.1 | exact a8.trans hw.2), (by (try simp (disch := omega) only [wI_at, wI_ne, wF_at, wF_ne, wI_f, wF_i, up_at, up_ne, uf_at, uf_ne, up_f, uf_i]) <;> first | assumption | rfl | exact a7.trans hw.1 | exact a8.trans hw.2)⟩, ⟨(by (try simp (disch := omega) only [wI_at, wI_ne, wF_at, wF_ne, wI_f, wF_i, up_at, up_ne, uf_at, uf_ne, up_f, uf_i]) <;> first | assumption | rfl | exact a7.trans hw.1 | exact a8.trans hw.2), (by (try simp (disch := omega) only [wI_at, wI_ne, wF_at, wF_ne, wI_f, wF_i, up_at, up_ne, uf_at, uf_ne, up_f, uf_i]) <;> first | assumption | rfl | exact a7.trans hw.1 | exact a8.trans hw.2), (by intro z; (try simp (disch := omega) only [wI_at, wI_ne, wF_at, wF_ne, wI_f, wF_i, up_at, up_ne, uf_at, uf_ne, up_f, uf_i] at z) <;> (try simp (disch := omega) only [wI_at, wI_ne, wF_at, wF_ne, wI_f, wF_i, up_at, up_ne, uf_at, uf_ne, up_f, uf_i]) <;> first | exact a6 z | exact absurd z (by decide) | assumption | rfl | exact absurd (z.symm.trans h1) (by decide) | exact a12 (Or.inl h0) | exact a6 h0 | (rcases z with z | z <;> first | exact absurd z (by decide) | exact a6 (Or.inl z) | exact a6 (Or.inr z) | assumption | (simp_all; done))), (by intro z; (try simp (disch := omega) only [wI_at, wI_ne, wF_at, wF_ne, wI_f, wF_i, up_at, up_ne, uf_at, uf_ne, up_f, uf_i] at z) <;> (try simp (disch := omega) only [wI_at, wI_ne, wF_at, wF_ne, wI_f, wF_i, up_at, up_ne, uf_at, uf_ne, up_f, uf_i]) <;> first | exact b6 z | exact absurd z (by decide) | assumption | rfl | exact absurd (z.symm.trans h1) (by decide) | exact a12 (Or.inl h0) | exact a6 h0 | (rcases z with z | z <;> first | exact absurd z (by decide) | exact b6 (Or.inl z) | exact b6 (Or.inr z) | assumption | (simp_all; done))), (by (try simp (disch := omega) only [wI_at, wI_ne, wF_at, wF_ne, wI_f, wF_i, up_at, up_ne, uf_at, uf_ne, up_f, uf_i]) <;> first | assumption | rfl | exact a7.trans hw.1 | exact a8.trans hw.2)⟩, (by (try simp (disch := omega) only [wI_at, wI_ne, wF_at, wF_ne, wI_f, wF_i, up_at, up_ne, uf_at, uf_ne, up_f, uf_i]) <;> first | assumption | rfl | exact a7.trans hw.1 | exact a8.trans hw.2), (by (try simp (disch := omega) only [wI_at, wI_ne, wF_at, wF_ne, wI_f, wF_i, up_at, up_ne, uf_at, uf_ne, up_f, uf_i]) <;> first | assumption | rfl | exact a7.trans hw.1 | exact a8.trans hw.2), (by (try simp (disch := omega) only [wI_at, wI_ne, wF_at, wF_ne, wI_f, wF_i, up_at, up_ne, uf_at, uf_ne, up_f, uf_i]) <;> first | assumption | rfl | exact a7.trans hw.1 | exact a8.trans hw.2), (by (try simp (disch := omega) only [wI_at, wI_ne, wF_at, wF_ne, wI_f, wF_i, up_at, up_ne, uf_at, uf_ne, up_f, uf_i]) <;> first | assumption | rfl | exact a7.trans hw.1 | exact a8.trans hw.2), (by intro z; (try simp (disch := omega) only [wI_at, wI_ne, wF_at, wF_ne, wI_f, wF_i, up_at, up_ne, uf_at, uf_ne, up_f, uf_i] at z) <;> (try simp (disch := omega) only [wI_at, wI_ne, wF_at, wF_ne, wI_f, wF_i, up_at, up_ne, uf_at, uf_ne, up_f, uf_i]) <;> first | exact a12 z | exact absurd z (by decide) | assumption | rfl | exact absurd (z.symm.trans h1) (by decide) | exact a12 (Or.inl h0) | exact a6 h0 | (rcases z with z | z <;> first | exact absurd z (by decide) | exact a12 (Or.inl z) | exact a12 (Or.inr z) | assumption | (simp_all; done)))⟩
  · obtain ⟨w, w1, w2⟩ := hL
    exact ⟨w, w1, (by (try simp (disch := omega) only [wI_at, wI_ne, wF_at, wF_ne, wI_f, wF_i, up_at, up_ne, uf_at, uf_ne, up_f, uf_i]) <;> first | assumption | rfl | exact a7.trans hw.1 | exact a8.trans hw.2)⟩
  · obtain ⟨w, w1, w2⟩ := hH
    exact ⟨w, w1, (by (try simp (disch := omega) only [wI_at, wI_ne, wF_at, wF_ne, wI_f, wF_i, up_at, up_ne, uf_at, uf_ne, up_f, uf_i]) <;> first | assumption | rfl | exact a7.trans hw.1 | exact a8.trans hw.2)⟩
theorem rb_beginb {h : Hp} {M : Mo} {ni nd nj : Nat} (R : Rb h M ni nd nj) (hi : ni ≤ 8) (hd : nd ≤ 4) (hj : nj ≤ 10) (j : Nat) (hjj : j < nj) (v : Int32) : Rb (wI h (29 + j) 7 v) (up M 3 (6 * j + 5) v) ni nd nj := by
  obtain ⟨⟨s5, s6, s7, s8, s9, s10, s11, s3, s4⟩, ⟨n1, n2, n3, n4, n5⟩, hI, hD, hJ, hL, hH, hS⟩ := R
  refine ⟨⟨(by (try simp (disch := omega) only [wI_at, wI_ne, wF_at, wF_ne, wI_f, wF_i, up_at, up_ne, uf_at, uf_ne, up_f, uf_i]) <;> first | assumption | rfl | exact a7.trans hw.1 | exact a8.trans hw.2), (by (try simp (disch := omega) only [wI_at, wI_ne, wF_at, wF_ne, wI_f, wF_i, up_at, up_ne, uf_at, uf_ne, up_f, uf_i]) <;> first | assumption | rfl | exact a7.trans hw.1 | exact a8.trans hw.2), (by (try simp (disch := omega) only [wI_at, wI_ne, wF_at, wF_ne, wI_f, wF_i, up_at, up_ne, uf_at, uf_ne, up_f, uf_i]) <;> first | assumption | rfl | exact a7.trans hw.1 | exact a8.trans hw.2), (by (try simp (disch := omega) only [wI_at, wI_ne, wF_at, wF_ne, wI_f, wF_i, up_at, up_ne, uf_at, uf_ne, up_f, uf_i]) <;> first | assumption | rfl | exact a7.trans hw.1 | exact a8.trans hw.2), (by (try simp (disch := omega) only [wI_at, wI_ne, wF_at, wF_ne, wI_f, wF_i, up_at, up_ne, uf_at, uf_ne, up_f, uf_i]) <;> first | assumption | rfl | exact a7.trans hw.1 | exact a8.trans hw.2), (by (try simp (disch := omega) only [wI_at, wI_ne, wF_at, wF_ne, wI_f, wF_i, up_at, up_ne, uf_at, uf_ne, up_f, uf_i]) <;> first | assumption | rfl | exact a7.trans hw.1 | exact a8.trans hw.2), (by (try simp (disch := omega) only [wI_at, wI_ne, wF_at, wF_ne, wI_f, wF_i, up_at, up_ne, uf_at, uf_ne, up_f, uf_i]) <;> first | assumption | rfl | exact a7.trans hw.1 | exact a8.trans hw.2), (by (try simp (disch := omega) only [wI_at, wI_ne, wF_at, wF_ne, wI_f, wF_i, up_at, up_ne, uf_at, uf_ne, up_f, uf_i]) <;> first | assumption | rfl | exact a7.trans hw.1 | exact a8.trans hw.2), (by (try simp (disch := omega) only [wI_at, wI_ne, wF_at, wF_ne, wI_f, wF_i, up_at, up_ne, uf_at, uf_ne, up_f, uf_i]) <;> first | assumption | rfl | exact a7.trans hw.1 | exact a8.trans hw.2)⟩, ⟨(by (try simp (disch := omega) only [wI_at, wI_ne, wF_at, wF_ne, wI_f, wF_i, up_at, up_ne, uf_at, uf_ne, up_f, uf_i]) <;> first | assumption | rfl | exact a7.trans hw.1 | exact a8.trans hw.2), (by (try simp (disch := omega) only [wI_at, wI_ne, wF_at, wF_ne, wI_f, wF_i, up_at, up_ne, uf_at, uf_ne, up_f, uf_i]) <;> first | assumption | rfl | exact a7.trans hw.1 | exact a8.trans hw.2), (by (try simp (disch := omega) only [wI_at, wI_ne, wF_at, wF_ne, wI_f, wF_i, up_at, up_ne, uf_at, uf_ne, up_f, uf_i]) <;> first | assumption | rfl | exact a7.trans hw.1 | exact a8.trans hw.2), (by (try simp (disch := omega) only [wI_at, wI_ne, wF_at, wF_ne, wI_f, wF_i, up_at, up_ne, uf_at, uf_ne, up_f, uf_i]) <;> first | assumption | rfl | exact a7.trans hw.1 | exact a8.trans hw.2), (by (try simp (disch := omega) only [wI_at, wI_ne, wF_at, wF_ne, wI_f, wF_i, up_at, up_ne, uf_at, uf_ne, up_f, uf_i]) <;> first | assumption | rfl | exact a7.trans hw.1 | exact a8.trans hw.2)⟩, fun i hi' => ?_, fun k' hk' => ?_, fun j' hj' => ?_, ?_, ?_, hS⟩
  · obtain ⟨a0, a1, a2, a3, a4, ⟨f, f1, f2, f3, f4⟩, a7⟩ := hI i hi'
    exact ⟨(by (try simp (disch := omega) only [wI_at, wI_ne, wF_at, wF_ne, wI_f, wF_i, up_at, up_ne, uf_at, uf_ne, up_f, uf_i]) <;> first | assumption | rfl | exact a7.trans hw.1 | exact a8.trans hw.2), (by (try simp (disch := omega) only [wI_at, wI_ne, wF_at, wF_ne, wI_f, wF_i, up_at, up_ne, uf_at, uf_ne, up_f, uf_i]) <;> first | assumption | rfl | exact a7.trans hw.1 | exact a8.trans hw.2), (by (try simp (disch := omega) only [wI_at, wI_ne, wF_at, wF_ne, wI_f, wF_i, up_at, up_ne, uf_at, uf_ne, up_f, uf_i]) <;> first | assumption | rfl | exact a7.trans hw.1 | exact a8.trans hw.2), (by rw [inD_congr (M := M) i nd (fun q hq => (by (try simp (disch := omega) only [wI_at, wI_ne, wF_at, wF_ne, wI_f, wF_i, up_at, up_ne, uf_at, uf_ne, up_f, uf_i]) <;> first | assumption | rfl | exact a7.trans hw.1 | exact a8.trans hw.2))]; (try simp (disch := omega) only [wI_at, wI_ne, wF_at, wF_ne, wI_f, wF_i, up_at, up_ne, uf_at, uf_ne, up_f, uf_i]) <;> first | assumption | rfl), (by (try simp (disch := omega) only [wI_at, wI_ne, wF_at, wF_ne, wI_f, wF_i, up_at, up_ne, uf_at, uf_ne, up_f, uf_i]) <;> first | assumption | rfl | exact a7.trans hw.1 | exact a8.trans hw.2), ⟨f, f1, (by (try simp (disch := omega) only [wI_at, wI_ne, wF_at, wF_ne, wI_f, wF_i, up_at, up_ne, uf_at, uf_ne, up_f, uf_i]) <;> first | assumption | rfl | exact a7.trans hw.1 | exact a8.trans hw.2), (by (try simp (disch := omega) only [wI_at, wI_ne, wF_at, wF_ne, wI_f, wF_i, up_at, up_ne, uf_at, uf_ne, up_f, uf_i]) <;> first | assumption | rfl | exact a7.trans hw.1 | exact a8.trans hw.2), (by (try simp (disch := omega) only [wI_at, wI_ne, wF_at, wF_ne, wI_f, wF_i, up_at, up_ne, uf_at, uf_ne, up_f, uf_i]) <;> first | assumption | rfl | exact a7.trans hw.1 | exact a8.trans hw.2)⟩, (by (try simp (disch := omega) only [wI_at, wI_ne, wF_at, wF_ne, wI_f, wF_i, up_at, up_ne, uf_at, uf_ne, up_f, uf_i]) <;> first | assumption | rfl | exact a7.trans hw.1 | exact a8.trans hw.2)⟩
  · obtain ⟨a0, a1, a2, a3, a4, a5, a6⟩ := hD k' hk'
    exact ⟨(by (try simp (disch := omega) only [wI_at, wI_ne, wF_at, wF_ne, wI_f, wF_i, up_at, up_ne, uf_at, uf_ne, up_f, uf_i]) <;> first | assumption | rfl | exact a7.trans hw.1 | exact a8.trans hw.2), (by (try simp (disch := omega) only [wI_at, wI_ne, wF_at, wF_ne, wI_f, wF_i, up_at, up_ne, uf_at, uf_ne, up_f, uf_i]) <;> first | assumption | rfl | exact a7.trans hw.1 | exact a8.trans hw.2), (by (try simp (disch := omega) only [wI_at, wI_ne, wF_at, wF_ne, wI_f, wF_i, up_at, up_ne, uf_at, uf_ne, up_f, uf_i]) <;> first | assumption | rfl | exact a7.trans hw.1 | exact a8.trans hw.2), (by (try simp (disch := omega) only [wI_at, wI_ne, wF_at, wF_ne, wI_f, wF_i, up_at, up_ne, uf_at, uf_ne, up_f, uf_i]) <;> first | assumption | rfl | exact a7.trans hw.1 | exact a8.trans hw.2), (by (try simp (disch := omega) only [wI_at, wI_ne, wF_at, wF_ne, wI_f, wF_i, up_at, up_ne, uf_at, uf_ne, up_f, uf_i]) <;> first | assumption | rfl | exact a7.trans hw.1 | exact a8.trans hw.2), (by (try simp (disch := omega) only [wI_at, wI_ne, wF_at, wF_ne, wI_f, wF_i, up_at, up_ne, uf_at, uf_ne, up_f, uf_i]) <;> first | assumption | rfl | exact a7.trans hw.1 | exact a8.trans hw.2), (by (try simp (disch := omega) only [wI_at, wI_ne, wF_at, wF_ne, wI_f, wF_i, up_at, up_ne, uf_at, uf_ne, up_f, uf_i]) <;> first | assumption | rfl | exact a7.trans hw.1 | exact a8.trans hw.2)⟩
  · obtain ⟨⟨a0, a1, a2, a3⟩, ⟨a4, a5, a6, b6, a7⟩, a8, a9, a10, a11, a12⟩ := hJ j' hj'
    rcases Decidable.em (j' = j) with rfl | e <;> exact ⟨⟨(by (try simp (disch := omega) only [wI_at, wI_ne, wF_at, wF_ne, wI_f, wF_i, up_at, up_ne, uf_at, uf_ne, up_f, uf_i]) <;> first | assumption | rfl | exact a7.trans hw.1 | exact a8.trans hw.2), (by (try simp (disch := omega) only [wI_at, wI_ne, wF_at, wF_ne, wI_f, wF_i, up_at, up_ne, uf_at, uf_ne, up_f, uf_i]) <;> first | assumption | rfl | exact a7.trans hw.1 | exact a8.trans hw.2), (by (try simp (disch := omega) only [wI_at, wI_ne, wF_at, wF_ne, wI_f, wF_i, up_at, up_ne, uf_at, uf_ne, up_f, uf_i]) <;> first | assumption | rfl | exact a7.trans hw.1 | exact a8.trans hw.2), (by (try simp (disch := omega) only [wI_at, wI_ne, wF_at, wF_ne, wI_f, wF_i, up_at, up_ne, uf_at, uf_ne, up_f, uf_i]) <;> first | assumption | rfl | exact a7.trans hw.1 | exact a8.trans hw.2)⟩, ⟨(by (try simp (disch := omega) only [wI_at, wI_ne, wF_at, wF_ne, wI_f, wF_i, up_at, up_ne, uf_at, uf_ne, up_f, uf_i]) <;> first | assumption | rfl | exact a7.trans hw.1 | exact a8.trans hw.2), (by (try simp (disch := omega) only [wI_at, wI_ne, wF_at, wF_ne, wI_f, wF_i, up_at, up_ne, uf_at, uf_ne, up_f, uf_i]) <;> first | assumption | rfl | exact a7.trans hw.1 | exact a8.trans hw.2), (by intro z; (try simp (disch := omega) only [wI_at, wI_ne, wF_at, wF_ne, wI_f, wF_i, up_at, up_ne, uf_at, uf_ne, up_f, uf_i] at z) <;> (try simp (disch := omega) only [wI_at, wI_ne, wF_at, wF_ne, wI_f, wF_i, up_at, up_ne, uf_at, uf_ne, up_f, uf_i]) <;> first | exact a6 z | exact absurd z (by decide) | assumption | rfl | exact absurd (z.symm.trans h1) (by decide) | exact a12 (Or.inl h0) | exact a6 h0 | (rcases z with z | z <;> first | exact absurd z (by decide) | exact a6 (Or.inl z) | exact a6 (Or.inr z) | assumption | (simp_all; done))), (by intro z; (try simp (disch := omega) only [wI_at, wI_ne, wF_at, wF_ne, wI_f, wF_i, up_at, up_ne, uf_at, uf_ne, up_f, uf_i] at z) <;> (try simp (disch := omega) only [wI_at, wI_ne, wF_at, wF_ne, wI_f, wF_i, up_at, up_ne, uf_at, uf_ne, up_f, uf_i]) <;> first | exact b6 z | exact absurd z (by decide) | assumption | rfl | exact absurd (z.symm.trans h1) (by decide) | exact a12 (Or.inl h0) | exact a6 h0 | (rcases z with z | z <;> first | exact absurd z (by decide) | exact b6 (Or.inl z) | exact b6 (Or.inr z) | assumption | (simp_all; done))), (by (try simp (disch := omega) only [wI_at, wI_ne, wF_at, wF_ne, wI_f, wF_i, up_at, up_ne, uf_at, uf_ne, up_f, uf_i]) <;> first | assumption | rfl | exact a7.trans hw.1 | exact a8.trans hw.2)⟩, (by (try simp (disch := omega) only [wI_at, wI_ne, wF_at, wF_ne, wI_f, wF_i, up_at, up_ne, uf_at, uf_ne, up_f, uf_i]) <;> first | assumption | rfl | exact a7.trans hw.1 | exact a8.trans hw.2), (by (try simp (disch := omega) only [wI_at, wI_ne, wF_at, wF_ne, wI_f, wF_i, up_at, up_ne, uf_at, uf_ne, up_f, uf_i]) <;> first | assumption | rfl | exact a7.trans hw.1 | exact a8.trans hw.2), (by (try simp (disch := omega) only [wI_at, wI_ne, wF_at, wF_ne, wI_f, wF_i, up_at, up_ne, uf_at, uf_ne, up_f, uf_i]) <;> first | assumption | rfl | exact a7.trans hw.1 | exact a8.trans hw.2), (by (try simp (disch := omega) only [wI_at, wI_ne, wF_at, wF_ne, wI_f, wF_i, up_at, up_ne, uf_at, uf_ne, up_f, uf_i]) <;> first | assumption | rfl | exact a7.trans hw.1 | exact a8.trans hw.2), (by intro z; (try simp (disch := omega) only [wI_at, wI_ne, wF_at, wF_ne, wI_f, wF_i, up_at, up_ne, uf_at, uf_ne, up_f, uf_i] at z) <;> (try simp (disch := omega) only [wI_at, wI_ne, wF_at, wF_ne, wI_f, wF_i, up_at, up_ne, uf_at, uf_ne, up_f, uf_i]) <;> first | exact a12 z | exact absurd z (by decide) | assumption | rfl | exact absurd (z.symm.trans h1) (by decide) | exact a12 (Or.inl h0) | exact a6 h0 | (rcases z with z | z <;> first | exact absurd z (by decide) | exact a12 (Or.inl z) | exact a12 (Or.inr z) | assumption | (simp_all; done)))⟩
  · obtain ⟨w, w1, w2⟩ := hL
    exact ⟨w, w1, (by (try simp (disch := omega) only [wI_at, wI_ne, wF_at, wF_ne, wI_f, wF_i, up_at, up_ne, uf_at, uf_ne, up_f, uf_i]) <;> first | assumption | rfl | exact a7.trans hw.1 | exact a8.trans hw.2)⟩
  · obtain ⟨w, w1, w2⟩ := hH
    exact ⟨w, w1, (by (try simp (disch := omega) only [wI_at, wI_ne, wF_at, wF_ne, wI_f, wF_i, up_at, up_ne, uf_at, uf_ne, up_f, uf_i]) <;> first | assumption | rfl | exact a7.trans hw.1 | exact a8.trans hw.2)⟩
section P26
variable {G : Gl} {h : Hp}
theorem c_goOn (M : Mo) (ni nd nj j q : Nat) (hR : Rb h M ni nd nj) (hi : ni ≤ 8) (hd : nd ≤ 4) (hj : nj ≤ 10) (hj9 : j < nj) (h1 : M.1 3 (6 * j + 3) = 1) (h4 : M.1 3 (6 * j + 4) = nI q) (hq : q < 8 ∧ (M.1 3 (6 * j) = 2 → q < 4)) (hr : M.1 4 (6 * j + 1) = -5 ∨ M.1 4 (6 * j + 1) = 1 ∨ M.1 4 (6 * j + 1) = 2) : Ct G mX6_goOn [ga G 1, ga G (29 + j)] h 456 456 (rI (fun r h' => r = (mAfter M j).2 ∧ Rb h' (mAfter M j).1 ni nd nj ∧ KL h h')) := by
  obtain ⟨⟨s5, s6, s7, s8, -⟩, -, -, -, hJ, hL, -, hS⟩ := id hR
  obtain ⟨⟨f0, -⟩, ⟨-, -, -, f6, -⟩, -, f9, -⟩ := hJ j hj9
  have st : ∀ v : Int32, (if M.1 3 (6 * j) = 2 then nI 4 else nI 8) = v → (M.1 3 (6 * j + 4) + 1 = v ↔ ¬ nI (q + 1) < v) := by
    intro v hv
    rw [h4, nI_1]
    by_cases z : M.1 3 (6 * j) = 2
    · rw [if_pos z] at hv
      subst hv
      have := hq.2 z
      rw [nI_eq (by omega) (by omega), nI_ltI (by omega) (by omega)]
      omega
    · rw [if_neg z] at hv
      subst hv
      rw [nI_eq (by omega) (by omega), nI_ltI (by omega) (by omega)]
      omega
  have R1 := rb_next hR hi hd hj j hj9 h1
  have R2 := rb_end1 hR hi hd hj j hj9 3 (Or.inr rfl)
  have R3 := rb_end1 hR hi hd hj j hj9 2 (Or.inl rfl)
  rw [h4, nI_1] at R1 R2 R3
  have s2 := st _ rfl
  refine Ct.of rfl (by simp [Value.category, ga]) (Nat.le_of_ble_eq_true rfl) (Nat.le_refl _) ?_
  show Go _ _ _ _ _ _ _ [some (ga G 1), some (ga G (29 + j)), none] []
  refine g_ald1 dX6_goOn_0 ?_
  refine g_dup dX6_goOn_1 rfl ?_
  refine g_getI_a fb_3_6 mw_1_156 (by first | assumption | exact lay_item (by omega) | exact lay_drive (by omega) | exact lay_job (by omega) | rfl) (by omega) dX6_goOn_2 (fun xx2 ee2 => ?_)
  obtain rfl : xx2 = (nI q) := ee2.symm.trans ((f6 h1).trans h4)
  refine g_iconst (v := nI 1) dX6_goOn_5 (by decide +kernel) ?_
  first | refine g_iadd_n dX6_goOn_6 ?_ | refine g_iadd dX6_goOn_6 ?_
  show Go _ _ _ _ _ _ 7 _ _
  refine g_putI fb_3_6 mw_1_156 (by first | assumption | exact lay_item (by omega) | exact lay_drive (by omega) | exact lay_job (by omega) | rfl) (by omega) rfl rfl dX6_goOn_7 ?_
  refine g_ald1 dX6_goOn_10 ?_
  refine g_getI_a fb_3_6 mw_1_156 (by first | assumption | exact lay_item (by omega) | exact lay_drive (by omega) | exact lay_job (by omega) | rfl) (by omega) dX6_goOn_11 (fun xx11 ee11 => ?_)
  obtain rfl : xx11 = (nI (q + 1)) := ee11.symm.trans wI_at
  refine g_ald1 dX6_goOn_14 ?_
  refine g_callV0 (c_steps (29 + j) (lay_job (by omega)) (by omega)) mw_4_103 ok_X3_steps ⟨by decide, by decide⟩ (by first | assumption | exact lay_item (by omega) | exact lay_drive (by omega) | exact lay_job (by omega) | rfl) (by omega) rfl (by omega) (by omega) (Nat.le_of_ble_eq_true rfl) dX6_goOn_15 (dI_K ?_)
  rw [show (if (wI h (29 + j) 6 (nI (q + 1))).1 (29 + j) 0 = 2 then nI 4 else nI 8) = (if M.1 3 (6 * j) = 2 then nI 4 else nI 8) by rw [wI_ne (by omega), f0]]
  refine g_icmp_ge (tgt := 23) dX6_goOn_18 (by decide) (fun c_18 => ?_) (fun c_18 => ?_)
  · skip
    have hE : M.1 3 (6 * j + 4) + 1 = (if M.1 3 (6 * j) = 2 then 4 else 8) := s2.mpr (Int32.not_lt.mpr c_18)
    show Go _ _ _ _ _ _ 23 _ _
    refine g_ald1 dX6_goOn_23 ?_
    refine g_getI_a fb_3_9 mw_1_162 (by first | assumption | exact lay_item (by omega) | exact lay_drive (by omega) | exact lay_job (by omega) | rfl) (by omega) dX6_goOn_24 (fun xx24 ee24 => ?_)
    obtain rfl : xx24 = (M.1 4 (6 * j + 1)) := ee24.symm.trans (by (try simp (disch := omega) only [wI_at, wI_ne, wF_at, wF_ne, wI_f, wF_i]) <;> first | exact f9 | rfl)
    refine g_bipush (v := -5) dX6_goOn_27 (by decide +kernel) ?_
    refine g_icmp_eq (tgt := 36) dX6_goOn_29 (by decide) (fun c_29 => ?_) (fun c_29 => ?_)
    · skip
      have hv : ¬ (0 : Int32) < M.1 4 (6 * j + 1) := by rw [c_29]; decide
      refine g_iconst (v := nI 0) dX6_goOn_36 (by decide +kernel) ?_
      refine g_ist2 (by decide) dX6_goOn_37 ?_
      show Go _ _ _ _ _ _ 38 _ _
      refine g_ald1 dX6_goOn_38 ?_
      refine g_ild2 dX6_goOn_39 ?_
      refine g_if_eq_t (tgt := 47) dX6_goOn_40 (by decide) (by decide) ?_
      refine g_iconst (v := nI 2) dX6_goOn_47 (by decide +kernel) ?_
      refine g_putI fb_3_3 mw_1_147 (by first | assumption | exact lay_item (by omega) | exact lay_drive (by omega) | exact lay_job (by omega) | rfl) (by omega) rfl rfl dX6_goOn_48 ?_
      refine g_ald1 dX6_goOn_51 ?_
      show Go _ _ _ _ _ _ 52 _ _
      refine g_ald0 dX6_goOn_52 ?_
      refine g_getI_a fb_6_5 mw_2_9 (by first | assumption | exact lay_item (by omega) | exact lay_drive (by omega) | exact lay_job (by omega) | rfl) (by omega) dX6_goOn_53 (fun xx53 ee53 => ?_)
      obtain rfl : xx53 = (M.1 0 0) := ee53.symm.trans (by (try simp (disch := omega) only [wI_at, wI_ne, wF_at, wF_ne, wI_f, wF_i]) <;> first | exact s5 | rfl)
      refine g_putI fb_3_5 mw_1_154 (by first | assumption | exact lay_item (by omega) | exact lay_drive (by omega) | exact lay_job (by omega) | rfl) (by omega) rfl rfl dX6_goOn_56 ?_
      refine g_ald0 dX6_goOn_59 ?_
      refine g_getQ fb_6_2 mw_2_4 (by first | assumption | exact lay_item (by omega) | exact lay_drive (by omega) | exact lay_job (by omega) | rfl) (by omega) (sh_log hS) dX6_goOn_60 ?_
      refine g_ild2 dX6_goOn_63 ?_
      show Go _ _ _ _ _ _ 64 _ _
      refine g_if_eq_t (tgt := 72) dX6_goOn_64 (by decide) (by decide) ?_
      refine g_iconst (v := nI 5) dX6_goOn_72 (by decide +kernel) ?_
      refine g_ald0 dX6_goOn_73 ?_
      refine g_getI fb_6_8 mw_2_15 (by first | assumption | exact lay_item (by omega) | exact lay_drive (by omega) | exact lay_job (by omega) | rfl) (by omega) dX6_goOn_74 ?_
      refine g_bipush (v := -5) dX6_goOn_77 (by decide +kernel) ?_
      refine g_ald0 dX6_goOn_79 ?_
      show Go _ _ _ _ _ _ 80 _ _
      refine g_getI_a fb_6_5 mw_2_9 (by first | assumption | exact lay_item (by omega) | exact lay_drive (by omega) | exact lay_job (by omega) | rfl) (by omega) dX6_goOn_80 (fun xx80 ee80 => ?_)
      obtain rfl : xx80 = (M.1 0 0) := ee80.symm.trans (by (try simp (disch := omega) only [wI_at, wI_ne, wF_at, wF_ne, wI_f, wF_i]) <;> first | exact s5 | rfl)
      refine g_callV4 (c_logAdd _ _ _ _ (by exact hS) (by simp (disch := omega) only [wI_ne]; exact hL)) mw_4_30 ok_X4_add ⟨by decide, by decide⟩ (by first | assumption | exact lay_item (by omega) | exact lay_drive (by omega) | exact lay_job (by omega) | rfl) (by omega) rfl (by omega) (by omega) (Nat.le_of_ble_eq_true rfl) dX6_goOn_83 (rV_K ?_)
      intro h2 k2
      refine g_ald0 dX6_goOn_86 ?_
      refine g_bipush (v := -5) dX6_goOn_87 (by decide +kernel) ?_
      refine g_putI fb_6_8 mw_2_15 (by first | assumption | exact lay_item (by omega) | exact lay_drive (by omega) | exact lay_job (by omega) | rfl) (by omega) rfl rfl dX6_goOn_89 ?_
      refine g_ild2 dX6_goOn_92 ?_
      show Go _ _ _ _ _ _ 93 _ _
      refine g_if_eq_t (tgt := 100) dX6_goOn_93 (by decide) (by decide) ?_
      refine g_iconst (v := nI 1) dX6_goOn_100 (by decide +kernel) ?_
      exact g_iret rfl dX6_goOn_101 ⟨1, rfl, by unfold mAfter; rw [if_pos hE, if_neg hv], by unfold mAfter; rw [if_pos hE]; show Rb _ (mEnd M j) _ _ _; unfold mEnd; rw [if_neg hv]; exact rb_own (R3.lg hi hd hj k2) hi hd hj (-5), KL.wI (by omega) (KL.lg (KL.wI (by omega) (KL.wI (by omega) (KL.wI (by omega) (KL.rf _)))) k2)⟩
    · skip
      have hv : (0 : Int32) < M.1 4 (6 * j + 1) := (hr.resolve_left c_29).elim (fun z => by rw [z]; decide) (fun z => by rw [z]; decide)
      refine g_iconst (v := nI 1) dX6_goOn_32 (by decide +kernel) ?_
      refine g_goto (tgt := 37) dX6_goOn_33 (by decide) ?_
      refine g_ist2 (by decide) dX6_goOn_37 ?_
      show Go _ _ _ _ _ _ 38 _ _
      refine g_ald1 dX6_goOn_38 ?_
      refine g_ild2 dX6_goOn_39 ?_
      refine g_if_eq_f (tgt := 47) dX6_goOn_40 (by decide) (by decide) ?_
      refine g_iconst (v := nI 3) dX6_goOn_43 (by decide +kernel) ?_
      refine g_goto (tgt := 48) dX6_goOn_44 (by decide) ?_
      refine g_putI fb_3_3 mw_1_147 (by first | assumption | exact lay_item (by omega) | exact lay_drive (by omega) | exact lay_job (by omega) | rfl) (by omega) rfl rfl dX6_goOn_48 ?_
      show Go _ _ _ _ _ _ 51 _ _
      refine g_ald1 dX6_goOn_51 ?_
      refine g_ald0 dX6_goOn_52 ?_
      refine g_getI_a fb_6_5 mw_2_9 (by first | assumption | exact lay_item (by omega) | exact lay_drive (by omega) | exact lay_job (by omega) | rfl) (by omega) dX6_goOn_53 (fun xx53 ee53 => ?_)
      obtain rfl : xx53 = (M.1 0 0) := ee53.symm.trans (by (try simp (disch := omega) only [wI_at, wI_ne, wF_at, wF_ne, wI_f, wF_i]) <;> first | exact s5 | rfl)
      refine g_putI fb_3_5 mw_1_154 (by first | assumption | exact lay_item (by omega) | exact lay_drive (by omega) | exact lay_job (by omega) | rfl) (by omega) rfl rfl dX6_goOn_56 ?_
      refine g_ald0 dX6_goOn_59 ?_
      refine g_getQ fb_6_2 mw_2_4 (by first | assumption | exact lay_item (by omega) | exact lay_drive (by omega) | exact lay_job (by omega) | rfl) (by omega) (sh_log hS) dX6_goOn_60 ?_
      show Go _ _ _ _ _ _ 63 _ _
      refine g_ild2 dX6_goOn_63 ?_
      refine g_if_eq_f (tgt := 72) dX6_goOn_64 (by decide) (by decide) ?_
      refine g_bipush (v := nI 6) dX6_goOn_67 (by decide +kernel) ?_
      refine g_goto (tgt := 73) dX6_goOn_69 (by decide) ?_
      refine g_ald0 dX6_goOn_73 ?_
      refine g_getI fb_6_8 mw_2_15 (by first | assumption | exact lay_item (by omega) | exact lay_drive (by omega) | exact lay_job (by omega) | rfl) (by omega) dX6_goOn_74 ?_
      show Go _ _ _ _ _ _ 77 _ _
      refine g_bipush (v := -5) dX6_goOn_77 (by decide +kernel) ?_
      refine g_ald0 dX6_goOn_79 ?_
      refine g_getI_a fb_6_5 mw_2_9 (by first | assumption | exact lay_item (by omega) | exact lay_drive (by omega) | exact lay_job (by omega) | rfl) (by omega) dX6_goOn_80 (fun xx80 ee80 => ?_)
      obtain rfl : xx80 = (M.1 0 0) := ee80.symm.trans (by (try simp (disch := omega) only [wI_at, wI_ne, wF_at, wF_ne, wI_f, wF_i]) <;> first | exact s5 | rfl)
      refine g_callV4 (c_logAdd _ _ _ _ (by exact hS) (by simp (disch := omega) only [wI_ne]; exact hL)) mw_4_30 ok_X4_add ⟨by decide, by decide⟩ (by first | assumption | exact lay_item (by omega) | exact lay_drive (by omega) | exact lay_job (by omega) | rfl) (by omega) rfl (by omega) (by omega) (Nat.le_of_ble_eq_true rfl) dX6_goOn_83 (rV_K ?_)
      intro h2 k2
      refine g_ald0 dX6_goOn_86 ?_
      refine g_bipush (v := -5) dX6_goOn_87 (by decide +kernel) ?_
      show Go _ _ _ _ _ _ 89 _ _
      refine g_putI fb_6_8 mw_2_15 (by first | assumption | exact lay_item (by omega) | exact lay_drive (by omega) | exact lay_job (by omega) | rfl) (by omega) rfl rfl dX6_goOn_89 ?_
      refine g_ild2 dX6_goOn_92 ?_
      refine g_if_eq_f (tgt := 100) dX6_goOn_93 (by decide) (by decide) ?_
      refine g_iconst (v := nI 0) dX6_goOn_96 (by decide +kernel) ?_
      refine g_goto (tgt := 101) dX6_goOn_97 (by decide) ?_
      exact g_iret rfl dX6_goOn_101 ⟨0, rfl, by unfold mAfter; rw [if_pos hE, if_pos hv], by unfold mAfter; rw [if_pos hE]; show Rb _ (mEnd M j) _ _ _; unfold mEnd; rw [if_pos hv]; exact rb_own (R2.lg hi hd hj k2) hi hd hj (-5), KL.wI (by omega) (KL.lg (KL.wI (by omega) (KL.wI (by omega) (KL.wI (by omega) (KL.rf _)))) k2)⟩
  · skip
    have hE : ¬ (M.1 3 (6 * j + 4) + 1 = (if M.1 3 (6 * j) = 2 then 4 else 8)) := fun z => s2.mp z (Int32.not_le.mp c_18)
    show Go _ _ _ _ _ _ 21 _ _
    refine g_iconst (v := nI 0) dX6_goOn_21 (by decide +kernel) ?_
    exact g_iret rfl dX6_goOn_22 ⟨0, rfl, by unfold mAfter; rw [if_neg hE], by unfold mAfter; rw [if_neg hE]; exact R1, KL.wI (by omega) (KL.rf _)⟩
/-- a step of a moving -/
theorem c_doMoveStep (M : Mo) (ni nd nj j it k q : Nat) (hR : Rb h M ni nd nj) (hI : IS M ni nd nj) (hO : Own M ni nd nj j it k q) (hk2 : M.1 3 (6 * j) = 2) : Ct G mX6_doMoveStep [ga G 1, ga G (29 + j), ga G (4 + it), .int (nI it)] h 456 456 (rI (fun r h' => r = (mStep M j it k).2 ∧ Rb h' (mStep M j it k).1 ni nd nj ∧ KL h h')) := by
  obtain ⟨⟨hi, hd, hj⟩, hp, hH, hC, hf, hu, hJb, hsl⟩ := hI
  obtain ⟨⟨hj9, h3, h33, ht, h4, hq8⟩, hK, hPh, -, -⟩ := hO
  obtain ⟨-, -, hIt, -, hJ, -, -, hS⟩ := id hR
  obtain ⟨⟨f0, f1, f2, -⟩, ⟨-, -, -, f6, -⟩, -⟩ := hJ j hj9
  obtain ⟨-, i1, -⟩ := hIt it ht
  obtain ⟨m1, m2⟩ := hH it ht
  obtain ⟨⟨s, hs, hs2⟩, hq4⟩ : (∃ s, s < 24 ∧ M.1 3 (6 * j + 2) = nI s) ∧ q < 4 := by
    rcases hK with ⟨z, -⟩ | ⟨z, -⟩ | ⟨-, -, z1, z2⟩
    · rw [z] at hk2; exact absurd hk2 (by decide)
    · rw [z] at hk2; exact absurd hk2 (by decide)
    · exact ⟨z1, z2⟩
  have hhd := hPh.hd ht
  refine Ct.of rfl (by simp [Value.category, ga]) (Nat.le_of_ble_eq_true rfl) (Nat.le_refl _) ?_
  show Go _ _ _ _ _ _ _ [some (ga G 1), some (ga G (29 + j)), some (ga G (4 + it)), some (.int (nI it))] []
  obtain rfl | rfl | rfl | rfl : q = 0 ∨ q = 1 ∨ q = 2 ∨ q = 3 := by omega
  · rw [ms06 (Or.inl h4)]
    refine g_ald1 dX6_doMoveStep_0 ?_
    refine g_getI_a fb_3_6 mw_1_156 (by first | assumption | exact lay_item (by omega) | exact lay_drive (by omega) | exact lay_job (by omega) | rfl) (by omega) dX6_doMoveStep_1 (fun xx1 ee1 => ?_)
    obtain rfl : xx1 = (nI 0) := ee1.symm.trans ((f6 h33).trans h4)
    refine g_tabIn (tgt := 32) (off := 28) dX6_doMoveStep_4 (by decide +kernel) (by decide +kernel) (by decide +kernel) (by decide) ?_
    refine g_ald0 dX6_doMoveStep_32 ?_
    refine g_ald1 dX6_doMoveStep_33 ?_
    show Go _ _ _ _ _ _ 34 _ _
    refine g_ald2 dX6_doMoveStep_34 ?_
    refine g_getI_a fb_2_1 mw_1_46 (by first | assumption | exact lay_item (by omega) | exact lay_drive (by omega) | exact lay_job (by omega) | rfl) (by omega) dX6_doMoveStep_35 (fun xx35 ee35 => ?_)
    obtain rfl : xx35 = (nI (hm M it)) := ee35.symm.trans (i1.trans m2)
    refine g_callV2 (c_goTo (h := h) M ni nd nj j (hm M it) hR hi hd hj hj9 m1 hp hhd hC hf) mw_4_46 ok_X6_goTo ⟨by decide, by decide⟩ (by first | assumption | exact lay_item (by omega) | exact lay_drive (by omega) | exact lay_job (by omega) | rfl) (by omega) rfl (by omega) (by omega) (Nat.le_of_ble_eq_true rfl) dX6_doMoveStep_38 (rI_K ?_)
    intro r h' hr
    exact g_zret (nb (by rw [hr.1]; exact mGo_b M j _)) rfl dX6_doMoveStep_41 ⟨r, rfl, hr⟩
  · rw [ms1 h4]
    refine g_ald1 dX6_doMoveStep_0 ?_
    refine g_getI_a fb_3_6 mw_1_156 (by first | assumption | exact lay_item (by omega) | exact lay_drive (by omega) | exact lay_job (by omega) | rfl) (by omega) dX6_doMoveStep_1 (fun xx1 ee1 => ?_)
    obtain rfl : xx1 = (nI 1) := ee1.symm.trans ((f6 h33).trans h4)
    refine g_tabIn (tgt := 42) (off := 38) dX6_doMoveStep_4 (by decide +kernel) (by decide +kernel) (by decide +kernel) (by decide) ?_
    refine g_ald0 dX6_doMoveStep_42 ?_
    refine g_ald2 dX6_doMoveStep_43 ?_
    show Go _ _ _ _ _ _ 44 _ _
    refine g_ild3 dX6_doMoveStep_44 ?_
    refine g_callV2 (c_takeInHand it (by omega)) mw_4_61 ok_X6_takeInHand ⟨by decide, by decide⟩ (by first | assumption | exact lay_item (by omega) | exact lay_drive (by omega) | exact lay_job (by omega) | rfl) (by omega) rfl (by omega) (by omega) (Nat.le_of_ble_eq_true rfl) dX6_doMoveStep_45 (dI_K ?_)
    exact g_zret rfl rfl dX6_doMoveStep_48 ⟨1, rfl, rfl, rb_take hR hi hd hj it ht (hPh : PhA M nd).2, by repeat (first | exact KL.rf _ | refine KL.wI (by omega) ?_)⟩
  · rw [ms2 h4, if_pos hk2, hs2, nI_clamp (by omega)]
    refine g_ald1 dX6_doMoveStep_0 ?_
    refine g_getI_a fb_3_6 mw_1_156 (by first | assumption | exact lay_item (by omega) | exact lay_drive (by omega) | exact lay_job (by omega) | rfl) (by omega) dX6_doMoveStep_1 (fun xx1 ee1 => ?_)
    obtain rfl : xx1 = (nI 2) := ee1.symm.trans ((f6 h33).trans h4)
    refine g_tabIn (tgt := 49) (off := 45) dX6_doMoveStep_4 (by decide +kernel) (by decide +kernel) (by decide +kernel) (by decide) ?_
    refine g_ald0 dX6_doMoveStep_49 ?_
    refine g_ald1 dX6_doMoveStep_50 ?_
    show Go _ _ _ _ _ _ 51 _ _
    refine g_ald1 dX6_doMoveStep_51 ?_
    refine g_getI_a fb_3_2 mw_1_145 (by first | assumption | exact lay_item (by omega) | exact lay_drive (by omega) | exact lay_job (by omega) | rfl) (by omega) dX6_doMoveStep_52 (fun xx52 ee52 => ?_)
    obtain rfl : xx52 = (nI s) := ee52.symm.trans (f2.trans hs2)
    refine g_callV2 (c_goTo (h := h) M ni nd nj j s hR hi hd hj hj9 hs hp hhd hC hf) mw_4_46 ok_X6_goTo ⟨by decide, by decide⟩ (by first | assumption | exact lay_item (by omega) | exact lay_drive (by omega) | exact lay_job (by omega) | rfl) (by omega) rfl (by omega) (by omega) (Nat.le_of_ble_eq_true rfl) dX6_doMoveStep_55 (rI_K ?_)
    intro r h' hr
    exact g_zret (nb (by rw [hr.1]; exact mGo_b M j _)) rfl dX6_doMoveStep_58 ⟨r, rfl, hr⟩
  · rw [ms3 h4, if_pos hk2]
    refine g_ald1 dX6_doMoveStep_0 ?_
    refine g_getI_a fb_3_6 mw_1_156 (by first | assumption | exact lay_item (by omega) | exact lay_drive (by omega) | exact lay_job (by omega) | rfl) (by omega) dX6_doMoveStep_1 (fun xx1 ee1 => ?_)
    obtain rfl : xx1 = (nI 3) := ee1.symm.trans ((f6 h33).trans h4)
    refine g_tabOut (tgt := 59) dX6_doMoveStep_4 (by decide +kernel) (by decide) ?_
    refine g_ald2 dX6_doMoveStep_59 ?_
    refine g_ald1 dX6_doMoveStep_60 ?_
    show Go _ _ _ _ _ _ 61 _ _
    refine g_getI_a fb_3_2 mw_1_145 (by first | assumption | exact lay_item (by omega) | exact lay_drive (by omega) | exact lay_job (by omega) | rfl) (by omega) dX6_doMoveStep_61 (fun xx61 ee61 => ?_)
    obtain rfl : xx61 = (M.1 3 (6 * j + 2)) := ee61.symm.trans f2
    refine g_putI fb_2_1 mw_1_46 (by first | assumption | exact lay_item (by omega) | exact lay_drive (by omega) | exact lay_job (by omega) | rfl) (by omega) rfl rfl dX6_doMoveStep_64 ?_
    refine g_ald0 dX6_doMoveStep_67 ?_
    refine g_ald2 dX6_doMoveStep_68 ?_
    refine g_callV1 (c_putHome it (by omega)) mw_4_65 ok_X6_putHome ⟨by decide, by decide⟩ (by first | assumption | exact lay_item (by omega) | exact lay_drive (by omega) | exact lay_job (by omega) | rfl) (by omega) rfl (by omega) (by omega) (Nat.le_of_ble_eq_true rfl) dX6_doMoveStep_69 (dI_K ?_)
    exact g_zret rfl rfl dX6_doMoveStep_72 ⟨1, rfl, rfl, rb_move hR hi hd hj it _ ht, by repeat (first | exact KL.rf _ | refine KL.wI (by omega) ?_)⟩
/-- a step of a reading or a cleaning -/
theorem c_doDriveStep (M : Mo) (ni nd nj j it k q : Nat) (hR : Rb h M ni nd nj) (hI : IS M ni nd nj) (hO : Own M ni nd nj j it k q) (hk2 : ¬ M.1 3 (6 * j) = 2) : Ct G mX6_doDriveStep [ga G 1, ga G (29 + j), ga G (4 + it), ga G (23 + k)] h 456 456 (rI (fun r h' => r = (mStep M j it k).2 ∧ Rb h' (mStep M j it k).1 ni nd nj ∧ KL h h')) := by
  obtain ⟨⟨hi, hd, hj⟩, hp, hH, hC, hf, hu, hJb, hsl⟩ := hI
  obtain ⟨⟨hj9, h3, h33, ht, h4, hq8⟩, hK, hPh, hc0, -⟩ := hO
  obtain ⟨-, -, hIt, hDr, hJ, -, -, hS⟩ := id hR
  obtain ⟨⟨f0, f1, f2, -⟩, ⟨-, -, -, f6, -⟩, f8, -⟩ := hJ j hj9
  obtain ⟨-, i1, -⟩ := hIt it ht
  obtain ⟨m1, m2⟩ := hH it ht
  have hhd := hPh.hd ht
  obtain ⟨hk, h5, hcar⟩ : k < nd ∧ M.1 3 (6 * j + 5) = nI k ∧ (if M.1 3 (6 * j) = 1 then M.1 4 (6 * j) else M.1 3 (6 * j + 1)) = nI it := by
    rcases hK with ⟨z, z1, z2, z3, -⟩ | ⟨z, z1, z2, -, z3⟩ | ⟨z, -⟩
    · exact ⟨z2, z3, by rw [z, if_neg (by decide)]; exact z1⟩
    · exact ⟨z2, z3, by rw [z, if_pos rfl]; exact z1⟩
    · exact absurd z hk2
  obtain ⟨s, hs, hs2⟩ := hsl k hk
  obtain ⟨d0, -⟩ := hDr k hk
  have hcar2 : (if h.1 (29 + j) 0 = 1 then h.1 (29 + j) 8 else h.1 (29 + j) 1) = nI it := by rw [f0, f1, f8]; exact hcar
  refine Ct.of rfl (by simp [Value.category, ga]) (Nat.le_of_ble_eq_true rfl) (Nat.le_refl _) ?_
  show Go _ _ _ _ _ _ _ [some (ga G 1), some (ga G (29 + j)), some (ga G (4 + it)), some (ga G (23 + k))] []
  obtain rfl | rfl | rfl | rfl | rfl | rfl | rfl | rfl : q = 0 ∨ q = 1 ∨ q = 2 ∨ q = 3 ∨ q = 4 ∨ q = 5 ∨ q = 6 ∨ q = 7 := by omega
  · rw [ms06 (Or.inl h4)]
    refine g_ald1 dX6_doDriveStep_0 ?_
    refine g_getI_a fb_3_6 mw_1_156 (by first | assumption | exact lay_item (by omega) | exact lay_drive (by omega) | exact lay_job (by omega) | rfl) (by omega) dX6_doDriveStep_1 (fun xx1 ee1 => ?_)
    obtain rfl : xx1 = (nI 0) := ee1.symm.trans ((f6 h33).trans h4)
    refine g_tabIn (tgt := 48) (off := 44) dX6_doDriveStep_4 (by decide +kernel) (by decide +kernel) (by decide +kernel) (by decide) ?_
    refine g_ald0 dX6_doDriveStep_48 ?_
    refine g_ald1 dX6_doDriveStep_49 ?_
    show Go _ _ _ _ _ _ 50 _ _
    refine g_ald2 dX6_doDriveStep_50 ?_
    refine g_getI_a fb_2_1 mw_1_46 (by first | assumption | exact lay_item (by omega) | exact lay_drive (by omega) | exact lay_job (by omega) | rfl) (by omega) dX6_doDriveStep_51 (fun xx51 ee51 => ?_)
    obtain rfl : xx51 = (nI (hm M it)) := ee51.symm.trans (i1.trans m2)
    refine g_callV2 (c_goTo (h := h) M ni nd nj j (hm M it) hR hi hd hj hj9 m1 hp hhd hC hf) mw_4_46 ok_X6_goTo ⟨by decide, by decide⟩ (by first | assumption | exact lay_item (by omega) | exact lay_drive (by omega) | exact lay_job (by omega) | rfl) (by omega) rfl (by omega) (by omega) (Nat.le_of_ble_eq_true rfl) dX6_doDriveStep_54 (rI_K ?_)
    intro r h' hr
    exact g_zret (nb (by rw [hr.1]; exact mGo_b M j _)) rfl dX6_doDriveStep_57 ⟨r, rfl, hr⟩
  · rw [ms1 h4]
    refine g_ald1 dX6_doDriveStep_0 ?_
    refine g_getI_a fb_3_6 mw_1_156 (by first | assumption | exact lay_item (by omega) | exact lay_drive (by omega) | exact lay_job (by omega) | rfl) (by omega) dX6_doDriveStep_1 (fun xx1 ee1 => ?_)
    obtain rfl : xx1 = (nI 1) := ee1.symm.trans ((f6 h33).trans h4)
    refine g_tabIn (tgt := 58) (off := 54) dX6_doDriveStep_4 (by decide +kernel) (by decide +kernel) (by decide +kernel) (by decide) ?_
    refine g_ald0 dX6_doDriveStep_58 ?_
    refine g_ald2 dX6_doDriveStep_59 ?_
    show Go _ _ _ _ _ _ 60 _ _
    refine g_ald1 dX6_doDriveStep_60 ?_
    refine g_callV0 (c_carriedItem (h := h) (29 + j) (lay_job (by omega)) (by omega)) mw_4_41 ok_X3_carriedItem ⟨by decide, by decide⟩ (by first | assumption | exact lay_item (by omega) | exact lay_drive (by omega) | exact lay_job (by omega) | rfl) (by omega) rfl (by omega) (by omega) (Nat.le_of_ble_eq_true rfl) dX6_doDriveStep_61 (dI_K ?_)
    rw [hcar2]
    refine g_callV2 (c_takeInHand it (by omega)) mw_4_61 ok_X6_takeInHand ⟨by decide, by decide⟩ (by first | assumption | exact lay_item (by omega) | exact lay_drive (by omega) | exact lay_job (by omega) | rfl) (by omega) rfl (by omega) (by omega) (Nat.le_of_ble_eq_true rfl) dX6_doDriveStep_64 (dI_K ?_)
    exact g_zret rfl rfl dX6_doDriveStep_67 ⟨1, rfl, rfl, rb_take hR hi hd hj it ht (hPh : PhA M nd).2, by repeat (first | exact KL.rf _ | refine KL.wI (by omega) ?_)⟩
  · rw [ms2 h4, if_neg hk2, hs2, nI_clamp (by omega)]
    refine g_ald1 dX6_doDriveStep_0 ?_
    refine g_getI_a fb_3_6 mw_1_156 (by first | assumption | exact lay_item (by omega) | exact lay_drive (by omega) | exact lay_job (by omega) | rfl) (by omega) dX6_doDriveStep_1 (fun xx1 ee1 => ?_)
    obtain rfl : xx1 = (nI 2) := ee1.symm.trans ((f6 h33).trans h4)
    refine g_tabIn (tgt := 68) (off := 64) dX6_doDriveStep_4 (by decide +kernel) (by decide +kernel) (by decide +kernel) (by decide) ?_
    refine g_ald0 dX6_doDriveStep_68 ?_
    refine g_ald1 dX6_doDriveStep_69 ?_
    show Go _ _ _ _ _ _ 70 _ _
    refine g_ald3 dX6_doDriveStep_70 ?_
    refine g_getI_a fb_0_0 mw_1_86 (by first | assumption | exact lay_item (by omega) | exact lay_drive (by omega) | exact lay_job (by omega) | rfl) (by omega) dX6_doDriveStep_71 (fun xx71 ee71 => ?_)
    obtain rfl : xx71 = (nI s) := ee71.symm.trans (d0.trans hs2)
    refine g_callV2 (c_goTo (h := h) M ni nd nj j s hR hi hd hj hj9 hs hp hhd hC hf) mw_4_46 ok_X6_goTo ⟨by decide, by decide⟩ (by first | assumption | exact lay_item (by omega) | exact lay_drive (by omega) | exact lay_job (by omega) | rfl) (by omega) rfl (by omega) (by omega) (Nat.le_of_ble_eq_true rfl) dX6_doDriveStep_74 (rI_K ?_)
    intro r h' hr
    exact g_zret (nb (by rw [hr.1]; exact mGo_b M j _)) rfl dX6_doDriveStep_77 ⟨r, rfl, hr⟩
  · rw [ms3 h4, if_neg hk2]
    refine g_ald1 dX6_doDriveStep_0 ?_
    refine g_getI_a fb_3_6 mw_1_156 (by first | assumption | exact lay_item (by omega) | exact lay_drive (by omega) | exact lay_job (by omega) | rfl) (by omega) dX6_doDriveStep_1 (fun xx1 ee1 => ?_)
    obtain rfl : xx1 = (nI 3) := ee1.symm.trans ((f6 h33).trans h4)
    refine g_tabIn (tgt := 78) (off := 74) dX6_doDriveStep_4 (by decide +kernel) (by decide +kernel) (by decide +kernel) (by decide) ?_
    refine g_ald0 dX6_doDriveStep_78 ?_
    refine g_ald1 dX6_doDriveStep_79 ?_
    show Go _ _ _ _ _ _ 80 _ _
    refine g_ald2 dX6_doDriveStep_80 ?_
    refine g_ald3 dX6_doDriveStep_81 ?_
    refine g_callV3 (c_loadDrive (h := h) M ni nd nj j it k hR hi hd hj hj9 ht hk h5 (hPh : PhB M nd it)) mw_4_73 ok_X6_loadDrive ⟨by decide, by decide⟩ (by first | assumption | exact lay_item (by omega) | exact lay_drive (by omega) | exact lay_job (by omega) | rfl) (by omega) rfl (by omega) (by omega) (Nat.le_of_ble_eq_true rfl) dX6_doDriveStep_82 (rI_K ?_)
    rintro r h' ⟨rfl, hr⟩
    exact g_zret rfl rfl dX6_doDriveStep_85 ⟨1, rfl, rfl, hr⟩
  · rw [ms4 h4]
    obtain ⟨c0, hc1, hc2⟩ := hc0 (by omega)
    rcases hK with ⟨z, z1, z2, z3, r0, z4, z5⟩ | ⟨z, z1, z2, -, z3⟩ | ⟨z, -⟩
    · rw [if_pos z]
      refine g_ald1 dX6_doDriveStep_0 ?_
      refine g_getI_a fb_3_6 mw_1_156 (by first | assumption | exact lay_item (by omega) | exact lay_drive (by omega) | exact lay_job (by omega) | rfl) (by omega) dX6_doDriveStep_1 (fun xx1 ee1 => ?_)
      obtain rfl : xx1 = (nI 4) := ee1.symm.trans ((f6 h33).trans h4)
      refine g_tabIn (tgt := 86) (off := 82) dX6_doDriveStep_4 (by decide +kernel) (by decide +kernel) (by decide +kernel) (by decide) ?_
      refine g_ald1 dX6_doDriveStep_86 ?_
      refine g_getI_a fb_3_0 mw_1_141 (by first | assumption | exact lay_item (by omega) | exact lay_drive (by omega) | exact lay_job (by omega) | rfl) (by omega) dX6_doDriveStep_87 (fun xx87 ee87 => ?_)
      obtain rfl : xx87 = (0 : Int32) := ee87.symm.trans (f0.trans z)
      show Go _ _ _ _ _ _ 90 _ _
      refine g_if_ne_f (tgt := 103) dX6_doDriveStep_90 (by decide) rfl ?_
      refine g_ald0 dX6_doDriveStep_93 ?_
      refine g_ald1 dX6_doDriveStep_94 ?_
      refine g_ald2 dX6_doDriveStep_95 ?_
      refine g_ald3 dX6_doDriveStep_96 ?_
      refine g_callV3 (c_readInDrive (h := h) M ni nd nj j it k r0 c0 hR hi hd hj hj9 ht hk hf z5 z4 h33 hc2 hc1) mw_4_77 ok_X6_readInDrive ⟨by decide, by decide⟩ (by first | assumption | exact lay_item (by omega) | exact lay_drive (by omega) | exact lay_job (by omega) | rfl) (by omega) rfl (by omega) (by omega) (Nat.le_of_ble_eq_true rfl) dX6_doDriveStep_97 (rI_K ?_)
      intro r h' hr
      show Go _ _ _ _ _ _ 100 _ _
      refine g_goto (tgt := 110) dX6_doDriveStep_100 (by decide) ?_
      exact g_zret (nb (by rw [hr.1]; exact mRead_b M j _ _)) rfl dX6_doDriveStep_110 ⟨r, rfl, hr⟩
    · rw [if_neg (by rw [z]; decide)]
      refine g_ald1 dX6_doDriveStep_0 ?_
      refine g_getI_a fb_3_6 mw_1_156 (by first | assumption | exact lay_item (by omega) | exact lay_drive (by omega) | exact lay_job (by omega) | rfl) (by omega) dX6_doDriveStep_1 (fun xx1 ee1 => ?_)
      obtain rfl : xx1 = (nI 4) := ee1.symm.trans ((f6 h33).trans h4)
      refine g_tabIn (tgt := 86) (off := 82) dX6_doDriveStep_4 (by decide +kernel) (by decide +kernel) (by decide +kernel) (by decide) ?_
      refine g_ald1 dX6_doDriveStep_86 ?_
      refine g_getI_a fb_3_0 mw_1_141 (by first | assumption | exact lay_item (by omega) | exact lay_drive (by omega) | exact lay_job (by omega) | rfl) (by omega) dX6_doDriveStep_87 (fun xx87 ee87 => ?_)
      obtain rfl : xx87 = (1 : Int32) := ee87.symm.trans (f0.trans z)
      show Go _ _ _ _ _ _ 90 _ _
      refine g_if_ne_t (tgt := 103) dX6_doDriveStep_90 (by decide) (by decide) ?_
      refine g_ald0 dX6_doDriveStep_103 ?_
      refine g_ald1 dX6_doDriveStep_104 ?_
      refine g_ald2 dX6_doDriveStep_105 ?_
      refine g_ald3 dX6_doDriveStep_106 ?_
      refine g_callV3 (c_cleanDrive (h := h) M ni nd nj j it k hR hi hd hj hj9 ht hk hf) mw_4_87 ok_X6_cleanDrive ⟨by decide, by decide⟩ (by first | assumption | exact lay_item (by omega) | exact lay_drive (by omega) | exact lay_job (by omega) | rfl) (by omega) rfl (by omega) (by omega) (Nat.le_of_ble_eq_true rfl) dX6_doDriveStep_107 (rI_K ?_)
      rintro r h' ⟨rfl, hr⟩
      show Go _ _ _ _ _ _ 110 _ _
      exact g_zret rfl rfl dX6_doDriveStep_110 ⟨1, rfl, rfl, hr⟩
    · exact absurd z hk2
  · rw [ms5 h4]
    refine g_ald1 dX6_doDriveStep_0 ?_
    refine g_getI_a fb_3_6 mw_1_156 (by first | assumption | exact lay_item (by omega) | exact lay_drive (by omega) | exact lay_job (by omega) | rfl) (by omega) dX6_doDriveStep_1 (fun xx1 ee1 => ?_)
    obtain rfl : xx1 = (nI 5) := ee1.symm.trans ((f6 h33).trans h4)
    refine g_tabIn (tgt := 111) (off := 107) dX6_doDriveStep_4 (by decide +kernel) (by decide +kernel) (by decide +kernel) (by decide) ?_
    refine g_ald0 dX6_doDriveStep_111 ?_
    refine g_ald1 dX6_doDriveStep_112 ?_
    show Go _ _ _ _ _ _ 113 _ _
    refine g_ald2 dX6_doDriveStep_113 ?_
    refine g_ald3 dX6_doDriveStep_114 ?_
    refine g_callV3 (c_unloadDrive (h := h) M ni nd nj j it k hR hi hd hj hj9 ht hk hcar (hPh : PhC M nd it k)) mw_4_95 ok_X6_unloadDrive ⟨by decide, by decide⟩ (by first | assumption | exact lay_item (by omega) | exact lay_drive (by omega) | exact lay_job (by omega) | rfl) (by omega) rfl (by omega) (by omega) (Nat.le_of_ble_eq_true rfl) dX6_doDriveStep_115 (rI_K ?_)
    rintro r h' ⟨rfl, hr⟩
    exact g_zret rfl rfl dX6_doDriveStep_118 ⟨1, rfl, rfl, hr⟩
  · rw [ms06 (Or.inr h4)]
    refine g_ald1 dX6_doDriveStep_0 ?_
    refine g_getI_a fb_3_6 mw_1_156 (by first | assumption | exact lay_item (by omega) | exact lay_drive (by omega) | exact lay_job (by omega) | rfl) (by omega) dX6_doDriveStep_1 (fun xx1 ee1 => ?_)
    obtain rfl : xx1 = (nI 6) := ee1.symm.trans ((f6 h33).trans h4)
    refine g_tabIn (tgt := 119) (off := 115) dX6_doDriveStep_4 (by decide +kernel) (by decide +kernel) (by decide +kernel) (by decide) ?_
    refine g_ald0 dX6_doDriveStep_119 ?_
    refine g_ald1 dX6_doDriveStep_120 ?_
    show Go _ _ _ _ _ _ 121 _ _
    refine g_ald2 dX6_doDriveStep_121 ?_
    refine g_getI_a fb_2_1 mw_1_46 (by first | assumption | exact lay_item (by omega) | exact lay_drive (by omega) | exact lay_job (by omega) | rfl) (by omega) dX6_doDriveStep_122 (fun xx122 ee122 => ?_)
    obtain rfl : xx122 = (nI (hm M it)) := ee122.symm.trans (i1.trans m2)
    refine g_callV2 (c_goTo (h := h) M ni nd nj j (hm M it) hR hi hd hj hj9 m1 hp hhd hC hf) mw_4_46 ok_X6_goTo ⟨by decide, by decide⟩ (by first | assumption | exact lay_item (by omega) | exact lay_drive (by omega) | exact lay_job (by omega) | rfl) (by omega) rfl (by omega) (by omega) (Nat.le_of_ble_eq_true rfl) dX6_doDriveStep_125 (rI_K ?_)
    intro r h' hr
    exact g_zret (nb (by rw [hr.1]; exact mGo_b M j _)) rfl dX6_doDriveStep_128 ⟨r, rfl, hr⟩
  · rw [ms7 h4]
    refine g_ald1 dX6_doDriveStep_0 ?_
    refine g_getI_a fb_3_6 mw_1_156 (by first | assumption | exact lay_item (by omega) | exact lay_drive (by omega) | exact lay_job (by omega) | rfl) (by omega) dX6_doDriveStep_1 (fun xx1 ee1 => ?_)
    obtain rfl : xx1 = (nI 7) := ee1.symm.trans ((f6 h33).trans h4)
    refine g_tabOut (tgt := 129) dX6_doDriveStep_4 (by decide +kernel) (by decide) ?_
    refine g_ald0 dX6_doDriveStep_129 ?_
    refine g_ald2 dX6_doDriveStep_130 ?_
    show Go _ _ _ _ _ _ 131 _ _
    refine g_callV1 (c_putHome it (by omega)) mw_4_65 ok_X6_putHome ⟨by decide, by decide⟩ (by first | assumption | exact lay_item (by omega) | exact lay_drive (by omega) | exact lay_job (by omega) | rfl) (by omega) rfl (by omega) (by omega) (Nat.le_of_ble_eq_true rfl) dX6_doDriveStep_131 (dI_K ?_)
    exact g_zret rfl rfl dX6_doDriveStep_134 ⟨1, rfl, rfl, rb_home hR hi hd hj it ht, by repeat (first | exact KL.rf _ | refine KL.wI (by omega) ?_)⟩
theorem c_doStep (M : Mo) (ni nd nj j it k q : Nat) (hR : Rb h M ni nd nj) (hI : IS M ni nd nj) (hO : Own M ni nd nj j it k q) : Ct G mX6_doStep [ga G 1, ga G (29 + j)] h 456 456 (rI (fun r h' => r = (mStep M j it k).2 ∧ Rb h' (mStep M j it k).1 ni nd nj ∧ KL h h')) := by
  obtain ⟨⟨hi, hd, hj⟩, -⟩ := id hI
  obtain ⟨⟨hj9, h3, h33, ht, h4, hq8⟩, hK, -⟩ := id hO
  obtain ⟨-, ⟨hni, hnd, -⟩, hIt, hDr, hJ, -, -, hS⟩ := id hR
  obtain ⟨⟨f0, f1, f2, -⟩, ⟨-, -, -, f6, f7⟩, f8, -⟩ := hJ j hj9
  refine Ct.of rfl (by simp [Value.category, ga]) (Nat.le_of_ble_eq_true rfl) (Nat.le_refl _) ?_
  show Go _ _ _ _ _ _ _ [some (ga G 1), some (ga G (29 + j)), none, none, none] []
  have hcar2 : (if h.1 (29 + j) 0 = 1 then h.1 (29 + j) 8 else h.1 (29 + j) 1) = nI it := by
    rw [f0, f1, f8]
    rcases hK with ⟨z, z1, -⟩ | ⟨z, z1, -⟩ | ⟨z, z1, -⟩
    · rw [z, if_neg (by decide)]; exact z1
    · rw [z, if_pos rfl]; exact z1
    · rw [z, if_neg (by decide)]; exact z1
  by_cases hk2 : M.1 3 (6 * j) = 2
  · skip
    refine g_ald1 dX6_doStep_0 ?_
    refine g_callV0 (c_carriedItem (h := h) (29 + j) (lay_job (by omega)) (by omega)) mw_4_41 ok_X3_carriedItem ⟨by decide, by decide⟩ (by first | assumption | exact lay_item (by omega) | exact lay_drive (by omega) | exact lay_job (by omega) | rfl) (by omega) rfl (by omega) (by omega) (Nat.le_of_ble_eq_true rfl) dX6_doStep_1 (dI_K ?_)
    rw [hcar2]
    refine g_ist2 (by decide) dX6_doStep_4 ?_
    refine g_ald0 dX6_doStep_5 ?_
    refine g_getQ fb_6_0 mw_2_0 (by first | assumption | exact lay_item (by omega) | exact lay_drive (by omega) | exact lay_job (by omega) | rfl) (by omega) (sh_store hS) dX6_doStep_6 ?_
    show Go _ _ _ _ _ _ 9 _ _
    refine g_ild2 dX6_doStep_9 ?_
    refine g_callV1 (c_itemAt (h := h) it ni hS.1 hni (by omega) ht) mw_3_177 ok_X7_itemAt ⟨by decide, by decide⟩ (by first | assumption | exact lay_item (by omega) | exact lay_drive (by omega) | exact lay_job (by omega) | rfl) (by omega) rfl (by omega) (by omega) (Nat.le_of_ble_eq_true rfl) dX6_doStep_10 (dQ_K ?_)
    refine g_ast3 (by decide) dX6_doStep_13 ?_
    refine g_ald3 dX6_doStep_14 ?_
    refine g_ifnonnull (tgt := 20) dX6_doStep_15 (by decide) ?_
    refine g_ald1 dX6_doStep_20 ?_
    show Go _ _ _ _ _ _ 21 _ _
    refine g_getI_a fb_3_0 mw_1_141 (by first | assumption | exact lay_item (by omega) | exact lay_drive (by omega) | exact lay_job (by omega) | rfl) (by omega) dX6_doStep_21 (fun xx21 ee21 => ?_)
    obtain rfl : xx21 = (2 : Int32) := ee21.symm.trans (f0.trans hk2)
    refine g_iconst (v := nI 2) dX6_doStep_24 (by decide +kernel) ?_
    refine g_icmp_ne_f (tgt := 36) dX6_doStep_25 (by decide) rfl ?_
    refine g_ald0 dX6_doStep_28 ?_
    refine g_ald1 dX6_doStep_29 ?_
    refine g_ald3 dX6_doStep_30 ?_
    show Go _ _ _ _ _ _ 31 _ _
    refine g_ild2 dX6_doStep_31 ?_
    refine g_callV3 (c_doMoveStep (h := h) M ni nd nj j it k q hR hI hO hk2) mw_4_42 ok_X6_doMoveStep ⟨by decide, by decide⟩ (by first | assumption | exact lay_item (by omega) | exact lay_drive (by omega) | exact lay_job (by omega) | rfl) (by omega) rfl (by omega) (by omega) (Nat.le_of_ble_eq_true rfl) dX6_doStep_32 (rI_K ?_)
    intro r h' hr
    exact g_zret (nb (by rw [hr.1]; exact mStep_b M j _ _)) rfl dX6_doStep_35 ⟨r, rfl, hr⟩
  · obtain ⟨hk, h5⟩ : k < nd ∧ M.1 3 (6 * j + 5) = nI k := by
      rcases hK with ⟨z, z1, z2, z3, -⟩ | ⟨z, z1, z2, -, z3⟩ | ⟨z, -⟩
      · exact ⟨z2, z3⟩
      · exact ⟨z2, z3⟩
      · exact absurd z hk2
    refine g_ald1 dX6_doStep_0 ?_
    refine g_callV0 (c_carriedItem (h := h) (29 + j) (lay_job (by omega)) (by omega)) mw_4_41 ok_X3_carriedItem ⟨by decide, by decide⟩ (by first | assumption | exact lay_item (by omega) | exact lay_drive (by omega) | exact lay_job (by omega) | rfl) (by omega) rfl (by omega) (by omega) (Nat.le_of_ble_eq_true rfl) dX6_doStep_1 (dI_K ?_)
    rw [hcar2]
    refine g_ist2 (by decide) dX6_doStep_4 ?_
    refine g_ald0 dX6_doStep_5 ?_
    refine g_getQ fb_6_0 mw_2_0 (by first | assumption | exact lay_item (by omega) | exact lay_drive (by omega) | exact lay_job (by omega) | rfl) (by omega) (sh_store hS) dX6_doStep_6 ?_
    show Go _ _ _ _ _ _ 9 _ _
    refine g_ild2 dX6_doStep_9 ?_
    refine g_callV1 (c_itemAt (h := h) it ni hS.1 hni (by omega) ht) mw_3_177 ok_X7_itemAt ⟨by decide, by decide⟩ (by first | assumption | exact lay_item (by omega) | exact lay_drive (by omega) | exact lay_job (by omega) | rfl) (by omega) rfl (by omega) (by omega) (Nat.le_of_ble_eq_true rfl) dX6_doStep_10 (dQ_K ?_)
    refine g_ast3 (by decide) dX6_doStep_13 ?_
    refine g_ald3 dX6_doStep_14 ?_
    refine g_ifnonnull (tgt := 20) dX6_doStep_15 (by decide) ?_
    refine g_ald1 dX6_doStep_20 ?_
    show Go _ _ _ _ _ _ 21 _ _
    refine g_getI_a fb_3_0 mw_1_141 (by first | assumption | exact lay_item (by omega) | exact lay_drive (by omega) | exact lay_job (by omega) | rfl) (by omega) dX6_doStep_21 (fun xx21 ee21 => ?_)
    obtain rfl : xx21 = (M.1 3 (6 * j)) := ee21.symm.trans f0
    refine g_iconst (v := nI 2) dX6_doStep_24 (by decide +kernel) ?_
    refine g_icmp_ne_t (tgt := 36) dX6_doStep_25 (by decide) hk2 ?_
    refine g_ald0 dX6_doStep_36 ?_
    refine g_getQ fb_6_0 mw_2_0 (by first | assumption | exact lay_item (by omega) | exact lay_drive (by omega) | exact lay_job (by omega) | rfl) (by omega) (sh_store hS) dX6_doStep_37 ?_
    refine g_ald1 dX6_doStep_40 ?_
    show Go _ _ _ _ _ _ 41 _ _
    refine g_getI_a fb_3_7 mw_1_158 (by first | assumption | exact lay_item (by omega) | exact lay_drive (by omega) | exact lay_job (by omega) | rfl) (by omega) dX6_doStep_41 (fun xx41 ee41 => ?_)
    obtain rfl : xx41 = (nI k) := ee41.symm.trans (f7.trans h5)
    refine g_callV1 (c_driveAt (h := h) k nd hS.1 hnd hd hk) mw_3_15 ok_X7_driveAt ⟨by decide, by decide⟩ (by first | assumption | exact lay_item (by omega) | exact lay_drive (by omega) | exact lay_job (by omega) | rfl) (by omega) rfl (by omega) (by omega) (Nat.le_of_ble_eq_true rfl) dX6_doStep_44 (dQ_K ?_)
    refine g_ast4 (by decide) dX6_doStep_47 ?_
    refine g_ald4 dX6_doStep_49 ?_
    refine g_ifnull dX6_doStep_51 ?_
    refine g_ald0 dX6_doStep_54 ?_
    show Go _ _ _ _ _ _ 55 _ _
    refine g_ald1 dX6_doStep_55 ?_
    refine g_ald3 dX6_doStep_56 ?_
    refine g_ald4 dX6_doStep_57 ?_
    refine g_callV3 (c_doDriveStep (h := h) M ni nd nj j it k q hR hI hO hk2) mw_4_69 ok_X6_doDriveStep ⟨by decide, by decide⟩ (by first | assumption | exact lay_item (by omega) | exact lay_drive (by omega) | exact lay_job (by omega) | rfl) (by omega) rfl (by omega) (by omega) (Nat.le_of_ble_eq_true rfl) dX6_doStep_59 (rI_K ?_)
    intro r h' hr
    refine g_if_eq (tgt := 69) dX6_doStep_62 (by decide) (fun c_62 => ?_) (fun c_62 => ?_)
    · skip
      refine g_iconst (v := nI 0) dX6_doStep_69 (by decide +kernel) ?_
      show Go _ _ _ _ _ _ 70 _ _
      exact g_zret rfl rfl dX6_doStep_70 ⟨0, rfl, c_62.symm.trans hr.1, hr.2⟩
    · skip
      refine g_iconst (v := nI 1) dX6_doStep_65 (by decide +kernel) ?_
      refine g_goto (tgt := 70) dX6_doStep_66 (by decide) ?_
      exact g_zret rfl rfl dX6_doStep_70 ⟨1, rfl, ((mStep_b M j it k).resolve_left (fun z => c_62 (hr.1.trans z))).symm, hr.2⟩
/-- the job that begins, its drive and its cleaner -/
def Chs (M : Mo) (ni nd j : Nat) (kd cl : Int32) : Prop := (M.1 3 (6 * j) = 0 ∧ IsMin (fun k => ¬ dst M k) (fun k => (M.2 (2 * k)).toNat) nd kd ∧ cl = -5) ∨ (M.1 3 (6 * j) = 1 ∧ kd = M.1 3 (6 * j + 1) ∧ IsMin (fun i => M.1 1 (6 * i) = 1 ∧ 0 < M.1 1 (6 * i + 3)) (fun i => ad (hm M i) (pl M)) ni cl) ∨ (M.1 3 (6 * j) = 2 ∧ kd = -5 ∧ cl = -5)
/-- jobs that wait have no drive and no cleaner yet -/
def Iw (M : Mo) (nj : Nat) : Prop := ∀ j, j < nj → M.1 3 (6 * j + 3) = 0 → M.1 3 (6 * j + 5) = -5 ∧ M.1 4 (6 * j) = -5
theorem c_beginJob_n (M : Mo) (ni nd nj : Nat) (hR : Rb h M ni nd nj) (hI : IS M ni nd nj) (hF : IsMin (OKj M ni nd) (grp M) nj (-5)) : Ct G mX6_beginJob [ga G 1] h 456 456 (dV h) := by
  obtain ⟨⟨hi, hd, hj⟩, hp, hH, hC, hf, hu, hJb, hsl⟩ := hI
  obtain ⟨-, ⟨hni, hnd, hnj, -⟩, -, -, -, -, -, hS⟩ := id hR
  refine Ct.of rfl (by simp [Value.category, ga]) (Nat.le_of_ble_eq_true rfl) (Nat.le_refl _) ?_
  show Go _ _ _ _ _ _ _ [some (ga G 1), none, none] []
  refine g_ald0 dX6_beginJob_0 ?_
  refine g_callV0 (c_jobToBegin (h := h) M ni nd nj hR hi (by omega) hd hJb hf hH hC hp hu) mw_4_29 ok_X6_jobToBegin ⟨by decide, by decide⟩ (by first | assumption | exact lay_item (by omega) | exact lay_drive (by omega) | exact lay_job (by omega) | rfl) (by omega) rfl (by omega) (by omega) (Nat.le_of_ble_eq_true rfl) dX6_beginJob_1 (rI_K ?_)
  rintro r h ⟨rfl, hM⟩
  obtain rfl := hM.one (by omega) hF
  refine g_ist1 (by decide) dX6_beginJob_4 ?_
  refine g_ald0 dX6_beginJob_5 ?_
  refine g_getQ fb_6_1 mw_2_2 (by first | assumption | exact lay_item (by omega) | exact lay_drive (by omega) | exact lay_job (by omega) | rfl) (by omega) (sh_queue hS) dX6_beginJob_6 ?_
  show Go _ _ _ _ _ _ 9 _ _
  refine g_ild1 dX6_beginJob_9 ?_
  refine g_callV1 (c_jobAt_n (h := h) (-5) nj hnj (Or.inl (by decide))) mw_3_74 ok_X5_jobAt ⟨by decide, by decide⟩ (by first | assumption | exact lay_item (by omega) | exact lay_drive (by omega) | exact lay_job (by omega) | rfl) (by omega) rfl (by omega) (by omega) (Nat.le_of_ble_eq_true rfl) dX6_beginJob_10 (dQ_Kn ?_)
  refine g_zst2 (by decide) dX6_beginJob_13 ?_
  refine g_zld2 dX6_beginJob_14 ?_
  refine g_ifnonnullN dX6_beginJob_15 ?_
  exact g_vret rfl dX6_beginJob_18 ⟨rfl, rfl⟩
theorem c_beginJob_j (M : Mo) (ni nd nj j : Nat) (kd cl : Int32) (hR : Rb h M ni nd nj) (hI : IS M ni nd nj) (hW : Iw M nj) (hj9 : j < nj) (hF : IsMin (OKj M ni nd) (grp M) nj (nI j)) (hCh : Chs M ni nd j kd cl) : Ct G mX6_beginJob [ga G 1] h 456 456 (rV (fun h' => Rb h' (mBegin M j kd cl) ni nd nj ∧ KL h h')) := by
  obtain ⟨⟨hi, hd, hj⟩, hp, hH, hC, hf, hu, hJb, hsl⟩ := id hI
  obtain ⟨⟨s5, s6, -⟩, ⟨hni, hnd, hnj, -⟩, -, -, hJ, hL, -, hS⟩ := id hR
  obtain ⟨⟨f0, f1, -⟩, -⟩ := hJ j hj9
  have h0 : M.1 3 (6 * j + 3) = 0 := by
    rcases hF with ⟨z, -⟩ | ⟨i, z1, z2, z3, -⟩
    · exact absurd z (nI_n5 (by omega))
    · obtain rfl : j = i := (nI_eq (by omega) (by omega)).mp z2
      exact z3.1
  have hw := hW j hj9 h0
  have R2 := rb_begina hR hi hd hj j hj9 h0
  refine Ct.of rfl (by simp [Value.category, ga]) (Nat.le_of_ble_eq_true rfl) (Nat.le_refl _) ?_
  show Go _ _ _ _ _ _ _ [some (ga G 1), none, none] []
  rcases hCh with ⟨hk, hc1, rfl⟩ | ⟨hk, rfl, hc1⟩ | ⟨hk, rfl, rfl⟩
  · skip
    refine g_ald0 dX6_beginJob_0 ?_
    refine g_callV0 (c_jobToBegin (h := h) M ni nd nj hR hi (by omega) hd hJb hf hH hC hp hu) mw_4_29 ok_X6_jobToBegin ⟨by decide, by decide⟩ (by first | assumption | exact lay_item (by omega) | exact lay_drive (by omega) | exact lay_job (by omega) | rfl) (by omega) rfl (by omega) (by omega) (Nat.le_of_ble_eq_true rfl) dX6_beginJob_1 (rI_K ?_)
    rintro r h ⟨rfl, hM⟩
    obtain rfl := hM.one (by omega) hF
    refine g_ist1 (by decide) dX6_beginJob_4 ?_
    refine g_ald0 dX6_beginJob_5 ?_
    refine g_getQ fb_6_1 mw_2_2 (by first | assumption | exact lay_item (by omega) | exact lay_drive (by omega) | exact lay_job (by omega) | rfl) (by omega) (sh_queue hS) dX6_beginJob_6 ?_
    show Go _ _ _ _ _ _ 9 _ _
    refine g_ild1 dX6_beginJob_9 ?_
    refine g_callV1 (c_jobAt (h := h) j nj hS.1 hnj (by omega) hj9) mw_3_74 ok_X5_jobAt ⟨by decide, by decide⟩ (by first | assumption | exact lay_item (by omega) | exact lay_drive (by omega) | exact lay_job (by omega) | rfl) (by omega) rfl (by omega) (by omega) (Nat.le_of_ble_eq_true rfl) dX6_beginJob_10 (dQ_K ?_)
    refine g_ast2 (by decide) dX6_beginJob_13 ?_
    refine g_ald2 dX6_beginJob_14 ?_
    refine g_ifnonnull (tgt := 19) dX6_beginJob_15 (by decide) ?_
    refine g_ald2 dX6_beginJob_19 ?_
    show Go _ _ _ _ _ _ 20 _ _
    refine g_iconst (v := nI 1) dX6_beginJob_20 (by decide +kernel) ?_
    refine g_putI fb_3_3 mw_1_147 (by first | assumption | exact lay_item (by omega) | exact lay_drive (by omega) | exact lay_job (by omega) | rfl) (by omega) rfl rfl dX6_beginJob_21 ?_
    refine g_ald2 dX6_beginJob_24 ?_
    refine g_ald0 dX6_beginJob_25 ?_
    refine g_getI_a fb_6_5 mw_2_9 (by first | assumption | exact lay_item (by omega) | exact lay_drive (by omega) | exact lay_job (by omega) | rfl) (by omega) dX6_beginJob_26 (fun xx26 ee26 => ?_)
    obtain rfl : xx26 = (M.1 0 0) := ee26.symm.trans (by (try simp (disch := omega) only [wI_at, wI_ne, wF_at, wF_ne, wI_f, wF_i]) <;> first | exact s5 | rfl)
    refine g_putI fb_3_4 mw_1_151 (by first | assumption | exact lay_item (by omega) | exact lay_drive (by omega) | exact lay_job (by omega) | rfl) (by omega) rfl rfl dX6_beginJob_29 ?_
    show Go _ _ _ _ _ _ 32 _ _
    refine g_ald2 dX6_beginJob_32 ?_
    refine g_getI_a fb_3_0 mw_1_141 (by first | assumption | exact lay_item (by omega) | exact lay_drive (by omega) | exact lay_job (by omega) | rfl) (by omega) dX6_beginJob_33 (fun xx33 ee33 => ?_)
    obtain rfl : xx33 = (0 : Int32) := ee33.symm.trans (by (try simp (disch := omega) only [wI_at, wI_ne, wF_at, wF_ne, wI_f, wF_i]) <;> first | exact f0.trans hk | rfl)
    refine g_if_ne_f (tgt := 53) dX6_beginJob_36 (by decide) rfl ?_
    refine g_ald2 dX6_beginJob_39 ?_
    refine g_ald0 dX6_beginJob_40 ?_
    refine g_getQ fb_6_0 mw_2_0 (by first | assumption | exact lay_item (by omega) | exact lay_drive (by omega) | exact lay_job (by omega) | rfl) (by omega) (sh_store hS) dX6_beginJob_41 ?_
    show Go _ _ _ _ _ _ 44 _ _
    refine g_callV0 (c_driveToRead _ ni nd nj R2 hd hf) mw_3_25 ok_X7_driveToRead ⟨by decide, by decide⟩ (by first | assumption | exact lay_item (by omega) | exact lay_drive (by omega) | exact lay_job (by omega) | rfl) (by omega) rfl (by omega) (by omega) (Nat.le_of_ble_eq_true rfl) dX6_beginJob_44 (rI_K ?_)
    rintro r _ ⟨rfl, hM2⟩
    obtain rfl := IsMin.one (by omega) hM2 hc1
    refine g_putI fb_3_7 mw_1_158 (by first | assumption | exact lay_item (by omega) | exact lay_drive (by omega) | exact lay_job (by omega) | rfl) (by omega) rfl rfl dX6_beginJob_47 ?_
    refine g_goto (tgt := 84) dX6_beginJob_50 (by decide) ?_
    refine g_ald0 dX6_beginJob_84 ?_
    refine g_ild1 dX6_beginJob_85 ?_
    refine g_putI fb_6_8 mw_2_15 (by first | assumption | exact lay_item (by omega) | exact lay_drive (by omega) | exact lay_job (by omega) | rfl) (by omega) rfl rfl dX6_beginJob_86 ?_
    show Go _ _ _ _ _ _ 89 _ _
    refine g_ald0 dX6_beginJob_89 ?_
    refine g_getQ fb_6_2 mw_2_4 (by first | assumption | exact lay_item (by omega) | exact lay_drive (by omega) | exact lay_job (by omega) | rfl) (by omega) (sh_log hS) dX6_beginJob_90 ?_
    refine g_iconst (v := nI 0) dX6_beginJob_93 (by decide +kernel) ?_
    refine g_ild1 dX6_beginJob_94 ?_
    refine g_bipush (v := -5) dX6_beginJob_95 (by decide +kernel) ?_
    refine g_ald0 dX6_beginJob_97 ?_
    show Go _ _ _ _ _ _ 98 _ _
    refine g_getI_a fb_6_5 mw_2_9 (by first | assumption | exact lay_item (by omega) | exact lay_drive (by omega) | exact lay_job (by omega) | rfl) (by omega) dX6_beginJob_98 (fun xx98 ee98 => ?_)
    obtain rfl : xx98 = (M.1 0 0) := ee98.symm.trans (by (try simp (disch := omega) only [wI_at, wI_ne, wF_at, wF_ne, wI_f, wF_i]) <;> first | exact s5 | rfl)
    refine g_callV4 (c_logAdd _ _ _ _ (by exact hS) (by simp (disch := omega) only [wI_ne]; exact hL)) mw_4_30 ok_X4_add ⟨by decide, by decide⟩ (by first | assumption | exact lay_item (by omega) | exact lay_drive (by omega) | exact lay_job (by omega) | rfl) (by omega) rfl (by omega) (by omega) (Nat.le_of_ble_eq_true rfl) dX6_beginJob_101 (rV_K ?_)
    intro h2 k2
    exact g_vret rfl dX6_beginJob_104 ⟨rfl, (rb_begin0 hR hi hd hj j hj9 _ h0 hw).lg hi hd hj k2, KL.lg (KL.wI (by omega) (KL.wI (by omega) (KL.wI (by omega) (KL.wI (by omega) (KL.rf _))))) k2⟩
  · skip
    refine g_ald0 dX6_beginJob_0 ?_
    refine g_callV0 (c_jobToBegin (h := h) M ni nd nj hR hi (by omega) hd hJb hf hH hC hp hu) mw_4_29 ok_X6_jobToBegin ⟨by decide, by decide⟩ (by first | assumption | exact lay_item (by omega) | exact lay_drive (by omega) | exact lay_job (by omega) | rfl) (by omega) rfl (by omega) (by omega) (Nat.le_of_ble_eq_true rfl) dX6_beginJob_1 (rI_K ?_)
    rintro r h ⟨rfl, hM⟩
    obtain rfl := hM.one (by omega) hF
    refine g_ist1 (by decide) dX6_beginJob_4 ?_
    refine g_ald0 dX6_beginJob_5 ?_
    refine g_getQ fb_6_1 mw_2_2 (by first | assumption | exact lay_item (by omega) | exact lay_drive (by omega) | exact lay_job (by omega) | rfl) (by omega) (sh_queue hS) dX6_beginJob_6 ?_
    show Go _ _ _ _ _ _ 9 _ _
    refine g_ild1 dX6_beginJob_9 ?_
    refine g_callV1 (c_jobAt (h := h) j nj hS.1 hnj (by omega) hj9) mw_3_74 ok_X5_jobAt ⟨by decide, by decide⟩ (by first | assumption | exact lay_item (by omega) | exact lay_drive (by omega) | exact lay_job (by omega) | rfl) (by omega) rfl (by omega) (by omega) (Nat.le_of_ble_eq_true rfl) dX6_beginJob_10 (dQ_K ?_)
    refine g_ast2 (by decide) dX6_beginJob_13 ?_
    refine g_ald2 dX6_beginJob_14 ?_
    refine g_ifnonnull (tgt := 19) dX6_beginJob_15 (by decide) ?_
    refine g_ald2 dX6_beginJob_19 ?_
    show Go _ _ _ _ _ _ 20 _ _
    refine g_iconst (v := nI 1) dX6_beginJob_20 (by decide +kernel) ?_
    refine g_putI fb_3_3 mw_1_147 (by first | assumption | exact lay_item (by omega) | exact lay_drive (by omega) | exact lay_job (by omega) | rfl) (by omega) rfl rfl dX6_beginJob_21 ?_
    refine g_ald2 dX6_beginJob_24 ?_
    refine g_ald0 dX6_beginJob_25 ?_
    refine g_getI_a fb_6_5 mw_2_9 (by first | assumption | exact lay_item (by omega) | exact lay_drive (by omega) | exact lay_job (by omega) | rfl) (by omega) dX6_beginJob_26 (fun xx26 ee26 => ?_)
    obtain rfl : xx26 = (M.1 0 0) := ee26.symm.trans (by (try simp (disch := omega) only [wI_at, wI_ne, wF_at, wF_ne, wI_f, wF_i]) <;> first | exact s5 | rfl)
    refine g_putI fb_3_4 mw_1_151 (by first | assumption | exact lay_item (by omega) | exact lay_drive (by omega) | exact lay_job (by omega) | rfl) (by omega) rfl rfl dX6_beginJob_29 ?_
    show Go _ _ _ _ _ _ 32 _ _
    refine g_ald2 dX6_beginJob_32 ?_
    refine g_getI_a fb_3_0 mw_1_141 (by first | assumption | exact lay_item (by omega) | exact lay_drive (by omega) | exact lay_job (by omega) | rfl) (by omega) dX6_beginJob_33 (fun xx33 ee33 => ?_)
    obtain rfl : xx33 = (1 : Int32) := ee33.symm.trans (by (try simp (disch := omega) only [wI_at, wI_ne, wF_at, wF_ne, wI_f, wF_i]) <;> first | exact f0.trans hk | rfl)
    refine g_if_ne_t (tgt := 53) dX6_beginJob_36 (by decide) (by decide) ?_
    refine g_ald2 dX6_beginJob_53 ?_
    refine g_getI_a fb_3_0 mw_1_141 (by first | assumption | exact lay_item (by omega) | exact lay_drive (by omega) | exact lay_job (by omega) | rfl) (by omega) dX6_beginJob_54 (fun xx54 ee54 => ?_)
    obtain rfl : xx54 = (1 : Int32) := ee54.symm.trans (by (try simp (disch := omega) only [wI_at, wI_ne, wF_at, wF_ne, wI_f, wF_i]) <;> first | exact f0.trans hk | rfl)
    refine g_iconst (v := nI 1) dX6_beginJob_57 (by decide +kernel) ?_
    show Go _ _ _ _ _ _ 58 _ _
    refine g_icmp_ne_f (tgt := 84) dX6_beginJob_58 (by decide) rfl ?_
    refine g_ald2 dX6_beginJob_61 ?_
    refine g_ald2 dX6_beginJob_62 ?_
    refine g_getI_a fb_3_1 mw_1_143 (by first | assumption | exact lay_item (by omega) | exact lay_drive (by omega) | exact lay_job (by omega) | rfl) (by omega) dX6_beginJob_63 (fun xx63 ee63 => ?_)
    obtain rfl : xx63 = (M.1 3 (6 * j + 1)) := ee63.symm.trans (by (try simp (disch := omega) only [wI_at, wI_ne, wF_at, wF_ne, wI_f, wF_i]) <;> first | exact f1 | rfl)
    refine g_putI fb_3_7 mw_1_158 (by first | assumption | exact lay_item (by omega) | exact lay_drive (by omega) | exact lay_job (by omega) | rfl) (by omega) rfl rfl dX6_beginJob_66 ?_
    refine g_ald2 dX6_beginJob_69 ?_
    show Go _ _ _ _ _ _ 70 _ _
    refine g_ald0 dX6_beginJob_70 ?_
    refine g_getQ fb_6_0 mw_2_0 (by first | assumption | exact lay_item (by omega) | exact lay_drive (by omega) | exact lay_job (by omega) | rfl) (by omega) (sh_store hS) dX6_beginJob_71 ?_
    refine g_ald0 dX6_beginJob_74 ?_
    refine g_getI_a fb_6_6 mw_2_11 (by first | assumption | exact lay_item (by omega) | exact lay_drive (by omega) | exact lay_job (by omega) | rfl) (by omega) dX6_beginJob_75 (fun xx75 ee75 => ?_)
    obtain rfl : xx75 = (nI (pl M)) := ee75.symm.trans (by (try simp (disch := omega) only [wI_at, wI_ne, wF_at, wF_ne, wI_f, wF_i]) <;> first | exact s6.trans hp.2 | rfl)
    have R3 := rb_beginb R2 hi hd hj j hj9 (M.1 3 (6 * j + 1))
    refine g_callV1 (c_cleanerNearest _ ni nd nj (pl M) R3 (by omega) hH hp.1 hC) mw_3_30 ok_X7_cleanerNearest ⟨by decide, by decide⟩ (by first | assumption | exact lay_item (by omega) | exact lay_drive (by omega) | exact lay_job (by omega) | rfl) (by omega) rfl (by omega) (by omega) (Nat.le_of_ble_eq_true rfl) dX6_beginJob_78 (rI_K ?_)
    rintro r _ ⟨rfl, hM2⟩
    obtain rfl := IsMin.one (by omega) hM2 hc1
    refine g_putI fb_3_8 mw_1_160 (by first | assumption | exact lay_item (by omega) | exact lay_drive (by omega) | exact lay_job (by omega) | rfl) (by omega) rfl rfl dX6_beginJob_81 ?_
    show Go _ _ _ _ _ _ 84 _ _
    refine g_ald0 dX6_beginJob_84 ?_
    refine g_ild1 dX6_beginJob_85 ?_
    refine g_putI fb_6_8 mw_2_15 (by first | assumption | exact lay_item (by omega) | exact lay_drive (by omega) | exact lay_job (by omega) | rfl) (by omega) rfl rfl dX6_beginJob_86 ?_
    refine g_ald0 dX6_beginJob_89 ?_
    refine g_getQ fb_6_2 mw_2_4 (by first | assumption | exact lay_item (by omega) | exact lay_drive (by omega) | exact lay_job (by omega) | rfl) (by omega) (sh_log hS) dX6_beginJob_90 ?_
    refine g_iconst (v := nI 0) dX6_beginJob_93 (by decide +kernel) ?_
    show Go _ _ _ _ _ _ 94 _ _
    refine g_ild1 dX6_beginJob_94 ?_
    refine g_bipush (v := -5) dX6_beginJob_95 (by decide +kernel) ?_
    refine g_ald0 dX6_beginJob_97 ?_
    refine g_getI_a fb_6_5 mw_2_9 (by first | assumption | exact lay_item (by omega) | exact lay_drive (by omega) | exact lay_job (by omega) | rfl) (by omega) dX6_beginJob_98 (fun xx98 ee98 => ?_)
    obtain rfl : xx98 = (M.1 0 0) := ee98.symm.trans (by (try simp (disch := omega) only [wI_at, wI_ne, wF_at, wF_ne, wI_f, wF_i]) <;> first | exact s5 | rfl)
    refine g_callV4 (c_logAdd _ _ _ _ (by exact hS) (by simp (disch := omega) only [wI_ne]; exact hL)) mw_4_30 ok_X4_add ⟨by decide, by decide⟩ (by first | assumption | exact lay_item (by omega) | exact lay_drive (by omega) | exact lay_job (by omega) | rfl) (by omega) rfl (by omega) (by omega) (Nat.le_of_ble_eq_true rfl) dX6_beginJob_101 (rV_K ?_)
    intro h2 k2
    exact g_vret rfl dX6_beginJob_104 ⟨rfl, (rb_begin1 hR hi hd hj j hj9 _ _ h0).lg hi hd hj k2, KL.lg (KL.wI (by omega) (KL.wI (by omega) (KL.wI (by omega) (KL.wI (by omega) (KL.wI (by omega) (KL.rf _)))))) k2⟩
  · skip
    refine g_ald0 dX6_beginJob_0 ?_
    refine g_callV0 (c_jobToBegin (h := h) M ni nd nj hR hi (by omega) hd hJb hf hH hC hp hu) mw_4_29 ok_X6_jobToBegin ⟨by decide, by decide⟩ (by first | assumption | exact lay_item (by omega) | exact lay_drive (by omega) | exact lay_job (by omega) | rfl) (by omega) rfl (by omega) (by omega) (Nat.le_of_ble_eq_true rfl) dX6_beginJob_1 (rI_K ?_)
    rintro r h ⟨rfl, hM⟩
    obtain rfl := hM.one (by omega) hF
    refine g_ist1 (by decide) dX6_beginJob_4 ?_
    refine g_ald0 dX6_beginJob_5 ?_
    refine g_getQ fb_6_1 mw_2_2 (by first | assumption | exact lay_item (by omega) | exact lay_drive (by omega) | exact lay_job (by omega) | rfl) (by omega) (sh_queue hS) dX6_beginJob_6 ?_
    show Go _ _ _ _ _ _ 9 _ _
    refine g_ild1 dX6_beginJob_9 ?_
    refine g_callV1 (c_jobAt (h := h) j nj hS.1 hnj (by omega) hj9) mw_3_74 ok_X5_jobAt ⟨by decide, by decide⟩ (by first | assumption | exact lay_item (by omega) | exact lay_drive (by omega) | exact lay_job (by omega) | rfl) (by omega) rfl (by omega) (by omega) (Nat.le_of_ble_eq_true rfl) dX6_beginJob_10 (dQ_K ?_)
    refine g_ast2 (by decide) dX6_beginJob_13 ?_
    refine g_ald2 dX6_beginJob_14 ?_
    refine g_ifnonnull (tgt := 19) dX6_beginJob_15 (by decide) ?_
    refine g_ald2 dX6_beginJob_19 ?_
    show Go _ _ _ _ _ _ 20 _ _
    refine g_iconst (v := nI 1) dX6_beginJob_20 (by decide +kernel) ?_
    refine g_putI fb_3_3 mw_1_147 (by first | assumption | exact lay_item (by omega) | exact lay_drive (by omega) | exact lay_job (by omega) | rfl) (by omega) rfl rfl dX6_beginJob_21 ?_
    refine g_ald2 dX6_beginJob_24 ?_
    refine g_ald0 dX6_beginJob_25 ?_
    refine g_getI_a fb_6_5 mw_2_9 (by first | assumption | exact lay_item (by omega) | exact lay_drive (by omega) | exact lay_job (by omega) | rfl) (by omega) dX6_beginJob_26 (fun xx26 ee26 => ?_)
    obtain rfl : xx26 = (M.1 0 0) := ee26.symm.trans (by (try simp (disch := omega) only [wI_at, wI_ne, wF_at, wF_ne, wI_f, wF_i]) <;> first | exact s5 | rfl)
    refine g_putI fb_3_4 mw_1_151 (by first | assumption | exact lay_item (by omega) | exact lay_drive (by omega) | exact lay_job (by omega) | rfl) (by omega) rfl rfl dX6_beginJob_29 ?_
    show Go _ _ _ _ _ _ 32 _ _
    refine g_ald2 dX6_beginJob_32 ?_
    refine g_getI_a fb_3_0 mw_1_141 (by first | assumption | exact lay_item (by omega) | exact lay_drive (by omega) | exact lay_job (by omega) | rfl) (by omega) dX6_beginJob_33 (fun xx33 ee33 => ?_)
    obtain rfl : xx33 = (2 : Int32) := ee33.symm.trans (by (try simp (disch := omega) only [wI_at, wI_ne, wF_at, wF_ne, wI_f, wF_i]) <;> first | exact f0.trans hk | rfl)
    refine g_if_ne_t (tgt := 53) dX6_beginJob_36 (by decide) (by decide) ?_
    refine g_ald2 dX6_beginJob_53 ?_
    refine g_getI_a fb_3_0 mw_1_141 (by first | assumption | exact lay_item (by omega) | exact lay_drive (by omega) | exact lay_job (by omega) | rfl) (by omega) dX6_beginJob_54 (fun xx54 ee54 => ?_)
    obtain rfl : xx54 = (2 : Int32) := ee54.symm.trans (by (try simp (disch := omega) only [wI_at, wI_ne, wF_at, wF_ne, wI_f, wF_i]) <;> first | exact f0.trans hk | rfl)
    refine g_iconst (v := nI 1) dX6_beginJob_57 (by decide +kernel) ?_
    show Go _ _ _ _ _ _ 58 _ _
    refine g_icmp_ne_t (tgt := 84) dX6_beginJob_58 (by decide) (by decide) ?_
    refine g_ald0 dX6_beginJob_84 ?_
    refine g_ild1 dX6_beginJob_85 ?_
    refine g_putI fb_6_8 mw_2_15 (by first | assumption | exact lay_item (by omega) | exact lay_drive (by omega) | exact lay_job (by omega) | rfl) (by omega) rfl rfl dX6_beginJob_86 ?_
    refine g_ald0 dX6_beginJob_89 ?_
    refine g_getQ fb_6_2 mw_2_4 (by first | assumption | exact lay_item (by omega) | exact lay_drive (by omega) | exact lay_job (by omega) | rfl) (by omega) (sh_log hS) dX6_beginJob_90 ?_
    show Go _ _ _ _ _ _ 93 _ _
    refine g_iconst (v := nI 0) dX6_beginJob_93 (by decide +kernel) ?_
    refine g_ild1 dX6_beginJob_94 ?_
    refine g_bipush (v := -5) dX6_beginJob_95 (by decide +kernel) ?_
    refine g_ald0 dX6_beginJob_97 ?_
    refine g_getI_a fb_6_5 mw_2_9 (by first | assumption | exact lay_item (by omega) | exact lay_drive (by omega) | exact lay_job (by omega) | rfl) (by omega) dX6_beginJob_98 (fun xx98 ee98 => ?_)
    obtain rfl : xx98 = (M.1 0 0) := ee98.symm.trans (by (try simp (disch := omega) only [wI_at, wI_ne, wF_at, wF_ne, wI_f, wF_i]) <;> first | exact s5 | rfl)
    refine g_callV4 (c_logAdd _ _ _ _ (by exact hS) (by simp (disch := omega) only [wI_ne]; exact hL)) mw_4_30 ok_X4_add ⟨by decide, by decide⟩ (by first | assumption | exact lay_item (by omega) | exact lay_drive (by omega) | exact lay_job (by omega) | rfl) (by omega) rfl (by omega) (by omega) (Nat.le_of_ble_eq_true rfl) dX6_beginJob_101 (rV_K ?_)
    intro h2 k2
    show Go _ _ _ _ _ _ 104 _ _
    exact g_vret rfl dX6_beginJob_104 ⟨rfl, (rb_begin2 hR hi hd hj j hj9 h0 hw).lg hi hd hj k2, KL.lg (KL.wI (by omega) (KL.wI (by omega) (KL.wI (by omega) (KL.rf _)))) k2⟩
end P26
