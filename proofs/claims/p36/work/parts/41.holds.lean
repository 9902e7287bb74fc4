/-! ===== putOff, withdraw ===== -/
theorem cnI_c {p p' : Nat → Prop} [DecidablePred p] [DecidablePred p'] : ∀ n, (∀ i, i < n → (p i ↔ p' i)) → cnI p n = cnI p' n
  | 0, _ => rfl
  | n + 1, h => by
    show cnI p n + (if p n then 1 else 0) = cnI p' n + (if p' n then 1 else 0)
    rw [cnI_c n (fun i hi => h i (by omega))]
    by_cases c : p n
    · rw [if_pos c, if_pos ((h n (by omega)).mp c)]
    · rw [if_neg c, if_neg (fun z => c ((h n (by omega)).mpr z))]
def mPutO (M : Mo) (j : Nat) (v : Int32) : Mo × Int32 := if M.1 3 (6 * j + 3) = 0 then (if M.1 4 (6 * j + 3) = v then (M, -5) else (up M 4 (6 * j + 3) v, M.1 4 (6 * j + 3))) else (M, -4)
def mWdr (M : Mo) (j : Nat) : Mo := up (up M 3 (6 * j + 3) 4) 4 (6 * j + 5) (M.1 0 0)
theorem rb_until {h : Hp} {M : Mo} {ni nd nj : Nat} (R : Rb h M ni nd nj) (hi : ni ≤ 8) (hd : nd ≤ 4) (hj : nj ≤ 10) (j : Nat) (hjj : j < nj) (v : Int32) : Rb (wI h (29 + j) 11 v) (up M 4 (6 * j + 3) v) ni nd nj := by
  obtain ⟨⟨s5, s6, s7, s8, s9, s10, s11, s3, s4⟩, ⟨n1, n2, n3, n4, n5⟩, hI, hD, hJ, hL, hH, hS⟩ := R
  refine ⟨⟨(by (try simp (disch := omega) only [wI_at, wI_ne, wF_at, wF_ne, wI_f, wF_i, up_at, up_ne, uf_at, uf_ne, up_f, uf_i]) <;> first | assumption | rfl | exact a7.trans hw.1 | exact a8.trans hw.2), (by (try simp (disch := omega) only [wI_at, wI_ne, wF_at, wF_ne, wI_f, wF_i, up_at, up_ne, uf_at, uf_ne, up_f, uf_i]) <;> first | assumption | rfl | exact a7.trans hw.1 | exact a8.trans hw.2), (by (try simp (disch := omega) only [wI_at, wI_ne, wF_at, wF_ne, wI_f, wF_i, up_at, up_ne, uf_at, uf_ne, up_f, uf_i]) <;> first | assumption | rfl | exact a7.trans hw.1 | exact a8.trans hw.2), (by (try simp (disch := omega) only [wI_at, wI_ne, wF_at, wF_ne, wI_f, wF_i, up_at, up_ne, uf_at, uf_ne, up_f, uf_i]) <;> first | assumption | rfl | exact a7.trans hw.1 | exact a8.trans hw.2), (by (try simp (disch := omega) only [wI_at, wI_ne, wF_at, wF_ne, wI_f, wF_i, up_at, up_ne, uf_at, uf_ne, up_f, uf_i]) <;> first | assumption | rfl | exact a7.trans hw.1 | exact a8.trans hw.2), (by (try simp (disch := omega) only [wI_at, wI_ne, wF_at, wF_ne, wI_f, wF_i, up_at, up_ne, uf_at, uf_ne, up_f, uf_i]) <;> first | assumption | rfl | exact a7.trans hw.1 | exact a8.trans hw.2), (by (try simp (disch := omega) only [wI_at, wI_ne, wF_at, wF_ne, wI_f, wF_i, up_at, up_ne, uf_at, uf_ne, up_f, uf_i]) <;> first | assumption | rfl | exact a7.trans hw.1 | exact a8.trans hw.2), (by (try simp (disch := omega) only [wI_at, wI_ne, wF_at, wF_ne, wI_f, wF_i, up_at, up_ne, uf_at, uf_ne, up_f, uf_i]) <;> first | assumption | rfl | exact a7.trans hw.1 | exact a8.trans hw.2), (by (try simp (disch := omega) only [wI_at, wI_ne, wF_at, wF_ne, wI_f, wF_i, up_at, up_ne, uf_at, uf_ne, up_f, uf_i]) <;> first | assumption | rfl | exact a7.trans hw.1 | exact a8.trans hw.2)⟩, ⟨(by (try simp (disch := omega) only [wI_at, wI_ne, wF_at, wF_ne, wI_f, wF_i, up_at, up_ne, uf_at, uf_ne, up_f, uf_i]) <;> first | assumption | rfl | exact a7.trans hw.1 | exact a8.trans hw.2), (by (try simp (disch := omega) only [wI_at, wI_ne, wF_at, wF_ne, wI_f, wF_i, up_at, up_ne, uf_at, uf_ne, up_f, uf_i]) <;> first | assumption | rfl | exact a7.trans hw.1 | exact a8.trans hw.2), (by (try simp (disch := omega) only [wI_at, wI_ne, wF_at, wF_ne, wI_f, wF_i, up_at, up_ne, uf_at, uf_ne, up_f, uf_i]) <;> first | assumption | rfl | exact a7.trans hw.1 | exact a8.trans hw.2), (by (try simp (disch := omega) only [wI_at, wI_ne, wF_at, wF_ne, wI_f, wF_i, up_at, up_ne, uf_at, uf_ne, up_f, uf_i]) <;> first | assumption | rfl | exact a7.trans hw.1 | exact a8.trans hw.2), (by (try simp (disch := omega) only [wI_at, wI_ne, wF_at, wF_ne, wI_f, wF_i, up_at, up_ne, uf_at, uf_ne, up_f, uf_i]) <;> first | assumption | rfl | exact a7.trans hw.1 | exact a8.trans hw.2)⟩, fun i hi' => ?_, fun k' hk' => ?_, fun j' hj' => ?_, ?_, ?_, hS⟩
  · obtain ⟨a0, a1, a2, a3, a4, ⟨f, f1, f2, f3, f4⟩, a7⟩ := hI i hi'
    exact ⟨(by (try simp (disch := omega) only [wI_at, wI_ne, wF_at, wF_ne, wI_f, wF_i, up_at, up_ne, uf_at, uf_ne, up_f, uf_i]) <;> first | assumption | rfl | exact a7.trans hw.1 | exact a8.trans hw.2), (by (try simp (disch := omega) only [wI_at, wI_ne, wF_at, wF_ne, wI_f, wF_i, up_at, up_ne, uf_at, uf_ne, up_f, uf_i]) <;> first | assumption | rfl | exact a7.trans hw.1 | exact a8.trans hw.2), (by (try simp (disch := omega) only [wI_at, wI_ne, wF_at, wF_ne, wI_f, wF_i, up_at, up_ne, uf_at, uf_ne, up_f, uf_i]) <;> first | assumption | rfl | exact a7.trans hw.1 | exact a8.trans hw.2), (by rw [inD_congr (M := M) i nd (fun q hq => (by (try simp (disch := omega) only [wI_at, wI_ne, wF_at, wF_ne, wI_f, wF_i, up_at, up_ne, uf_at, uf_ne, up_f, uf_i]) <;> first | assumption | rfl | exact a7.trans hw.1 | exact a8.trans hw.2))]; (try simp (disch := omega) only [wI_at, wI_ne, wF_at, wF_ne, wI_f, wF_i, up_at, up_ne, uf_at, uf_ne, up_f, uf_i]) <;> first | assumption | rfl), (by (try simp (disch := omega) only [wI_at, wI_ne, wF_at, wF_ne, wI_f, wF_i, up_at, up_ne, uf_at, uf_ne, up_f, uf_i]) <;> first | assumption | rfl | exact a7.trans hw.1 | exact a8.trans hw.2), ⟨f, f1, (by (try simp (disch := omega) only [wI_at, wI_ne, wF_at, wF_ne, wI_f, wF_i, up_at, up_ne, uf_at, uf_ne, up_f, uf_i]) <;> first | assumption | rfl | exact a7.trans hw.1 | exact a8.trans hw.2), (by (try simp (disch := omega) only [wI_at, wI_ne, wF_at, wF_ne, wI_f, wF_i, up_at, up_ne, uf_at, uf_ne, up_f, uf_i]) <;> first | assumption | rfl | exact a7.trans hw.1 | exact a8.trans hw.2), (by (try simp (disch := omega) only [wI_at, wI_ne, wF_at, wF_ne, wI_f, wF_i, up_at, up_ne, uf_at, uf_ne, up_f, uf_i]) <;> first | assumption | rfl | exact a7.trans hw.1 | exact a8.trans hw.2)⟩, (by (try simp (disch := omega) only [wI_at, wI_ne, wF_at, wF_ne, wI_f, wF_i, up_at, up_ne, uf_at, uf_ne, up_f, uf_i]) <;> first | assumption | rfl | exact a7.trans hw.1 | exact a8.trans hw.2)⟩
  · obtain ⟨a0, a1, a2, a3, a4, a5, a6⟩ := hD k' hk'
    exact ⟨(by (try simp (disch := omega) only [wI_at, wI_ne, wF_at, wF_ne, wI_f, wF_i, up_at, up_ne, uf_at, uf_ne, up_f, uf_i]) <;> first | assumption | rfl | exact a7.trans hw.1 | exact a8.trans hw.2), (by (try simp (disch := omega) only [wI_at, wI_ne, wF_at, wF_ne, wI_f, wF_i, up_at, up_ne, uf_at, uf_ne, up_f, uf_i]) <;> first | assumption | rfl | exact a7.trans hw.1 | exact a8.trans hw.2), (by (try simp (disch := omega) only [wI_at, wI_ne, wF_at, wF_ne, wI_f, wF_i, up_at, up_ne, uf_at, uf_ne, up_f, uf_i]) <;> first | assumption | rfl | exact a7.trans hw.1 | exact a8.trans hw.2), (by (try simp (disch := omega) only [wI_at, wI_ne, wF_at, wF_ne, wI_f, wF_i, up_at, up_ne, uf_at, uf_ne, up_f, uf_i]) <;> first | assumption | rfl | exact a7.trans hw.1 | exact a8.trans hw.2), (by (try simp (disch := omega) only [wI_at, wI_ne, wF_at, wF_ne, wI_f, wF_i, up_at, up_ne, uf_at, uf_ne, up_f, uf_i]) <;> first | assumption | rfl | exact a7.trans hw.1 | exact a8.trans hw.2), (by (try simp (disch := omega) only [wI_at, wI_ne, wF_at, wF_ne, wI_f, wF_i, up_at, up_ne, uf_at, uf_ne, up_f, uf_i]) <;> first | assumption | rfl | exact a7.trans hw.1 | exact a8.trans hw.2), (by (try simp (disch := omega) only [wI_at, wI_ne, wF_at, wF_ne, wI_f, wF_i, up_at, up_ne, uf_at, uf_ne, up_f, uf_i]) <;> first | assumption | rfl | exact a7.trans hw.1 | exact a8.trans hw.2)⟩
  · obtain ⟨⟨a0, a1, a2, a3⟩, ⟨a4, a5, a6, b6, a7⟩, a8, a9, a10, a11, a12⟩ := hJ j' hj'
    rcases Decidable.em (j' = j) with rfl | e <;> exact ⟨⟨(by (try simp (disch := omega) only [wI_at, wI_ne, wF_at, wF_ne, wI_f, wF_i, up_at, up_ne, uf_at, uf_ne, up_f, uf_i]) <;> first | assumption | rfl | exact a7.trans hw.1 | exact a8.trans hw.2), (by (try simp (disch := omega) only [wI_at, wI_ne, wF_at, wF_ne, wI_f, wF_i, up_at, up_ne, uf_at, uf_ne, up_f, uf_i]) <;> first | assumption | rfl | exact a7.trans hw.1 | exact a8.trans hw.2), (by (try simp (disch := omega) only [wI_at, wI_ne, wF_at, wF_ne, wI_f, wF_i, up_at, up_ne, uf_at, uf_ne, up_f, uf_i]) <;> first | assumption | rfl | exact a7.trans hw.1 | exact a8.trans hw.2), (by (try simp (disch := omega) only [wI_at, wI_ne, wF_at, wF_ne, wI_f, wF_i, up_at, up_ne, uf_at, uf_ne, up_f, uf_i]) <;> first | assumption | rfl | exact a7.trans hw.1 | exact a8.trans hw.2)⟩, ⟨(by (try simp (disch := omega) only [wI_at, wI_ne, wF_at, wF_ne, wI_f, wF_i, up_at, up_ne, uf_at, uf_ne, up_f, uf_i]) <;> first | assumption | rfl | exact a7.trans hw.1 | exact a8.trans hw.2), (by (try simp (disch := omega) only [wI_at, wI_ne, wF_at, wF_ne, wI_f, wF_i, up_at, up_ne, uf_at, uf_ne, up_f, uf_i]) <;> first | assumption | rfl | exact a7.trans hw.1 | exact a8.trans hw.2), (by intro z; (try simp (disch := omega) only [wI_at, wI_ne, wF_at, wF_ne, wI_f, wF_i, up_at, up_ne, uf_at, uf_ne, up_f, uf_i] at z) <;> (try simp (disch := omega) only [wI_at, wI_ne, wF_at, wF_ne, wI_f, wF_i, up_at, up_ne, uf_at, uf_ne, up_f, uf_i]) <;> first | exact a6 z | exact absurd z (by decide) | assumption | rfl | exact absurd (z.symm.trans h1) (by decide) | exact a12 (Or.inl h0) | exact a6 h0 | (rcases z with z | z <;> first | exact absurd z (by decide) | exact a6 (Or.inl z) | exact a6 (Or.inr z) | assumption | (simp_all; done))), (by intro z; (try simp (disch := omega) only [wI_at, wI_ne, wF_at, wF_ne, wI_f, wF_i, up_at, up_ne, uf_at, uf_ne, up_f, uf_i] at z) <;> (try simp (disch := omega) only [wI_at, wI_ne, wF_at, wF_ne, wI_f, wF_i, up_at, up_ne, uf_at, uf_ne, up_f, uf_i]) <;> first | exact b6 z | exact absurd z (by decide) | assumption | rfl | exact absurd (z.symm.trans h1) (by decide) | exact a12 (Or.inl h0) | exact a6 h0 | (rcases z with z | z <;> first | exact absurd z (by decide) | exact b6 (Or.inl z) | exact b6 (Or.inr z) | assumption | (simp_all; done))), (by (try simp (disch := omega) only [wI_at, wI_ne, wF_at, wF_ne, wI_f, wF_i, up_at, up_ne, uf_at, uf_ne, up_f, uf_i]) <;> first | assumption | rfl | exact a7.trans hw.1 | exact a8.trans hw.2)⟩, (by (try simp (disch := omega) only [wI_at, wI_ne, wF_at, wF_ne, wI_f, wF_i, up_at, up_ne, uf_at, uf_ne, up_f, uf_i]) <;> first | assumption | rfl | exact a7.trans hw.1 | exact a8.trans hw.2), (by (try simp (disch := omega) only [wI_at, wI_ne, wF_at, wF_ne, wI_f, wF_i, up_at, up_ne, uf_at, uf_ne, up_f, uf_i]) <;> first | assumption | rfl | exact a7.trans hw.1 | exact a8.trans hw.2), (by (try simp (disch := omega) only [wI_at, wI_ne, wF_at, wF_ne, wI_f, wF_i, up_at, up_ne, uf_at, uf_ne, up_f, uf_i]) <;> first | assumption | rfl | exact a7.trans hw.1 | exact a8.trans hw.2), (by (try simp (disch := omega) only [wI_at, wI_ne, wF_at, wF_ne, wI_f, wF_i, up_at, up_ne, uf_at, uf_ne, up_f, uf_i]) <;> first | assumption | rfl | exact a7.trans hw.1 | exact a8.trans hw.2), (by intro z; (try simp (disch := omega) only [wI_at, wI_ne, wF_at, wF_ne, wI_f, wF_i, up_at, up_ne, uf_at, uf_ne, up_f, uf_i] at z) <;> (try simp (disch := omega) only [wI_at, wI_ne, wF_at, wF_ne, wI_f, wF_i, up_at, up_ne, uf_at, uf_ne, up_f, uf_i]) <;> first | exact a12 z | exact absurd z (by decide) | assumption | rfl | exact absurd (z.symm.trans h1) (by decide) | exact a12 (Or.inl h0) | exact a6 h0 | (rcases z with z | z <;> first | exact absurd z (by decide) | exact a12 (Or.inl z) | exact a12 (Or.inr z) | assumption | (simp_all; done)))⟩
  · obtain ⟨w, w1, w2⟩ := hL
    exact ⟨w, w1, (by (try simp (disch := omega) only [wI_at, wI_ne, wF_at, wF_ne, wI_f, wF_i, up_at, up_ne, uf_at, uf_ne, up_f, uf_i]) <;> first | assumption | rfl | exact a7.trans hw.1 | exact a8.trans hw.2)⟩
  · obtain ⟨w, w1, w2⟩ := hH
    exact ⟨w, w1, (by (try simp (disch := omega) only [wI_at, wI_ne, wF_at, wF_ne, wI_f, wF_i, up_at, up_ne, uf_at, uf_ne, up_f, uf_i]) <;> first | assumption | rfl | exact a7.trans hw.1 | exact a8.trans hw.2)⟩
theorem rb_wdr {h : Hp} {M : Mo} {ni nd nj : Nat} (R : Rb h M ni nd nj) (hi : ni ≤ 8) (hd : nd ≤ 4) (hj : nj ≤ 10) (j : Nat) (hjj : j < nj) : Rb (wI (wI h (29 + j) 3 4) (29 + j) 5 (M.1 0 0)) (mWdr M j) ni nd nj := by
  obtain ⟨⟨s5, s6, s7, s8, s9, s10, s11, s3, s4⟩, ⟨n1, n2, n3, n4, n5⟩, hI, hD, hJ, hL, hH, hS⟩ := R
  refine ⟨⟨(by (try simp (disch := omega) only [mWdr, wI_at, wI_ne, wF_at, wF_ne, wI_f, wF_i, up_at, up_ne, uf_at, uf_ne, up_f, uf_i]) <;> first | assumption | rfl | exact a7.trans hw.1 | exact a8.trans hw.2), (by (try simp (disch := omega) only [mWdr, wI_at, wI_ne, wF_at, wF_ne, wI_f, wF_i, up_at, up_ne, uf_at, uf_ne, up_f, uf_i]) <;> first | assumption | rfl | exact a7.trans hw.1 | exact a8.trans hw.2), (by (try simp (disch := omega) only [mWdr, wI_at, wI_ne, wF_at, wF_ne, wI_f, wF_i, up_at, up_ne, uf_at, uf_ne, up_f, uf_i]) <;> first | assumption | rfl | exact a7.trans hw.1 | exact a8.trans hw.2), (by (try simp (disch := omega) only [mWdr, wI_at, wI_ne, wF_at, wF_ne, wI_f, wF_i, up_at, up_ne, uf_at, uf_ne, up_f, uf_i]) <;> first | assumption | rfl | exact a7.trans hw.1 | exact a8.trans hw.2), (by (try simp (disch := omega) only [mWdr, wI_at, wI_ne, wF_at, wF_ne, wI_f, wF_i, up_at, up_ne, uf_at, uf_ne, up_f, uf_i]) <;> first | assumption | rfl | exact a7.trans hw.1 | exact a8.trans hw.2), (by (try simp (disch := omega) only [mWdr, wI_at, wI_ne, wF_at, wF_ne, wI_f, wF_i, up_at, up_ne, uf_at, uf_ne, up_f, uf_i]) <;> first | assumption | rfl | exact a7.trans hw.1 | exact a8.trans hw.2), (by (try simp (disch := omega) only [mWdr, wI_at, wI_ne, wF_at, wF_ne, wI_f, wF_i, up_at, up_ne, uf_at, uf_ne, up_f, uf_i]) <;> first | assumption | rfl | exact a7.trans hw.1 | exact a8.trans hw.2), (by (try simp (disch := omega) only [mWdr, wI_at, wI_ne, wF_at, wF_ne, wI_f, wF_i, up_at, up_ne, uf_at, uf_ne, up_f, uf_i]) <;> first | assumption | rfl | exact a7.trans hw.1 | exact a8.trans hw.2), (by (try simp (disch := omega) only [mWdr, wI_at, wI_ne, wF_at, wF_ne, wI_f, wF_i, up_at, up_ne, uf_at, uf_ne, up_f, uf_i]) <;> first | assumption | rfl | exact a7.trans hw.1 | exact a8.trans hw.2)⟩, ⟨(by (try simp (disch := omega) only [mWdr, wI_at, wI_ne, wF_at, wF_ne, wI_f, wF_i, up_at, up_ne, uf_at, uf_ne, up_f, uf_i]) <;> first | assumption | rfl | exact a7.trans hw.1 | exact a8.trans hw.2), (by (try simp (disch := omega) only [mWdr, wI_at, wI_ne, wF_at, wF_ne, wI_f, wF_i, up_at, up_ne, uf_at, uf_ne, up_f, uf_i]) <;> first | assumption | rfl | exact a7.trans hw.1 | exact a8.trans hw.2), (by (try simp (disch := omega) only [mWdr, wI_at, wI_ne, wF_at, wF_ne, wI_f, wF_i, up_at, up_ne, uf_at, uf_ne, up_f, uf_i]) <;> first | assumption | rfl | exact a7.trans hw.1 | exact a8.trans hw.2), (by (try simp (disch := omega) only [mWdr, wI_at, wI_ne, wF_at, wF_ne, wI_f, wF_i, up_at, up_ne, uf_at, uf_ne, up_f, uf_i]) <;> first | assumption | rfl | exact a7.trans hw.1 | exact a8.trans hw.2), (by (try simp (disch := omega) only [mWdr, wI_at, wI_ne, wF_at, wF_ne, wI_f, wF_i, up_at, up_ne, uf_at, uf_ne, up_f, uf_i]) <;> first | assumption | rfl | exact a7.trans hw.1 | exact a8.trans hw.2)⟩, fun i hi' => ?_, fun k' hk' => ?_, fun j' hj' => ?_, ?_, ?_, hS⟩
  · obtain ⟨a0, a1, a2, a3, a4, ⟨f, f1, f2, f3, f4⟩, a7⟩ := hI i hi'
    exact ⟨(by (try simp (disch := omega) only [mWdr, wI_at, wI_ne, wF_at, wF_ne, wI_f, wF_i, up_at, up_ne, uf_at, uf_ne, up_f, uf_i]) <;> first | assumption | rfl | exact a7.trans hw.1 | exact a8.trans hw.2), (by (try simp (disch := omega) only [mWdr, wI_at, wI_ne, wF_at, wF_ne, wI_f, wF_i, up_at, up_ne, uf_at, uf_ne, up_f, uf_i]) <;> first | assumption | rfl | exact a7.trans hw.1 | exact a8.trans hw.2), (by (try simp (disch := omega) only [mWdr, wI_at, wI_ne, wF_at, wF_ne, wI_f, wF_i, up_at, up_ne, uf_at, uf_ne, up_f, uf_i]) <;> first | assumption | rfl | exact a7.trans hw.1 | exact a8.trans hw.2), (by rw [inD_congr (M := M) i nd (fun q hq => (by (try simp (disch := omega) only [mWdr, wI_at, wI_ne, wF_at, wF_ne, wI_f, wF_i, up_at, up_ne, uf_at, uf_ne, up_f, uf_i]) <;> first | assumption | rfl | exact a7.trans hw.1 | exact a8.trans hw.2))]; (try simp (disch := omega) only [mWdr, wI_at, wI_ne, wF_at, wF_ne, wI_f, wF_i, up_at, up_ne, uf_at, uf_ne, up_f, uf_i]) <;> first | assumption | rfl), (by (try simp (disch := omega) only [mWdr, wI_at, wI_ne, wF_at, wF_ne, wI_f, wF_i, up_at, up_ne, uf_at, uf_ne, up_f, uf_i]) <;> first | assumption | rfl | exact a7.trans hw.1 | exact a8.trans hw.2), ⟨f, f1, (by (try simp (disch := omega) only [mWdr, wI_at, wI_ne, wF_at, wF_ne, wI_f, wF_i, up_at, up_ne, uf_at, uf_ne, up_f, uf_i]) <;> first | assumption | rfl | exact a7.trans hw.1 | exact a8.trans hw.2), (by (try simp (disch := omega) only [mWdr, wI_at, wI_ne, wF_at, wF_ne, wI_f, wF_i, up_at, up_ne, uf_at, uf_ne, up_f, uf_i]) <;> first | assumption | rfl | exact a7.trans hw.1 | exact a8.trans hw.2), (by (try simp (disch := omega) only [mWdr, wI_at, wI_ne, wF_at, wF_ne, wI_f, wF_i, up_at, up_ne, uf_at, uf_ne, up_f, uf_i]) <;> first | assumption | rfl | exact a7.trans hw.1 | exact a8.trans hw.2)⟩, (by (try simp (disch := omega) only [mWdr, wI_at, wI_ne, wF_at, wF_ne, wI_f, wF_i, up_at, up_ne, uf_at, uf_ne, up_f, uf_i]) <;> first | assumption | rfl | exact a7.trans hw.1 | exact a8.trans hw.2)⟩
  · obtain ⟨a0, a1, a2, a3, a4, a5, a6⟩ := hD k' hk'
    exact ⟨(by (try simp (disch := omega) only [mWdr, wI_at, wI_ne, wF_at, wF_ne, wI_f, wF_i, up_at, up_ne, uf_at, uf_ne, up_f, uf_i]) <;> first | assumption | rfl | exact a7.trans hw.1 | exact a8.trans hw.2), (by (try simp (disch := omega) only [mWdr, wI_at, wI_ne, wF_at, wF_ne, wI_f, wF_i, up_at, up_ne, uf_at, uf_ne, up_f, uf_i]) <;> first | assumption | rfl | exact a7.trans hw.1 | exact a8.trans hw.2), (by (try simp (disch := omega) only [mWdr, wI_at, wI_ne, wF_at, wF_ne, wI_f, wF_i, up_at, up_ne, uf_at, uf_ne, up_f, uf_i]) <;> first | assumption | rfl | exact a7.trans hw.1 | exact a8.trans hw.2), (by (try simp (disch := omega) only [mWdr, wI_at, wI_ne, wF_at, wF_ne, wI_f, wF_i, up_at, up_ne, uf_at, uf_ne, up_f, uf_i]) <;> first | assumption | rfl | exact a7.trans hw.1 | exact a8.trans hw.2), (by (try simp (disch := omega) only [mWdr, wI_at, wI_ne, wF_at, wF_ne, wI_f, wF_i, up_at, up_ne, uf_at, uf_ne, up_f, uf_i]) <;> first | assumption | rfl | exact a7.trans hw.1 | exact a8.trans hw.2), (by (try simp (disch := omega) only [mWdr, wI_at, wI_ne, wF_at, wF_ne, wI_f, wF_i, up_at, up_ne, uf_at, uf_ne, up_f, uf_i]) <;> first | assumption | rfl | exact a7.trans hw.1 | exact a8.trans hw.2), (by (try simp (disch := omega) only [mWdr, wI_at, wI_ne, wF_at, wF_ne, wI_f, wF_i, up_at, up_ne, uf_at, uf_ne, up_f, uf_i]) <;> first | assumption | rfl | exact a7.trans hw.1 | exact a8.trans hw.2)⟩
  · obtain ⟨⟨a0, a1, a2, a3⟩, ⟨a4, a5, a6, b6, a7⟩, a8, a9, a10, a11, a12⟩ := hJ j' hj'
    rcases Decidable.em (j' = j) with rfl | e <;> exact ⟨⟨(by (try simp (disch := omega) only [mWdr, wI_at, wI_ne, wF_at, wF_ne, wI_f, wF_i, up_at, up_ne, uf_at, uf_ne, up_f, uf_i]) <;> first | assumption | rfl | exact a7.trans hw.1 | exact a8.trans hw.2), (by (try simp (disch := omega) only [mWdr, wI_at, wI_ne, wF_at, wF_ne, wI_f, wF_i, up_at, up_ne, uf_at, uf_ne, up_f, uf_i]) <;> first | assumption | rfl | exact a7.trans hw.1 | exact a8.trans hw.2), (by (try simp (disch := omega) only [mWdr, wI_at, wI_ne, wF_at, wF_ne, wI_f, wF_i, up_at, up_ne, uf_at, uf_ne, up_f, uf_i]) <;> first | assumption | rfl | exact a7.trans hw.1 | exact a8.trans hw.2), (by (try simp (disch := omega) only [mWdr, wI_at, wI_ne, wF_at, wF_ne, wI_f, wF_i, up_at, up_ne, uf_at, uf_ne, up_f, uf_i]) <;> first | assumption | rfl | exact a7.trans hw.1 | exact a8.trans hw.2)⟩, ⟨(by (try simp (disch := omega) only [mWdr, wI_at, wI_ne, wF_at, wF_ne, wI_f, wF_i, up_at, up_ne, uf_at, uf_ne, up_f, uf_i]) <;> first | assumption | rfl | exact a7.trans hw.1 | exact a8.trans hw.2), (by (try simp (disch := omega) only [mWdr, wI_at, wI_ne, wF_at, wF_ne, wI_f, wF_i, up_at, up_ne, uf_at, uf_ne, up_f, uf_i]) <;> first | assumption | rfl | exact a7.trans hw.1 | exact a8.trans hw.2), (by intro z; (try simp (disch := omega) only [mWdr, wI_at, wI_ne, wF_at, wF_ne, wI_f, wF_i, up_at, up_ne, uf_at, uf_ne, up_f, uf_i] at z) <;> (try simp (disch := omega) only [mWdr, wI_at, wI_ne, wF_at, wF_ne, wI_f, wF_i, up_at, up_ne, uf_at, uf_ne, up_f, uf_i]) <;> first | exact a6 z | exact absurd z (by decide) | assumption | rfl | exact absurd (z.symm.trans h1) (by decide) | exact a12 (Or.inl h0) | exact a6 h0 | (rcases z with z | z <;> first | exact absurd z (by decide) | exact a6 (Or.inl z) | exact a6 (Or.inr z) | assumption | (simp_all; done))), (by intro z; (try simp (disch := omega) only [mWdr, wI_at, wI_ne, wF_at, wF_ne, wI_f, wF_i, up_at, up_ne, uf_at, uf_ne, up_f, uf_i] at z) <;> (try simp (disch := omega) only [mWdr, wI_at, wI_ne, wF_at, wF_ne, wI_f, wF_i, up_at, up_ne, uf_at, uf_ne, up_f, uf_i]) <;> first | exact b6 z | exact absurd z (by decide) | assumption | rfl | exact absurd (z.symm.trans h1) (by decide) | exact a12 (Or.inl h0) | exact a6 h0 | (rcases z with z | z <;> first | exact absurd z (by decide) | exact b6 (Or.inl z) | exact b6 (Or.inr z) | assumption | (simp_all; done))), (by (try simp (disch := omega) only [mWdr, wI_at, wI_ne, wF_at, wF_ne, wI_f, wF_i, up_at, up_ne, uf_at, uf_ne, up_f, uf_i]) <;> first | assumption | rfl | exact a7.trans hw.1 | exact a8.trans hw.2)⟩, (by (try simp (disch := omega) only [mWdr, wI_at, wI_ne, wF_at, wF_ne, wI_f, wF_i, up_at, up_ne, uf_at, uf_ne, up_f, uf_i]) <;> first | assumption | rfl | exact a7.trans hw.1 | exact a8.trans hw.2), (by (try simp (disch := omega) only [mWdr, wI_at, wI_ne, wF_at, wF_ne, wI_f, wF_i, up_at, up_ne, uf_at, uf_ne, up_f, uf_i]) <;> first | assumption | rfl | exact a7.trans hw.1 | exact a8.trans hw.2), (by (try simp (disch := omega) only [mWdr, wI_at, wI_ne, wF_at, wF_ne, wI_f, wF_i, up_at, up_ne, uf_at, uf_ne, up_f, uf_i]) <;> first | assumption | rfl | exact a7.trans hw.1 | exact a8.trans hw.2), (by (try simp (disch := omega) only [mWdr, wI_at, wI_ne, wF_at, wF_ne, wI_f, wF_i, up_at, up_ne, uf_at, uf_ne, up_f, uf_i]) <;> first | assumption | rfl | exact a7.trans hw.1 | exact a8.trans hw.2), (by intro z; (try simp (disch := omega) only [mWdr, wI_at, wI_ne, wF_at, wF_ne, wI_f, wF_i, up_at, up_ne, uf_at, uf_ne, up_f, uf_i] at z) <;> (try simp (disch := omega) only [mWdr, wI_at, wI_ne, wF_at, wF_ne, wI_f, wF_i, up_at, up_ne, uf_at, uf_ne, up_f, uf_i]) <;> first | exact a12 z | exact absurd z (by decide) | assumption | rfl | exact absurd (z.symm.trans h1) (by decide) | exact a12 (Or.inl h0) | exact a6 h0 | (rcases z with z | z <;> first | exact absurd z (by decide) | exact a12 (Or.inl z) | exact a12 (Or.inr z) | assumption | (simp_all; done)))⟩
  · obtain ⟨w, w1, w2⟩ := hL
    exact ⟨w, w1, (by (try simp (disch := omega) only [mWdr, wI_at, wI_ne, wF_at, wF_ne, wI_f, wF_i, up_at, up_ne, uf_at, uf_ne, up_f, uf_i]) <;> first | assumption | rfl | exact a7.trans hw.1 | exact a8.trans hw.2)⟩
  · obtain ⟨w, w1, w2⟩ := hH
    exact ⟨w, w1, (by (try simp (disch := omega) only [mWdr, wI_at, wI_ne, wF_at, wF_ne, wI_f, wF_i, up_at, up_ne, uf_at, uf_ne, up_f, uf_i]) <;> first | assumption | rfl | exact a7.trans hw.1 | exact a8.trans hw.2)⟩
section P41
variable {G : Gl} {h : Hp}
theorem c_putOff_n (x y : Int32) (n : Nat) (hS : Sh h) (hn : h.1 27 1 = nI n) (hx : x < 0 ∨ nI n ≤ x) : Ct G mX9_putOff [ga G 0, .int x, .int y] h 456 456 (dI (-1) h) := by
  refine Ct.of rfl (by simp [Value.category, ga]) (Nat.le_of_ble_eq_true rfl) (Nat.le_refl _) ?_
  show Go _ _ _ _ _ _ _ [some (ga G 0), some (.int x), some (.int y), none, none] []
  refine g_ald0 dX9_putOff_0 ?_
  refine g_getQ fb_9_0 mw_2_95 (by first | assumption | exact lay_item (by omega) | exact lay_drive (by omega) | exact lay_job (by omega) | rfl) (by omega) (sh_now hS) dX9_putOff_1 ?_
  refine g_getQ fb_6_1 mw_2_3 (by first | assumption | exact lay_item (by omega) | exact lay_drive (by omega) | exact lay_job (by omega) | rfl) (by omega) (sh_queue hS) dX9_putOff_4 ?_
  refine g_ild1 dX9_putOff_7 ?_
  refine g_callV1 (c_jobAt_n (h := h) x n hn hx) mw_2_215 ok_X5_jobAt ⟨by decide, by decide⟩ (by first | assumption | exact lay_item (by omega) | exact lay_drive (by omega) | exact lay_job (by omega) | rfl) (by omega) rfl (by omega) (by omega) (Nat.le_of_ble_eq_true rfl) dX9_putOff_8 (dQ_Kn ?_)
  show Go _ _ _ _ _ _ 11 _ _
  refine g_zst3 (by decide) dX9_putOff_11 ?_
  refine g_zld3 dX9_putOff_12 ?_
  refine g_ifnonnullN dX9_putOff_13 ?_
  refine g_iconst (v := -1) dX9_putOff_16 (by decide +kernel) ?_
  exact g_iret rfl dX9_putOff_17 ⟨rfl, rfl⟩
theorem c_putOff_2 (j n : Nat) (y : Int32) (hS : Sh h) (hn : h.1 27 1 = nI n) (hn9 : n ≤ 30) (hj : j < n) (hy : ¬ (0 ≤ y ∧ y ≤ 9999)) : Ct G mX9_putOff [ga G 0, .int (nI j), .int y] h 456 456 (dI (-2) h) := by
  refine Ct.of rfl (by simp [Value.category, ga]) (Nat.le_of_ble_eq_true rfl) (Nat.le_refl _) ?_
  show Go _ _ _ _ _ _ _ [some (ga G 0), some (.int (nI j)), some (.int y), none, none] []
  refine g_ald0 dX9_putOff_0 ?_
  refine g_getQ fb_9_0 mw_2_95 (by first | assumption | exact lay_item (by omega) | exact lay_drive (by omega) | exact lay_job (by omega) | rfl) (by omega) (sh_now hS) dX9_putOff_1 ?_
  refine g_getQ fb_6_1 mw_2_3 (by first | assumption | exact lay_item (by omega) | exact lay_drive (by omega) | exact lay_job (by omega) | rfl) (by omega) (sh_queue hS) dX9_putOff_4 ?_
  refine g_ild1 dX9_putOff_7 ?_
  refine g_callV1 (c_jobAt (h := h) j n hS.1 hn hn9 hj) mw_2_215 ok_X5_jobAt ⟨by decide, by decide⟩ (by first | assumption | exact lay_item (by omega) | exact lay_drive (by omega) | exact lay_job (by omega) | rfl) (by omega) rfl (by omega) (by omega) (Nat.le_of_ble_eq_true rfl) dX9_putOff_8 (dQ_K ?_)
  show Go _ _ _ _ _ _ 11 _ _
  refine g_ast3 (by decide) dX9_putOff_11 ?_
  refine g_ald3 dX9_putOff_12 ?_
  refine g_ifnonnull (tgt := 18) dX9_putOff_13 (by decide) ?_
  refine g_ild2 dX9_putOff_18 ?_
  refine g_iconst (v := nI 0) dX9_putOff_19 (by decide +kernel) ?_
  refine g_sipush (v := nI 9999) dX9_putOff_20 (by decide +kernel) ?_
  show Go _ _ _ _ _ _ 23 _ _
  refine g_callS3 (c_isFrom (h := h) y 0 9999) mw_2_133 ok_X9_isFrom ⟨by decide, by decide⟩ (by omega) (by omega) (Nat.le_of_ble_eq_true rfl) dX9_putOff_23 (dI_K ?_)
  rw [if_neg hy]
  refine g_if_ne_f (tgt := 32) dX9_putOff_26 (by decide) (by decide) ?_
  refine g_bipush (v := -2) dX9_putOff_29 (by decide +kernel) ?_
  exact g_iret rfl dX9_putOff_31 ⟨rfl, rfl⟩
theorem c_putOff (M : Mo) (ni nd nj j : Nat) (y : Int32) (hR : Rb h M ni nd nj) (hi : ni ≤ 8) (hd : nd ≤ 4) (hj : nj ≤ 10) (hC : Icl M ni) (hj9 : j < nj) (hy : 0 ≤ y ∧ y ≤ 9999) : Ct G mX9_putOff [ga G 0, .int (nI j), .int y] h 456 456 (rI (fun r h' => r = (mPutO M j y).2 ∧ Rb h' (mPutO M j y).1 ni nd nj ∧ KL h h')) := by
  obtain ⟨-, ⟨-, -, hn, -⟩, -, -, hJ, -, hH, hS⟩ := id hR
  obtain ⟨⟨f0, f1, f2, f3⟩, -, -, -, -, f11, -⟩ := hJ j hj9
  refine Ct.of rfl (by simp [Value.category, ga]) (Nat.le_of_ble_eq_true rfl) (Nat.le_refl _) ?_
  show Go _ _ _ _ _ _ _ [some (ga G 0), some (.int (nI j)), some (.int y), none, none] []
  by_cases c : M.1 3 (6 * j + 3) = 0
  · by_cases c2 : M.1 4 (6 * j + 3) = y
    · have e : mPutO M j y = (M, -5) := by unfold mPutO; rw [if_pos c, if_pos c2]
      rw [e]
      refine g_ald0 dX9_putOff_0 ?_
      refine g_getQ fb_9_0 mw_2_95 (by first | assumption | exact lay_item (by omega) | exact lay_drive (by omega) | exact lay_job (by omega) | rfl) (by omega) (sh_now hS) dX9_putOff_1 ?_
      refine g_getQ fb_6_1 mw_2_3 (by first | assumption | exact lay_item (by omega) | exact lay_drive (by omega) | exact lay_job (by omega) | rfl) (by omega) (sh_queue hS) dX9_putOff_4 ?_
      refine g_ild1 dX9_putOff_7 ?_
      refine g_callV1 (c_jobAt (h := h) j nj hS.1 hn (by omega) hj9) mw_2_215 ok_X5_jobAt ⟨by decide, by decide⟩ (by first | assumption | exact lay_item (by omega) | exact lay_drive (by omega) | exact lay_job (by omega) | rfl) (by omega) rfl (by omega) (by omega) (Nat.le_of_ble_eq_true rfl) dX9_putOff_8 (dQ_K ?_)
      show Go _ _ _ _ _ _ 11 _ _
      refine g_ast3 (by decide) dX9_putOff_11 ?_
      refine g_ald3 dX9_putOff_12 ?_
      refine g_ifnonnull (tgt := 18) dX9_putOff_13 (by decide) ?_
      refine g_ild2 dX9_putOff_18 ?_
      refine g_iconst (v := nI 0) dX9_putOff_19 (by decide +kernel) ?_
      refine g_sipush (v := nI 9999) dX9_putOff_20 (by decide +kernel) ?_
      show Go _ _ _ _ _ _ 23 _ _
      refine g_callS3 (c_isFrom (h := h) y 0 9999) mw_2_133 ok_X9_isFrom ⟨by decide, by decide⟩ (by omega) (by omega) (Nat.le_of_ble_eq_true rfl) dX9_putOff_23 (dI_K ?_)
      rw [if_pos hy]
      refine g_if_ne_t (tgt := 32) dX9_putOff_26 (by decide) (by decide) ?_
      refine g_ald3 dX9_putOff_32 ?_
      refine g_getI_a fb_3_3 mw_1_149 (by first | assumption | exact lay_item (by omega) | exact lay_drive (by omega) | exact lay_job (by omega) | rfl) (by omega) dX9_putOff_33 (fun xx33 ee33 => ?_)
      obtain rfl : xx33 = (0 : Int32) := ee33.symm.trans (f3.trans c)
      refine g_if_eq_t (tgt := 42) dX9_putOff_36 (by decide) rfl ?_
      refine g_ald3 dX9_putOff_42 ?_
      show Go _ _ _ _ _ _ 43 _ _
      refine g_getI_a fb_3_11 mw_1_167 (by first | assumption | exact lay_item (by omega) | exact lay_drive (by omega) | exact lay_job (by omega) | rfl) (by omega) dX9_putOff_43 (fun xx43 ee43 => ?_)
      obtain rfl : xx43 = y := ee43.symm.trans (f11.trans c2)
      refine g_ist4 (by decide) dX9_putOff_46 ?_
      refine g_ild4 dX9_putOff_48 ?_
      refine g_ild2 dX9_putOff_50 ?_
      refine g_icmp_ne_f (tgt := 57) dX9_putOff_51 (by decide) rfl ?_
      refine g_bipush (v := -5) dX9_putOff_54 (by decide +kernel) ?_
      show Go _ _ _ _ _ _ 56 _ _
      exact g_iret rfl dX9_putOff_56 ⟨-5, rfl, rfl, hR, KL.rf h⟩
    · have e : mPutO M j y = (up M 4 (6 * j + 3) y, M.1 4 (6 * j + 3)) := by unfold mPutO; rw [if_pos c, if_neg c2]
      rw [e]
      refine g_ald0 dX9_putOff_0 ?_
      refine g_getQ fb_9_0 mw_2_95 (by first | assumption | exact lay_item (by omega) | exact lay_drive (by omega) | exact lay_job (by omega) | rfl) (by omega) (sh_now hS) dX9_putOff_1 ?_
      refine g_getQ fb_6_1 mw_2_3 (by first | assumption | exact lay_item (by omega) | exact lay_drive (by omega) | exact lay_job (by omega) | rfl) (by omega) (sh_queue hS) dX9_putOff_4 ?_
      refine g_ild1 dX9_putOff_7 ?_
      refine g_callV1 (c_jobAt (h := h) j nj hS.1 hn (by omega) hj9) mw_2_215 ok_X5_jobAt ⟨by decide, by decide⟩ (by first | assumption | exact lay_item (by omega) | exact lay_drive (by omega) | exact lay_job (by omega) | rfl) (by omega) rfl (by omega) (by omega) (Nat.le_of_ble_eq_true rfl) dX9_putOff_8 (dQ_K ?_)
      show Go _ _ _ _ _ _ 11 _ _
      refine g_ast3 (by decide) dX9_putOff_11 ?_
      refine g_ald3 dX9_putOff_12 ?_
      refine g_ifnonnull (tgt := 18) dX9_putOff_13 (by decide) ?_
      refine g_ild2 dX9_putOff_18 ?_
      refine g_iconst (v := nI 0) dX9_putOff_19 (by decide +kernel) ?_
      refine g_sipush (v := nI 9999) dX9_putOff_20 (by decide +kernel) ?_
      show Go _ _ _ _ _ _ 23 _ _
      refine g_callS3 (c_isFrom (h := h) y 0 9999) mw_2_133 ok_X9_isFrom ⟨by decide, by decide⟩ (by omega) (by omega) (Nat.le_of_ble_eq_true rfl) dX9_putOff_23 (dI_K ?_)
      rw [if_pos hy]
      refine g_if_ne_t (tgt := 32) dX9_putOff_26 (by decide) (by decide) ?_
      refine g_ald3 dX9_putOff_32 ?_
      refine g_getI_a fb_3_3 mw_1_149 (by first | assumption | exact lay_item (by omega) | exact lay_drive (by omega) | exact lay_job (by omega) | rfl) (by omega) dX9_putOff_33 (fun xx33 ee33 => ?_)
      obtain rfl : xx33 = (0 : Int32) := ee33.symm.trans (f3.trans c)
      refine g_if_eq_t (tgt := 42) dX9_putOff_36 (by decide) rfl ?_
      refine g_ald3 dX9_putOff_42 ?_
      show Go _ _ _ _ _ _ 43 _ _
      refine g_getI_a fb_3_11 mw_1_167 (by first | assumption | exact lay_item (by omega) | exact lay_drive (by omega) | exact lay_job (by omega) | rfl) (by omega) dX9_putOff_43 (fun xx43 ee43 => ?_)
      obtain rfl : xx43 = (M.1 4 (6 * j + 3)) := ee43.symm.trans f11
      refine g_ist4 (by decide) dX9_putOff_46 ?_
      refine g_ild4 dX9_putOff_48 ?_
      refine g_ild2 dX9_putOff_50 ?_
      refine g_icmp_ne_t (tgt := 57) dX9_putOff_51 (by decide) c2 ?_
      refine g_ald0 dX9_putOff_57 ?_
      show Go _ _ _ _ _ _ 58 _ _
      refine g_getQ fb_9_1 mw_2_96 (by first | assumption | exact lay_item (by omega) | exact lay_drive (by omega) | exact lay_job (by omega) | rfl) (by omega) (sh_hist hS) dX9_putOff_58 ?_
      refine g_ald0 dX9_putOff_61 ?_
      refine g_getQ fb_9_0 mw_2_95 (by first | assumption | exact lay_item (by omega) | exact lay_drive (by omega) | exact lay_job (by omega) | rfl) (by omega) (sh_now hS) dX9_putOff_62 ?_
      refine g_callV1 (c_record (h := h) hS (hR.cn hi hd hj hC) hH) mw_3_79 ok_X1_record ⟨by decide, by decide⟩ (by first | assumption | exact lay_item (by omega) | exact lay_drive (by omega) | exact lay_job (by omega) | rfl) (by omega) rfl (by omega) (by omega) (Nat.le_of_ble_eq_true rfl) dX9_putOff_65 (rV_K ?_)
      intro h1 k1
      refine g_ald3 dX9_putOff_68 ?_
      refine g_ild2 dX9_putOff_69 ?_
      show Go _ _ _ _ _ _ 70 _ _
      refine g_putI fb_3_11 mw_1_167 (by first | assumption | exact lay_item (by omega) | exact lay_drive (by omega) | exact lay_job (by omega) | rfl) (by omega) rfl rfl dX9_putOff_70 ?_
      refine g_ild4 dX9_putOff_73 ?_
      exact g_iret rfl dX9_putOff_75 ⟨_, rfl, rfl, rb_until (hR.kp hi hd hj k1) hi hd hj j hj9 y, KL.wI (by omega) (KL.kp k1)⟩
  · have e : mPutO M j y = (M, -4) := by unfold mPutO; rw [if_neg c]
    rw [e]
    refine g_ald0 dX9_putOff_0 ?_
    refine g_getQ fb_9_0 mw_2_95 (by first | assumption | exact lay_item (by omega) | exact lay_drive (by omega) | exact lay_job (by omega) | rfl) (by omega) (sh_now hS) dX9_putOff_1 ?_
    refine g_getQ fb_6_1 mw_2_3 (by first | assumption | exact lay_item (by omega) | exact lay_drive (by omega) | exact lay_job (by omega) | rfl) (by omega) (sh_queue hS) dX9_putOff_4 ?_
    refine g_ild1 dX9_putOff_7 ?_
    refine g_callV1 (c_jobAt (h := h) j nj hS.1 hn (by omega) hj9) mw_2_215 ok_X5_jobAt ⟨by decide, by decide⟩ (by first | assumption | exact lay_item (by omega) | exact lay_drive (by omega) | exact lay_job (by omega) | rfl) (by omega) rfl (by omega) (by omega) (Nat.le_of_ble_eq_true rfl) dX9_putOff_8 (dQ_K ?_)
    show Go _ _ _ _ _ _ 11 _ _
    refine g_ast3 (by decide) dX9_putOff_11 ?_
    refine g_ald3 dX9_putOff_12 ?_
    refine g_ifnonnull (tgt := 18) dX9_putOff_13 (by decide) ?_
    refine g_ild2 dX9_putOff_18 ?_
    refine g_iconst (v := nI 0) dX9_putOff_19 (by decide +kernel) ?_
    refine g_sipush (v := nI 9999) dX9_putOff_20 (by decide +kernel) ?_
    show Go _ _ _ _ _ _ 23 _ _
    refine g_callS3 (c_isFrom (h := h) y 0 9999) mw_2_133 ok_X9_isFrom ⟨by decide, by decide⟩ (by omega) (by omega) (Nat.le_of_ble_eq_true rfl) dX9_putOff_23 (dI_K ?_)
    rw [if_pos hy]
    refine g_if_ne_t (tgt := 32) dX9_putOff_26 (by decide) (by decide) ?_
    refine g_ald3 dX9_putOff_32 ?_
    refine g_getI_a fb_3_3 mw_1_149 (by first | assumption | exact lay_item (by omega) | exact lay_drive (by omega) | exact lay_job (by omega) | rfl) (by omega) dX9_putOff_33 (fun xx33 ee33 => ?_)
    obtain rfl : xx33 = (M.1 3 (6 * j + 3)) := ee33.symm.trans f3
    refine g_if_eq_f (tgt := 42) dX9_putOff_36 (by decide) c ?_
    refine g_bipush (v := -4) dX9_putOff_39 (by decide +kernel) ?_
    show Go _ _ _ _ _ _ 41 _ _
    exact g_iret rfl dX9_putOff_41 ⟨-4, rfl, rfl, hR, KL.rf h⟩
theorem c_withdraw_n (x : Int32) (n : Nat) (hS : Sh h) (hn : h.1 27 1 = nI n) (hx : x < 0 ∨ nI n ≤ x) : Ct G mX9_withdraw [ga G 0, .int x] h 456 456 (dI (-1) h) := by
  refine Ct.of rfl (by simp [Value.category, ga]) (Nat.le_of_ble_eq_true rfl) (Nat.le_refl _) ?_
  show Go _ _ _ _ _ _ _ [some (ga G 0), some (.int x), none] []
  refine g_ald0 dX9_withdraw_0 ?_
  refine g_getQ fb_9_0 mw_2_95 (by first | assumption | exact lay_item (by omega) | exact lay_drive (by omega) | exact lay_job (by omega) | rfl) (by omega) (sh_now hS) dX9_withdraw_1 ?_
  refine g_getQ fb_6_1 mw_2_3 (by first | assumption | exact lay_item (by omega) | exact lay_drive (by omega) | exact lay_job (by omega) | rfl) (by omega) (sh_queue hS) dX9_withdraw_4 ?_
  refine g_ild1 dX9_withdraw_7 ?_
  refine g_callV1 (c_jobAt_n (h := h) x n hn hx) mw_2_215 ok_X5_jobAt ⟨by decide, by decide⟩ (by first | assumption | exact lay_item (by omega) | exact lay_drive (by omega) | exact lay_job (by omega) | rfl) (by omega) rfl (by omega) (by omega) (Nat.le_of_ble_eq_true rfl) dX9_withdraw_8 (dQ_Kn ?_)
  show Go _ _ _ _ _ _ 11 _ _
  refine g_zst2 (by decide) dX9_withdraw_11 ?_
  refine g_zld2 dX9_withdraw_12 ?_
  refine g_ifnonnullN dX9_withdraw_13 ?_
  refine g_iconst (v := -1) dX9_withdraw_16 (by decide +kernel) ?_
  exact g_iret rfl dX9_withdraw_17 ⟨rfl, rfl⟩
theorem c_withdraw_4 (M : Mo) (ni nd nj j : Nat) (hR : Rb h M ni nd nj) (hj : nj ≤ 10) (hj9 : j < nj) (c : ¬ M.1 3 (6 * j + 3) = 0) : Ct G mX9_withdraw [ga G 0, .int (nI j)] h 456 456 (dI (-4) h) := by
  obtain ⟨-, ⟨-, -, hn, -⟩, -, -, hJ, -, hH, hS⟩ := id hR
  obtain ⟨⟨f0, f1, f2, f3⟩, -, -, -, -, f11, -⟩ := hJ j hj9
  refine Ct.of rfl (by simp [Value.category, ga]) (Nat.le_of_ble_eq_true rfl) (Nat.le_refl _) ?_
  show Go _ _ _ _ _ _ _ [some (ga G 0), some (.int (nI j)), none] []
  refine g_ald0 dX9_withdraw_0 ?_
  refine g_getQ fb_9_0 mw_2_95 (by first | assumption | exact lay_item (by omega) | exact lay_drive (by omega) | exact lay_job (by omega) | rfl) (by omega) (sh_now hS) dX9_withdraw_1 ?_
  refine g_getQ fb_6_1 mw_2_3 (by first | assumption | exact lay_item (by omega) | exact lay_drive (by omega) | exact lay_job (by omega) | rfl) (by omega) (sh_queue hS) dX9_withdraw_4 ?_
  refine g_ild1 dX9_withdraw_7 ?_
  refine g_callV1 (c_jobAt (h := h) j nj hS.1 hn (by omega) hj9) mw_2_215 ok_X5_jobAt ⟨by decide, by decide⟩ (by first | assumption | exact lay_item (by omega) | exact lay_drive (by omega) | exact lay_job (by omega) | rfl) (by omega) rfl (by omega) (by omega) (Nat.le_of_ble_eq_true rfl) dX9_withdraw_8 (dQ_K ?_)
  show Go _ _ _ _ _ _ 11 _ _
  refine g_ast2 (by decide) dX9_withdraw_11 ?_
  refine g_ald2 dX9_withdraw_12 ?_
  refine g_ifnonnull (tgt := 18) dX9_withdraw_13 (by decide) ?_
  refine g_ald2 dX9_withdraw_18 ?_
  refine g_getI_a fb_3_3 mw_1_149 (by first | assumption | exact lay_item (by omega) | exact lay_drive (by omega) | exact lay_job (by omega) | rfl) (by omega) dX9_withdraw_19 (fun xx19 ee19 => ?_)
  obtain rfl : xx19 = (M.1 3 (6 * j + 3)) := ee19.symm.trans f3
  refine g_if_eq_f (tgt := 28) dX9_withdraw_22 (by decide) c ?_
  show Go _ _ _ _ _ _ 25 _ _
  refine g_bipush (v := -4) dX9_withdraw_25 (by decide +kernel) ?_
  exact g_iret rfl dX9_withdraw_27 ⟨rfl, rfl⟩
theorem c_withdraw (M : Mo) (ni nd nj j : Nat) (hR : Rb h M ni nd nj) (hi : ni ≤ 8) (hd : nd ≤ 4) (hj : nj ≤ 10) (hC : Icl M ni) (hj9 : j < nj) (c : M.1 3 (6 * j + 3) = 0) : Ct G mX9_withdraw [ga G 0, .int (nI j)] h 456 456 (rI (fun r h' => r = cnI (fun q => (mWdr M j).1 3 (6 * q + 3) = 0) nj ∧ Rb h' (mWdr M j) ni nd nj ∧ KL h h')) := by
  obtain ⟨⟨s5, -⟩, ⟨-, -, hn, -⟩, -, -, hJ, -, hH, hS⟩ := id hR
  obtain ⟨⟨f0, f1, f2, f3⟩, -, -, -, -, f11, -⟩ := hJ j hj9
  refine Ct.of rfl (by simp [Value.category, ga]) (Nat.le_of_ble_eq_true rfl) (Nat.le_refl _) ?_
  show Go _ _ _ _ _ _ _ [some (ga G 0), some (.int (nI j)), none] []
  refine g_ald0 dX9_withdraw_0 ?_
  refine g_getQ fb_9_0 mw_2_95 (by first | assumption | exact lay_item (by omega) | exact lay_drive (by omega) | exact lay_job (by omega) | rfl) (by omega) (sh_now hS) dX9_withdraw_1 ?_
  refine g_getQ fb_6_1 mw_2_3 (by first | assumption | exact lay_item (by omega) | exact lay_drive (by omega) | exact lay_job (by omega) | rfl) (by omega) (sh_queue hS) dX9_withdraw_4 ?_
  refine g_ild1 dX9_withdraw_7 ?_
  refine g_callV1 (c_jobAt (h := h) j nj hS.1 hn (by omega) hj9) mw_2_215 ok_X5_jobAt ⟨by decide, by decide⟩ (by first | assumption | exact lay_item (by omega) | exact lay_drive (by omega) | exact lay_job (by omega) | rfl) (by omega) rfl (by omega) (by omega) (Nat.le_of_ble_eq_true rfl) dX9_withdraw_8 (dQ_K ?_)
  show Go _ _ _ _ _ _ 11 _ _
  refine g_ast2 (by decide) dX9_withdraw_11 ?_
  refine g_ald2 dX9_withdraw_12 ?_
  refine g_ifnonnull (tgt := 18) dX9_withdraw_13 (by decide) ?_
  refine g_ald2 dX9_withdraw_18 ?_
  refine g_getI_a fb_3_3 mw_1_149 (by first | assumption | exact lay_item (by omega) | exact lay_drive (by omega) | exact lay_job (by omega) | rfl) (by omega) dX9_withdraw_19 (fun xx19 ee19 => ?_)
  obtain rfl : xx19 = (0 : Int32) := ee19.symm.trans (f3.trans c)
  refine g_if_eq_t (tgt := 28) dX9_withdraw_22 (by decide) rfl ?_
  show Go _ _ _ _ _ _ 28 _ _
  refine g_ald0 dX9_withdraw_28 ?_
  refine g_getQ fb_9_1 mw_2_96 (by first | assumption | exact lay_item (by omega) | exact lay_drive (by omega) | exact lay_job (by omega) | rfl) (by omega) (sh_hist hS) dX9_withdraw_29 ?_
  refine g_ald0 dX9_withdraw_32 ?_
  refine g_getQ fb_9_0 mw_2_95 (by first | assumption | exact lay_item (by omega) | exact lay_drive (by omega) | exact lay_job (by omega) | rfl) (by omega) (sh_now hS) dX9_withdraw_33 ?_
  refine g_callV1 (c_record (h := h) hS (hR.cn hi hd hj hC) hH) mw_3_79 ok_X1_record ⟨by decide, by decide⟩ (by first | assumption | exact lay_item (by omega) | exact lay_drive (by omega) | exact lay_job (by omega) | rfl) (by omega) rfl (by omega) (by omega) (Nat.le_of_ble_eq_true rfl) dX9_withdraw_36 (rV_K ?_)
  intro h1 k1
  have hS1 := k1.2.1
  have R1 := hR.kp hi hd hj k1
  have R2 := rb_wdr R1 hi hd hj j hj9
  obtain ⟨⟨t5, -⟩, -⟩ := id R1
  refine g_ald2 dX9_withdraw_39 ?_
  show Go _ _ _ _ _ _ 40 _ _
  refine g_iconst (v := nI 4) dX9_withdraw_40 (by decide +kernel) ?_
  refine g_putI fb_3_3 mw_1_149 (by first | assumption | exact lay_item (by omega) | exact lay_drive (by omega) | exact lay_job (by omega) | rfl) (by omega) rfl rfl dX9_withdraw_41 ?_
  refine g_ald2 dX9_withdraw_44 ?_
  refine g_ald0 dX9_withdraw_45 ?_
  refine g_getQ fb_9_0 mw_2_95 (by first | assumption | exact lay_item (by omega) | exact lay_drive (by omega) | exact lay_job (by omega) | rfl) (by omega) (sh_now hS1) dX9_withdraw_46 ?_
  refine g_getI_a fb_6_5 mw_2_10 (by first | assumption | exact lay_item (by omega) | exact lay_drive (by omega) | exact lay_job (by omega) | rfl) (by omega) dX9_withdraw_49 (fun xx49 ee49 => ?_)
  obtain rfl : xx49 = (M.1 0 0) := ee49.symm.trans (by (try simp (disch := omega) only [wI_at, wI_ne, wF_at, wF_ne, wI_f, wF_i]) <;> first | exact t5 | rfl)
  show Go _ _ _ _ _ _ 52 _ _
  refine g_putI fb_3_5 mw_1_153 (by first | assumption | exact lay_item (by omega) | exact lay_drive (by omega) | exact lay_job (by omega) | rfl) (by omega) rfl rfl dX9_withdraw_52 ?_
  refine g_ald0 dX9_withdraw_55 ?_
  refine g_getQ fb_9_0 mw_2_95 (by first | assumption | exact lay_item (by omega) | exact lay_drive (by omega) | exact lay_job (by omega) | rfl) (by omega) (sh_now hS1) dX9_withdraw_56 ?_
  refine g_getQ fb_6_1 mw_2_3 (by first | assumption | exact lay_item (by omega) | exact lay_drive (by omega) | exact lay_job (by omega) | rfl) (by omega) (sh_queue hS1) dX9_withdraw_59 ?_
  refine g_iconst (v := nI 0) dX9_withdraw_62 (by decide +kernel) ?_
  refine g_callV1 (c_jobsInState 0 nj hS1.1 R2.2.1.2.2.1 (by omega)) mw_2_230 ok_X5_jobsInState ⟨by decide, by decide⟩ (by first | assumption | exact lay_item (by omega) | exact lay_drive (by omega) | exact lay_job (by omega) | rfl) (by omega) rfl (by omega) (by omega) (Nat.le_of_ble_eq_true rfl) dX9_withdraw_63 (dI_K ?_)
  show Go _ _ _ _ _ _ 66 _ _
  exact g_iret rfl dX9_withdraw_66 ⟨_, rfl, cnI_c nj (fun q hq => by rw [← (R2.2.2.2.2.1 q hq).1.2.2.2]; exact Iff.rfl), R2, KL.wI (by omega) (KL.wI (by omega) (KL.kp k1))⟩
end P41
