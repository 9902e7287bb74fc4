/-! ===== a job given keeps what holds ===== -/
section P44
variable {M : Mo} {ni nd nj T kd q : Nat} {s : Int32}
theorem inv_give (hI : Inv M ni nd nj T) (hX : Xn M ni nd nj) (hj : nj < 10) (hq : q < 1000) (hF : Flt M ni nd kd q s (-5)) : Inv (mGive M nj (nI kd) (nI q) s) ni nd (nj + 1) T ∧ Xn (mGive M nj (nI kd) (nI q) s) ni nd (nj + 1) := by
  have hN : Nz (mGive M nj (nI kd) (nI q) s) ni nd := by
    unfold mGive
    exact nz_up0 _ _ (nz_up4 _ _ (nz_up4 _ _ (nz_up4 _ _ (nz_up4 _ _ (nz_up4 _ _ (nz_up4 _ _ (nz_up3 _ _ (nz_up3 _ _ (nz_up3 _ _ (nz_up3 _ _ (nz_up3 _ _ (nz_up3 _ _ hX.2.1))))))))))))
  have h5 := hX.2.2
  have n4 : (mGive M nj (nI kd) (nI q) s).1 3 (6 * nj + 4) = -5 := by simp (disch := omega) only [mGive, up_ne, up_at]
  obtain ⟨hIS, hSm, hJw, hAm, hNc, h00, hP⟩ := hI
  obtain ⟨⟨hi, hd, hj10⟩, hp, hH, hC, hf, hu, hJb, hsl⟩ := id hIS
  obtain ⟨⟨z1, z2, z3, z4, z5, z6⟩, hFk, hMd, hUn⟩ := hX.1
  have e0 : ∀ k, k ≠ 11 → (mGive M nj (nI kd) (nI q) s).1 0 k = M.1 0 k := fun k hk => by simp (disch := omega) only [mGive, up_ne]
  have e1 : (mGive M nj (nI kd) (nI q) s).1 1 = M.1 1 := funext fun k => by simp (disch := omega) only [mGive, up_ne]
  have e2 : (mGive M nj (nI kd) (nI q) s).1 2 = M.1 2 := funext fun k => by simp (disch := omega) only [mGive, up_ne]
  have e3 : ∀ k, k < 6 * nj → (mGive M nj (nI kd) (nI q) s).1 3 k = M.1 3 k := fun k hk => by simp (disch := omega) only [mGive, up_ne]
  have e4 : ∀ k, k < 6 * nj → (mGive M nj (nI kd) (nI q) s).1 4 k = M.1 4 k := fun k hk => by simp (disch := omega) only [mGive, up_ne]
  have e5 : (mGive M nj (nI kd) (nI q) s).1 5 = M.1 5 := funext fun k => by simp (disch := omega) only [mGive, up_ne]
  have n0 : (mGive M nj (nI kd) (nI q) s).1 3 (6 * nj) = nI kd := by simp (disch := omega) only [mGive, up_ne, up_at]
  have n1 : (mGive M nj (nI kd) (nI q) s).1 3 (6 * nj + 1) = nI q := by simp (disch := omega) only [mGive, up_ne, up_at]
  have n2 : (mGive M nj (nI kd) (nI q) s).1 3 (6 * nj + 2) = s := by simp (disch := omega) only [mGive, up_ne, up_at]
  have n3 : (mGive M nj (nI kd) (nI q) s).1 3 (6 * nj + 3) = nI 0 := by simp (disch := omega) only [mGive, up_ne, up_at]
  have n5 : (mGive M nj (nI kd) (nI q) s).1 3 (6 * nj + 5) = -5 := by simp (disch := omega) only [mGive, up_ne, up_at]
  have b0 : (mGive M nj (nI kd) (nI q) s).1 4 (6 * nj) = -5 := by simp (disch := omega) only [mGive, up_ne, up_at]
  have b1 : (mGive M nj (nI kd) (nI q) s).1 4 (6 * nj + 1) = -5 := by simp (disch := omega) only [mGive, up_ne, up_at]
  have b3 : (mGive M nj (nI kd) (nI q) s).1 4 (6 * nj + 3) = nI 0 := by simp (disch := omega) only [mGive, up_ne, up_at]
  have b11 : (mGive M nj (nI kd) (nI q) s).1 0 11 = nI (nj + 1) := up_at
  have hold : ∀ n, n < nj → (mGive M nj (nI kd) (nI q) s).1 3 (6 * n) = M.1 3 (6 * n) ∧ (mGive M nj (nI kd) (nI q) s).1 3 (6 * n + 1) = M.1 3 (6 * n + 1) ∧ (mGive M nj (nI kd) (nI q) s).1 3 (6 * n + 2) = M.1 3 (6 * n + 2) ∧ (mGive M nj (nI kd) (nI q) s).1 3 (6 * n + 3) = M.1 3 (6 * n + 3) ∧ (mGive M nj (nI kd) (nI q) s).1 3 (6 * n + 4) = M.1 3 (6 * n + 4) ∧ (mGive M nj (nI kd) (nI q) s).1 3 (6 * n + 5) = M.1 3 (6 * n + 5) ∧ (mGive M nj (nI kd) (nI q) s).1 4 (6 * n) = M.1 4 (6 * n) ∧ (mGive M nj (nI kd) (nI q) s).1 4 (6 * n + 1) = M.1 4 (6 * n + 1) ∧ (mGive M nj (nI kd) (nI q) s).1 4 (6 * n + 3) = M.1 4 (6 * n + 3) := fun n hn => ⟨e3 _ (by omega), e3 _ (by omega), e3 _ (by omega), e3 _ (by omega), e3 _ (by omega), e3 _ (by omega), e4 _ (by omega), e4 _ (by omega), e4 _ (by omega)⟩
  have ep : pl (mGive M nj (nI kd) (nI q) s) = pl M := by unfold pl; rw [e0 1 (by omega)]
  have ef : (mGive M nj (nI kd) (nI q) s).2 = M.2 := rfl
  generalize mGive M nj (nI kd) (nI q) s = S at *
  refine ⟨⟨⟨⟨hi, hd, by omega⟩, ?_, ?_, ?_, ?_, ?_, fun n hn => ?_, ?_⟩, ?_, fun n hn => ?_, ?_, fun n hn => ?_, (e0 0 (by omega)).trans h00, ?_⟩, ⟨⟨(e0 9 (by omega)).trans z1, z2, (e0 10 (by omega)).trans z3, z4, b11, by omega⟩, ?_, fun n hn z => ?_, fun n hn => ?_⟩, hN, fun n hn z => ?_⟩
  · unfold Ip; rw [ep, e0 1 (by omega)]; exact hp
  · unfold Ihm hm; rw [e1]; exact hH
  · unfold Icl; rw [e1]; exact hC
  · unfold Ifl; rw [ef]; exact hf
  · unfold Iu; rw [e1]; exact hu
  · by_cases c : n < nj
    · rw [(hold n c).1, (hold n c).2.1, (hold n c).2.2.1]; exact hJb n c
    · obtain rfl : n = nj := by omega
      rw [n0, n1, n2]
      rcases hF with ⟨-, -, y⟩ | ⟨-, -, -, y⟩ | ⟨rfl, hq2, -, -⟩ | ⟨-, -, y⟩ | ⟨rfl, hq2, -⟩ | ⟨-, -, y⟩ | ⟨-, -, -, y⟩ | ⟨rfl, hq2, ⟨t, ht, rfl⟩, -⟩
      · exact absurd y (by decide)
      · exact absurd y (by decide)
      · exact Or.inl ⟨rfl, q, hq2, rfl⟩
      · exact absurd y (by decide)
      · exact Or.inr (Or.inl ⟨rfl, q, hq2, rfl⟩)
      · exact absurd y (by decide)
      · exact absurd y (by decide)
      · exact Or.inr (Or.inr ⟨rfl, ⟨q, hq2, rfl⟩, t, ht, rfl⟩)
  · unfold Isl; rw [e2]; exact hsl
  · unfold Sm; rw [e2, e0 12 (by omega), e0 13 (by omega), e0 14 (by omega)]; exact hSm
  · by_cases c : n < nj
    · obtain ⟨o1, o2, o3, o4, o5, o6, o7, o8, o9⟩ := hold n c
      rw [o1, o2, o4, o6, o7, o8, e5, e1]; exact hJw n c
    · obtain rfl : n = nj := by omega
      rw [n0, n1, n3, n5, b0, b1, e5, e1]
      refine ⟨⟨0, by omega, rfl⟩, fun _ => ⟨⟨rfl, rfl⟩, rfl, hNc n (Nat.le_refl _)⟩, fun z => ?_⟩
      rw [nI_clamp (by omega)]
      rcases hF with ⟨-, -, y⟩ | ⟨-, -, -, y⟩ | ⟨rfl, hq2, y, -⟩ | ⟨-, -, y⟩ | ⟨rfl, hq2, -⟩ | ⟨-, -, y⟩ | ⟨-, -, -, y⟩ | ⟨rfl, hq2, ⟨t, ht, rfl⟩, -⟩
      · exact absurd y (by decide)
      · exact absurd y (by decide)
      · exact y
      · exact absurd y (by decide)
      · exact absurd z (by decide)
      · exact absurd y (by decide)
      · exact absurd y (by decide)
      · exact absurd z (by decide)
  · unfold Amt; rw [e1]; exact hAm
  · rw [e5]; exact hNc n (by omega)
  · have hn1 : ∀ n, n < nj + 1 → (n < nj → M.1 3 (6 * n + 3) ≠ 1) → S.1 3 (6 * n + 3) ≠ 1 := fun n hn z => by
      by_cases c : n < nj
      · rw [(hold n c).2.2.2.1]; exact z c
      · obtain rfl : n = nj := by omega
        rw [n3]; decide
    rcases hP with ⟨p1, p2, p3⟩ | ⟨j, it, k, q', hO, p1, p2, p3⟩
    · exact Or.inl ⟨(e0 3 (by omega)).trans p1, pha_same (M := M) (e0 2 (by omega)) (fun k => by rw [e2]) p2, fun n hn => hn1 n hn (p3 n)⟩
    · have hjj : j < nj := hO.1.1
      obtain ⟨o1, o2, o3, o4, o5, o6, o7, o8, o9⟩ := hold j hjj
      refine Or.inr ⟨j, it, k, q', ?_, fun z => ?_, fun z i hi y => ?_, fun n hn hnj => hn1 n hn (fun c => p3 n c hnj)⟩
      · obtain ⟨⟨c1, c2, c3, c4, c5, c6⟩, c7, c8, c9, c10⟩ := hO
        refine ⟨⟨by omega, (e0 3 (by omega)).trans c2, o4.trans c3, c4, o5.trans c5, c6⟩, ?_, ph_same (M := M) (e0 2 (by omega)) (fun k => by rw [e2]) c8, by rw [e5]; exact c9, by rw [o8]; exact c10⟩
        rw [o1, o2, o3, o6, o7, e1]; exact c7
      · rw [e1]; rw [o1] at z; exact p1 z
      · rw [o1] at z; rw [e1, o3] at y; exact p2 z i hi y
  · unfold Fk; rw [e1]; exact hFk
  · by_cases c : n < nj
    · obtain ⟨o1, o2, o3, o4, o5, o6, o7, o8, o9⟩ := hold n c
      rw [o1] at z; rw [o6]; exact hMd n c z
    · obtain rfl : n = nj := by omega
      exact n5
  · by_cases c : n < nj
    · obtain ⟨o1, o2, o3, o4, o5, o6, o7, o8, o9⟩ := hold n c
      rw [o9]; exact hUn n c
    · obtain rfl : n = nj := by omega
      exact ⟨0, by omega, b3⟩
  · by_cases c : n < nj
    · rw [e3 _ (by omega)] at z; rw [e3 _ (by omega)]; exact h5 n c z
    · obtain rfl : n = nj := by omega
      exact n4
end P44
