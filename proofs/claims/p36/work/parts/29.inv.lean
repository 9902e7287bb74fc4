/-! ===== WHAT HOLDS BETWEEN THE TICKS ===== -/
def Oth (M : Mo) (nj j : Nat) : Prop := ∀ q, q < nj → q ≠ j → M.1 3 (6 * q + 3) ≠ 1
def Tgt (M : Mo) (ni j it : Nat) : Prop := M.1 3 (6 * j) = 2 → ∀ i, i < ni → M.1 1 (6 * i + 1) = M.1 3 (6 * j + 2) → i = it
def Idl (M : Mo) (nd nj : Nat) : Prop := M.1 0 3 = -5 ∧ PhA M nd ∧ ∀ j, j < nj → M.1 3 (6 * j + 3) ≠ 1
def Bsy (M : Mo) (ni nd nj j it k q : Nat) : Prop := Own M ni nd nj j it k q ∧ (M.1 3 (6 * j) = 1 → M.1 1 (6 * it) = 1) ∧ Tgt M ni j it ∧ Oth M nj j
def Jw (M : Mo) (nj : Nat) : Prop := ∀ j, j < nj → (∃ q, q ≤ 4 ∧ M.1 3 (6 * j + 3) = nI q) ∧ (M.1 3 (6 * j + 3) = 0 → (M.1 3 (6 * j + 5) = -5 ∧ M.1 4 (6 * j) = -5) ∧ M.1 4 (6 * j + 1) = -5 ∧ M.1 5 j = 0) ∧ (M.1 3 (6 * j) = 0 → M.1 1 (6 * (M.1 3 (6 * j + 1)).toNatClampNeg) = 0)
def Amt (M : Mo) (ni T : Nat) : Prop := ∀ i, i < ni → M.1 1 (6 * i) = 0 → ∃ r, r ≤ T ∧ M.1 1 (6 * i + 3) = nI r
def Nc (M : Mo) (nj : Nat) : Prop := ∀ j, nj ≤ j → M.1 5 j = 0
def Inv (M : Mo) (ni nd nj T : Nat) : Prop := IS M ni nd nj ∧ Sm M nd ∧ Jw M nj ∧ Amt M ni T ∧ Nc M nj ∧ M.1 0 0 = nI T ∧ (Idl M nd nj ∨ ∃ j it k q, Bsy M ni nd nj j it k q)
section P29
variable {M S : Mo} {ni nd nj j it k q T : Nat}
theorem own_o (h : Own M ni nd nj j it k q) (hj : nj ≤ 10) (hi : ni ≤ 8) (hd : nd ≤ 4) : oJ M = j ∧ oI M j = it ∧ (¬ M.1 3 (6 * j) = 2 → oK M j = k) ∧ M.1 0 3 ≠ -5 := by
  obtain ⟨⟨hj9, h3, h33, ht, h4, hq8⟩, hK, -⟩ := h
  refine ⟨by unfold oJ; rw [h3, nI_clamp (by omega)], ?_, ?_, by rw [h3]; exact nI_n5 (by omega)⟩
  · unfold oI
    rcases hK with ⟨z, z1, -⟩ | ⟨z, z1, -⟩ | ⟨z, z1, -⟩
    · rw [z, if_neg (by decide), z1, nI_clamp (by omega)]
    · rw [if_pos z, z1, nI_clamp (by omega)]
    · rw [z, if_neg (by decide), z1, nI_clamp (by omega)]
  · intro z2
    unfold oK
    rcases hK with ⟨z, -, z1, z3, -⟩ | ⟨z, -, z1, -, z3⟩ | ⟨z, -⟩
    · rw [z3, nI_clamp (by omega)]
    · rw [z3, nI_clamp (by omega)]
    · exact absurd z z2
/-- a moving's step looks at no drive -/
theorem ms_k (h : Own M ni nd nj j it k q) (h2 : M.1 3 (6 * j) = 2) (k2 : Nat) : mStep M j it k2 = mStep M j it k := by
  obtain ⟨⟨hj9, h3, h33, ht, h4, hq8⟩, hK, -⟩ := h
  have hq4 : q < 4 := by
    rcases hK with ⟨z, -⟩ | ⟨z, -⟩ | ⟨-, -, -, z1⟩
    · rw [z] at h2; exact absurd h2 (by decide)
    · rw [z] at h2; exact absurd h2 (by decide)
    · exact z1
  obtain rfl | rfl | rfl | rfl : q = 0 ∨ q = 1 ∨ q = 2 ∨ q = 3 := by omega
  · rw [ms06 (Or.inl h4), ms06 (Or.inl h4)]
  · rw [ms1 h4, ms1 h4]
  · rw [ms2 h4, ms2 h4, if_pos h2, if_pos h2]
  · rw [ms3 h4, ms3 h4, if_pos h2, if_pos h2]
theorem ms_o (h : Own M ni nd nj j it k q) (hj : nj ≤ 10) (hi : ni ≤ 8) (hd : nd ≤ 4) : mStep M j (oI M j) (oK M j) = mStep M j it k := by
  obtain ⟨-, a, b, -⟩ := own_o h hj hi hd
  rw [a]
  by_cases h2 : M.1 3 (6 * j) = 2
  · exact ms_k h h2 _
  · rw [b h2]
/-- a waiting job begins -/
theorem begun (hI : Inv M ni nd nj T) (hT : T < 1600) (hid : M.1 0 3 = -5) (hj : j < nj) (hF : IsMin (OKj M ni nd) (grp M) nj (nI j)) : Chs M ni nd j (kdO M nd j) (clO M ni j) ∧ IS (mBegin M j (kdO M nd j) (clO M ni j)) ni nd nj ∧ ∃ it k, Bsy (mBegin M j (kdO M nd j) (clO M ni j)) ni nd nj j it k 0 := by
  obtain ⟨hIS, hSm, hJw, hAm, hNc, h00, hP⟩ := hI
  obtain ⟨⟨hi, hd, hj10⟩, hp, hH, hC, hf, hu, hJb, hsl⟩ := id hIS
  obtain ⟨-, hA, hn1⟩ : Idl M nd nj := hP.resolve_right (fun ⟨j, it, k, q, z, _⟩ => (own_o z hj10 hi hd).2.2.2 hid)
  have hOK : OKj M ni nd j := by
    rcases hF with ⟨z, -⟩ | ⟨i, z1, z2, z3, -⟩
    · exact absurd z (nI_n5 (by omega))
    · obtain rfl : j = i := (nI_eq (by omega) (by omega)).mp z2
      exact z3
  obtain ⟨h0, -, hCB⟩ := hOK
  obtain ⟨-, hw, htp⟩ := hJw j hj
  obtain ⟨⟨w1, w2⟩, w3, w4⟩ := hw h0
  have hIS2 : ∀ kd cl, IS (mBegin M j kd cl) ni nd nj := fun kd cl => hIS.of hp hf (fun i _ => by simp (disch := omega) only [mBegin, up_ne]) (fun i _ => by simp (disch := omega) only [mBegin, up_ne]) (fun i => ⟨by simp (disch := omega) only [mBegin, up_ne], by simp (disch := omega) only [mBegin, up_ne], by simp (disch := omega) only [mBegin, up_ne]⟩) (fun i => by simp (disch := omega) only [mBegin, up_ne])
  have e0 : ∀ kd cl, (mBegin M j kd cl).1 3 (6 * j) = M.1 3 (6 * j) := fun kd cl => by simp (disch := omega) only [mBegin, up_ne]
  have e1 : ∀ kd cl, (mBegin M j kd cl).1 3 (6 * j + 1) = M.1 3 (6 * j + 1) := fun kd cl => by simp (disch := omega) only [mBegin, up_ne]
  have e2 : ∀ kd cl, (mBegin M j kd cl).1 3 (6 * j + 2) = M.1 3 (6 * j + 2) := fun kd cl => by simp (disch := omega) only [mBegin, up_ne]
  have e5 : ∀ kd cl, (mBegin M j kd cl).1 3 (6 * j + 5) = kd := fun kd cl => by simp (disch := omega) only [mBegin, up_ne, up_at]
  have e40 : ∀ kd cl, (mBegin M j kd cl).1 4 (6 * j) = cl := fun kd cl => by simp (disch := omega) only [mBegin, up_ne, up_at]
  have ei : ∀ kd cl x, (mBegin M j kd cl).1 1 x = M.1 1 x := fun kd cl x => by simp (disch := omega) only [mBegin, up_ne]
  have hcom : ∀ kd cl it, it < ni → j < nj ∧ (mBegin M j kd cl).1 0 3 = nI j ∧ (mBegin M j kd cl).1 3 (6 * j + 3) = 1 ∧ it < ni ∧ (mBegin M j kd cl).1 3 (6 * j + 4) = nI 0 ∧ 0 < 8 := fun kd cl it ht => ⟨hj, by simp (disch := omega) only [mBegin, up_ne, up_at], by simp (disch := omega) only [mBegin, up_ne, up_at], ht, by simp (disch := omega) only [mBegin, up_ne, up_at]; rfl, by omega⟩
  have hph : ∀ kd cl it k, Ph (mBegin M j kd cl) nd it k 0 := fun kd cl it k => (show PhA _ nd from pha_same (M := M) (by simp (disch := omega) only [mBegin, up_ne]) (fun k => by simp (disch := omega) only [mBegin, up_ne]) hA)
  have hcc : ∀ kd cl, 0 ≤ 4 → ∃ c0, c0 ≤ 2 ∧ (mBegin M j kd cl).1 5 j = nI c0 := fun kd cl _ => ⟨0, by omega, by simp (disch := omega) only [mBegin, up_ne]; exact w4⟩
  have hrr : ∀ kd cl, (mBegin M j kd cl).1 4 (6 * j + 1) = -5 ∨ (mBegin M j kd cl).1 4 (6 * j + 1) = 1 ∨ (mBegin M j kd cl).1 4 (6 * j + 1) = 2 := fun kd cl => Or.inl (by simp (disch := omega) only [mBegin, up_ne]; exact w3)
  have hot : ∀ kd cl, Oth (mBegin M j kd cl) nj j := fun kd cl q hq hqj => by
    have : (mBegin M j kd cl).1 3 (6 * q + 3) = M.1 3 (6 * q + 3) := by simp (disch := omega) only [mBegin, up_ne]
    rw [this]; exact hn1 q hq
  rcases hJb j hj with ⟨z, i, hi9, z1⟩ | ⟨z, k, hk9, z1⟩ | ⟨z, ⟨i, hi9, z1⟩, s, hs, z2⟩
  · have ek : kdO M nd j = aD M nd := by unfold kdO; rw [if_pos z]
    have ec : clO M ni j = -5 := by unfold clO; rw [z, if_neg (by decide)]
    have hm := am_s (fun k => ¬ dst M k) (fun k => (M.2 (2 * k)).toNat) nd (by omega)
    rw [ek, ec]
    refine ⟨Or.inl ⟨z, hm, rfl⟩, hIS2 _ _, ?_⟩
    rcases id hm with ⟨-, y⟩ | ⟨k, hk, y1, -⟩
    · obtain ⟨k, hk, hk2⟩ := hCB.1 z; exact absurd hk2 (y k hk)
    · have y2 : aD M nd = nI k := y1
      rw [y2]
      obtain ⟨r, hr1, hr2⟩ := hAm i hi9 (by have := htp z; rw [z1, nI_clamp (by omega)] at this; exact this)
      exact ⟨i, k, ⟨hcom _ _ i hi9, Or.inl ⟨(e0 _ _).trans z, (e1 _ _).trans z1, hk, e5 _ _, r, by omega, (ei _ _ _).trans hr2⟩, hph _ _ _ _, hcc _ _, hrr _ _⟩, fun y => by rw [e0, z] at y; exact absurd y (by decide), fun y => by rw [e0, z] at y; exact absurd y (by decide), hot _ _⟩
  · have ek : kdO M nd j = M.1 3 (6 * j + 1) := by unfold kdO; rw [z, if_neg (by decide), if_pos (by decide)]
    have ec : clO M ni j = aC M ni := by unfold clO; rw [if_pos z]
    have hm := am_s (fun i => M.1 1 (6 * i) = 1 ∧ 0 < M.1 1 (6 * i + 3)) (fun i => ad (hm M i) (pl M)) ni (by omega)
    rw [ek, ec]
    refine ⟨Or.inr (Or.inl ⟨z, rfl, hm⟩), hIS2 _ _, ?_⟩
    rcases id hm with ⟨-, y⟩ | ⟨i, hi9, y1, y3, -⟩
    · obtain ⟨i, hi9, hi2⟩ := hCB.2.1 z; exact absurd hi2 (y i hi9)
    · have y2 : aC M ni = nI i := y1
      rw [y2, z1]
      exact ⟨i, k, ⟨hcom _ _ i hi9, Or.inr (Or.inl ⟨(e0 _ _).trans z, e40 _ _, hk9, (e1 _ _).trans z1, e5 _ _⟩), hph _ _ _ _, hcc _ _, hrr _ _⟩, fun _ => by rw [ei]; exact y3.1, fun y => by rw [e0, z] at y; exact absurd y (by decide), hot _ _⟩
  · have ek : kdO M nd j = -5 := by unfold kdO; rw [z, if_neg (by decide), if_neg (by decide)]
    have ec : clO M ni j = -5 := by unfold clO; rw [z, if_neg (by decide)]
    rw [ek, ec]
    refine ⟨Or.inr (Or.inr ⟨z, rfl, rfl⟩), hIS2 _ _, i, 0, ⟨hcom _ _ i hi9, Or.inr (Or.inr ⟨(e0 _ _).trans z, (e1 _ _).trans z1, ⟨s, hs, (e2 _ _).trans z2⟩, by omega⟩), hph _ _ _ _, hcc _ _, hrr _ _⟩, fun y => by rw [e0, z] at y; exact absurd y (by decide), fun _ i' hi' y => ?_, hot _ _⟩
    rw [ei, e2] at y
    have := hCB.2.2 z i' hi' y
    rw [z1] at this
    exact (nI_eq (by omega) (by omega)).mp this
theorem inv_bg (hI : Inv M ni nd nj T) (hT : T < 1600) : Inv (mBg M ni nd nj) ni nd nj T := by
  unfold mBg
  by_cases c : M.1 0 3 = -5 ∧ aJ M ni nd nj ≠ -5
  · rw [if_pos c]
    obtain ⟨hIS, hSm, hJw, hAm, hNc, h00, hP⟩ := id hI
    obtain ⟨⟨hi, hd, hj10⟩, hp, hH, hC, hf, hu, hJb, hsl⟩ := id hIS
    have hm := am_s (OKj M ni nd) (grp M) nj (by omega)
    rcases id hm with ⟨y, -⟩ | ⟨j, hj, y1, -⟩
    · exact absurd y c.2
    · have y2 : aJ M ni nd nj = nI j := y1
      rw [y2, nI_clamp (by omega)]
      obtain ⟨-, b1, it, k, b2⟩ := begun hI hT c.1 hj (by rw [← y1]; exact hm)
      refine ⟨b1, ?_, fun q hq => ?_, fun i hi' h0 => ?_, fun q hq => ?_, ?_, Or.inr ⟨j, it, k, 0, b2⟩⟩
      · refine ⟨hSm.1, hSm.2.1, hSm.2.2⟩
      · obtain ⟨a1, a2, a3⟩ := hJw q hq
        by_cases e : q = j
        · subst e
          refine ⟨⟨1, by omega, by simp (disch := omega) only [mBegin, up_ne, up_at]; rfl⟩, fun z => ?_, fun z => ?_⟩
          · have : (mBegin M q (kdO M nd q) (clO M ni q)).1 3 (6 * q + 3) = 1 := by simp (disch := omega) only [mBegin, up_ne, up_at]
            rw [this] at z; exact absurd z one0
          · simp (disch := omega) only [mBegin, up_ne] at z ⊢; exact a3 z
        · simp (disch := omega) only [mBegin, up_ne]; exact ⟨a1, a2, a3⟩
      · have z : M.1 1 (6 * i) = 0 := by simp (disch := omega) only [mBegin, up_ne] at h0; exact h0
        simp (disch := omega) only [mBegin, up_ne]; exact hAm i hi' z
      · simp (disch := omega) only [mBegin, up_ne]; exact hNc q hq
      · simp (disch := omega) only [mBegin, up_ne]; exact h00
  · rw [if_neg c]; exact hI
end P29
