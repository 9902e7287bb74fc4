/-! ===== WHAT HOLDS BETWEEN THE TICKS ===== -/
def Oth (M : Mo) (nj j : Nat) : Prop := ∀ q, q < nj → q ≠ j → M.1 3 (6 * q + 3) ≠ 1
def Tgt (M : Mo) (ni j it : Nat) : Prop := M.1 3 (6 * j) = 2 → ∀ i, i < ni → M.1 1 (6 * i + 1) = M.1 3 (6 * j + 2) → i = it
def Idl (M : Mo) (nd nj : Nat) : Prop := M.1 0 3 = -5 ∧ PhA M nd ∧ ∀ j, j < nj → M.1 3 (6 * j + 3) ≠ 1
def Bsy (M : Mo) (ni nd nj j it k q : Nat) : Prop := Own M ni nd nj j it k q ∧ (M.1 3 (6 * j) = 1 → M.1 1 (6 * it) = 1) ∧ Tgt M ni j it ∧ Oth M nj j
def Jw (M : Mo) (nj : Nat) : Prop := ∀ j, j < nj → (∃ q, q ≤ 4 ∧ M.1 3 (6 * j + 3) = nI q) ∧ (M.1 3 (6 * j + 3) = 0 → (M.1 3 (6 * j + 5) = -5 ∧ M.1 4 (6 * j) = -5) ∧ M.1 4 (6 * j + 1) = -5 ∧ M.1 5 j = 0) ∧ (M.1 3 (6 * j) = 0 → M.1 1 (6 * (M.1 3 (6 * j + 1)).toNatClampNeg) = 0)
def Amt (M : Mo) (ni T : Nat) : Prop := ∀ i, i < ni → M.1 1 (6 * i) = 0 → ∃ r, r ≤ T ∧ M.1 1 (6 * i + 3) = nI r
def Nc (M : Mo) (nj : Nat) : Prop := ∀ j, nj ≤ j → M.1 5 j = 0
def Inv (M : Mo) (ni nd nj T : Nat) : Prop := IS M ni nd nj ∧ Sm M nd ∧ Jw M nj ∧ Amt M ni T ∧ Nc M nj ∧ M.1 0 0 = nI T ∧ (Idl M nd nj ∨ ∃ j it k q, Bsy M ni nd nj j it k q)
section P29
variable {M S : Mo} {ni nd nj j it k q T : Nat}
theorem own_o (h : Own M ni nd nj j it k q) (hj : nj ≤ 10) (hi : ni ≤ 8) (hd : nd ≤ 4) : oJ M = j ∧ oI M j = it ∧ (¬ M.1 3 (6 * j) = 2 → oK M j = k) ∧ M.1 0 3 ≠ -5 := by
  obtain ⟨⟨hj9, h3, h33, ht, h4, hq8⟩, hK, -⟩ := h
  refine ⟨by unfold oJ; rw [h3, nI_clamp (by omega)], ?_, ?_, by rw [h3]; exact nI_n5 (by omega)⟩
  · unfold oI
    rcases hK with ⟨z, z1, -⟩ | ⟨z, z1, -⟩ | ⟨z, z1, -⟩
    · rw [z, if_neg (by decide), z1, nI_clamp (by omega)]
    · rw [if_pos z, z1, nI_clamp (by omega)]
    · rw [z, if_neg (by decide), z1, nI_clamp (by omega)]
  · intro z2
    unfold oK
    rcases hK with ⟨z, -, z1, z3, -⟩ | ⟨z, -, z1, -, z3⟩ | ⟨z, -⟩
    · rw [z3, nI_clamp (by omega)]
    · rw [z3, nI_clamp (by omega)]
    · exact absurd z z2
/-- a moving's step looks at no drive -/
theorem ms_k (h : Own M ni nd nj j it k q) (h2 : M.1 3 (6 * j) = 2) (k2 : Nat) : mStep M j it k2 = mStep M j it k := by
  obtain ⟨⟨hj9, h3, h33, ht, h4, hq8⟩, hK, -⟩ := h
  have hq4 : q < 4 := by
    rcases hK with ⟨z, -⟩ | ⟨z, -⟩ | ⟨-, -, -, z1⟩
    · rw [z] at h2; exact absurd h2 (by decide)
    · rw [z] at h2; exact absurd h2 (by decide)
    · exact z1
  obtain rfl | rfl | rfl | rfl : q = 0 ∨ q = 1 ∨ q = 2 ∨ q = 3 := by omega
  · rw [ms06 (Or.inl h4), ms06 (Or.inl h4)]
  · rw [ms1 h4, ms1 h4]
  · rw [ms2 h4, ms2 h4, if_pos h2, if_pos h2]
  · rw [ms3 h4, ms3 h4, if_pos h2, if_pos h2]
theorem ms_o (h : Own M ni nd nj j it k q) (hj : nj ≤ 10) (hi : ni ≤ 8) (hd : nd ≤ 4) : mStep M j (oI M j) (oK M j) = mStep M j it k := by
  obtain ⟨-, a, b, -⟩ := own_o h hj hi hd
  rw [a]
  by_cases h2 : M.1 3 (6 * j) = 2
  · exact ms_k h h2 _
  · rw [b h2]
/-- a waiting job begins -/
theorem begun (hI : Inv M ni nd nj T) (hT : T < 1600) (hid : M.1 0 3 = -5) (hj : j < nj) (hF : IsMin (OKj M ni nd) (grp M) nj (nI j)) : Chs M ni nd j (kdO M nd j) (clO M ni j) ∧ IS (mBegin M j (kdO M nd j) (clO M ni j)) ni nd nj ∧ ∃ it k, Bsy (mBegin M j (kdO M nd j) (clO M ni j)) ni nd nj j it k 0 := by
  obtain ⟨hIS, hSm, hJw, hAm, hNc, h00, hP⟩ := hI
  obtain ⟨⟨hi, hd, hj10⟩, hp, hH, hC, hf, hu, hJb, hsl⟩ := id hIS
  obtain ⟨-, hA, hn1⟩ : Idl M nd nj := hP.resolve_right (fun ⟨j, it, k, q, z, _⟩ => (own_o z hj10 hi hd).2.2.2 hid)
  have hOK : OKj M ni nd j := by
    rcases hF with ⟨z, -⟩ | ⟨i, z1, z2, z3, -⟩
    · exact absurd z (nI_n5 (by omega))
    · obtain rfl : j = i := (nI_eq (by omega) (by omega)).mp z2
      exact z3
  obtain ⟨h0, -, hCB⟩ := hOK
  obtain ⟨-, hw, htp⟩ := hJw j hj
  obtain ⟨⟨w1, w2⟩, w3, w4⟩ := hw h0
  have hIS2 : ∀ kd cl, IS (mBegin M j kd cl) ni nd nj := fun kd cl => hIS.of hp hf (fun i _ => by simp (disch := omega) only [mBegin, up_ne]) (fun i _ => by simp (disch := omega) only [mBegin, up_ne]) (fun i => ⟨by simp (disch := omega) only [mBegin, up_ne], by simp (disch := omega) only [mBegin, up_ne], by simp (disch := omega) only [mBegin, up_ne]⟩) (fun i => by simp (disch := omega) only [mBegin, up_ne])
  have e0 : ∀ kd cl, (mBegin M j kd cl).1 3 (6 * j) = M.1 3 (6 * j) := fun kd cl => by simp (disch := omega) only [mBegin, up_ne]
  have e1 : ∀ kd cl, (mBegin M j kd cl).1 3 (6 * j + 1) = M.1 3 (6 * j + 1) := fun kd cl => by simp (disch := omega) only [mBegin, up_ne]
  have e2 : ∀ kd cl, (mBegin M j kd cl).1 3 (6 * j + 2) = M.1 3 (6 * j + 2) := fun kd cl => by simp (disch := omega) only [mBegin, up_ne]
  have e5 : ∀ kd cl, (mBegin M j kd cl).1 3 (6 * j + 5) = kd := fun kd cl => by simp (disch := omega) only [mBegin, up_ne, up_at]
  have e40 : ∀ kd cl, (mBegin M j kd cl).1 4 (6 * j) = cl := fun kd cl => by simp (disch := omega) only [mBegin, up_ne, up_at]
  have ei : ∀ kd cl x, (mBegin M j kd cl).1 1 x = M.1 1 x := fun kd cl x => by simp (disch := omega) only [mBegin, up_ne]
  have hcom : ∀ kd cl it, it < ni → j < nj ∧ (mBegin M j kd cl).1 0 3 = nI j ∧ (mBegin M j kd cl).1 3 (6 * j + 3) = 1 ∧ it < ni ∧ (mBegin M j kd cl).1 3 (6 * j + 4) = nI 0 ∧ 0 < 8 := fun kd cl it ht => ⟨hj, by simp (disch := omega) only [mBegin, up_ne, up_at], by simp (disch := omega) only [mBegin, up_ne, up_at], ht, by simp (disch := omega) only [mBegin, up_ne, up_at]; rfl, by omega⟩
  have hph : ∀ kd cl it k, Ph (mBegin M j kd cl) nd it k 0 := fun kd cl it k => (show PhA _ nd from pha_same (M := M) (by simp (disch := omega) only [mBegin, up_ne]) (fun k => by simp (disch := omega) only [mBegin, up_ne]) hA)
  have hcc : ∀ kd cl, 0 ≤ 4 → ∃ c0, c0 ≤ 2 ∧ (mBegin M j kd cl).1 5 j = nI c0 := fun kd cl _ => ⟨0, by omega, by simp (disch := omega) only [mBegin, up_ne]; exact w4⟩
  have hrr : ∀ kd cl, (mBegin M j kd cl).1 4 (6 * j + 1) = -5 ∨ (mBegin M j kd cl).1 4 (6 * j + 1) = 1 ∨ (mBegin M j kd cl).1 4 (6 * j + 1) = 2 := fun kd cl => Or.inl (by simp (disch := omega) only [mBegin, up_ne]; exact w3)
  have hot : ∀ kd cl, Oth (mBegin M j kd cl) nj j := fun kd cl q hq hqj => by
    have : (mBegin M j kd cl).1 3 (6 * q + 3) = M.1 3 (6 * q + 3) := by simp (disch := omega) only [mBegin, up_ne]
    rw [this]; exact hn1 q hq
  rcases hJb j hj with ⟨z, i, hi9, z1⟩ | ⟨z, k, hk9, z1⟩ | ⟨z, ⟨i, hi9, z1⟩, s, hs, z2⟩
  · have ek : kdO M nd j = aD M nd := by unfold kdO; rw [if_pos z]
    have ec : clO M ni j = -5 := by unfold clO; rw [z, if_neg (by decide)]
    have hm := am_s (fun k => ¬ dst M k) (fun k => (M.2 (2 * k)).toNat) nd (by omega)
    rw [ek, ec]
    refine ⟨Or.inl ⟨z, hm, rfl⟩, hIS2 _ _, ?_⟩
    rcases id hm with ⟨-, y⟩ | ⟨k, hk, y1, -⟩
    · obtain ⟨k, hk, hk2⟩ := hCB.1 z; exact absurd hk2 (y k hk)
    · have y2 : aD M nd = nI k := y1
      rw [y2]
      obtain ⟨r, hr1, hr2⟩ := hAm i hi9 (by have := htp z; rw [z1, nI_clamp (by omega)] at this; exact this)
      exact ⟨i, k, ⟨hcom _ _ i hi9, Or.inl ⟨(e0 _ _).trans z, (e1 _ _).trans z1, hk, e5 _ _, r, by omega, (ei _ _ _).trans hr2⟩, hph _ _ _ _, hcc _ _, hrr _ _⟩, fun y => by rw [e0, z] at y; exact absurd y (by decide), fun y => by rw [e0, z] at y; exact absurd y (by decide), hot _ _⟩
  · have ek : kdO M nd j = M.1 3 (6 * j + 1) := by unfold kdO; rw [z, if_neg (by decide), if_pos (by decide)]
    have ec : clO M ni j = aC M ni := by unfold clO; rw [if_pos z]
    have hm := am_s (fun i => M.1 1 (6 * i) = 1 ∧ 0 < M.1 1 (6 * i + 3)) (fun i => ad (hm M i) (pl M)) ni (by omega)
    rw [ek, ec]
    refine ⟨Or.inr (Or.inl ⟨z, rfl, hm⟩), hIS2 _ _, ?_⟩
    rcases id hm with ⟨-, y⟩ | ⟨i, hi9, y1, y3, -⟩
    · obtain ⟨i, hi9, hi2⟩ := hCB.2.1 z; exact absurd hi2 (y i hi9)
    · have y2 : aC M ni = nI i := y1
      rw [y2, z1]
      exact ⟨i, k, ⟨hcom _ _ i hi9, Or.inr (Or.inl ⟨(e0 _ _).trans z, e40 _ _, hk9, (e1 _ _).trans z1, e5 _ _⟩), hph _ _ _ _, hcc _ _, hrr _ _⟩, fun _ => by rw [ei]; exact y3.1, fun y => by rw [e0, z] at y; exact absurd y (by decide), hot _ _⟩
  · have ek : kdO M nd j = -5 := by unfold kdO; rw [z, if_neg (by decide), if_neg (by decide)]
    have ec : clO M ni j = -5 := by unfold clO; rw [z, if_neg (by decide)]
    rw [ek, ec]
    refine ⟨Or.inr (Or.inr ⟨z, rfl, rfl⟩), hIS2 _ _, i, 0, ⟨hcom _ _ i hi9, Or.inr (Or.inr ⟨(e0 _ _).trans z, (e1 _ _).trans z1, ⟨s, hs, (e2 _ _).trans z2⟩, by omega⟩), hph _ _ _ _, hcc _ _, hrr _ _⟩, fun y => by rw [e0, z] at y; exact absurd y (by decide), fun _ i' hi' y => ?_, hot _ _⟩
    rw [ei, e2] at y
    have := hCB.2.2 z i' hi' y
    rw [z1] at this
    exact (nI_eq (by omega) (by omega)).mp this
theorem inv_bg (hI : Inv M ni nd nj T) (hT : T < 1600) : Inv (mBg M ni nd nj) ni nd nj T := by
  unfold mBg
  by_cases c : M.1 0 3 = -5 ∧ aJ M ni nd nj ≠ -5
  · rw [if_pos c]
    obtain ⟨hIS, hSm, hJw, hAm, hNc, h00, hP⟩ := id hI
    obtain ⟨⟨hi, hd, hj10⟩, hp, hH, hC, hf, hu, hJb, hsl⟩ := id hIS
    have hm := am_s (OKj M ni nd) (grp M) nj (by omega)
    rcases id hm with ⟨y, -⟩ | ⟨j, hj, y1, -⟩
    · exact absurd y c.2
    · have y2 : aJ M ni nd nj = nI j := y1
      rw [y2, nI_clamp (by omega)]
      obtain ⟨-, b1, it, k, b2⟩ := begun hI hT c.1 hj (by rw [← y1]; exact hm)
      refine ⟨b1, ?_, fun q hq => ?_, fun i hi' h0 => ?_, fun q hq => ?_, ?_, Or.inr ⟨j, it, k, 0, b2⟩⟩
      · refine ⟨hSm.1, hSm.2.1, hSm.2.2⟩
      · obtain ⟨a1, a2, a3⟩ := hJw q hq
        by_cases e : q = j
        · subst e
          refine ⟨⟨1, by omega, by simp (disch := omega) only [mBegin, up_ne, up_at]; rfl⟩, fun z => ?_, fun z => ?_⟩
          · have : (mBegin M q (kdO M nd q) (clO M ni q)).1 3 (6 * q + 3) = 1 := by simp (disch := omega) only [mBegin, up_ne, up_at]
            rw [this] at z; exact absurd z one0
          · simp (disch := omega) only [mBegin, up_ne] at z ⊢; exact a3 z
        · simp (disch := omega) only [mBegin, up_ne]; exact ⟨a1, a2, a3⟩
      · have z : M.1 1 (6 * i) = 0 := by simp (disch := omega) only [mBegin, up_ne] at h0; exact h0
        simp (disch := omega) only [mBegin, up_ne]; exact hAm i hi' z
      · simp (disch := omega) only [mBegin, up_ne]; exact hNc q hq
      · simp (disch := omega) only [mBegin, up_ne]; exact h00
  · rw [if_neg c]; exact hI
end P29
/-! the run of a tick -/
def Inw (M : Mo) (ni nd nj T A : Nat) : Prop := IS M ni nd nj ∧ Sm M nd ∧ Jw M nj ∧ Amt M ni A ∧ Nc M nj ∧ M.1 0 0 = nI T ∧ (Idl M nd nj ∨ ∃ j it k q, Bsy M ni nd nj j it k q)
section P29b
variable {M N : Mo} {S : Mo × Int32} {ni nd nj j it k q q' T : Nat}
theorem own_n (h : Own M ni nd nj j it k q) (e3 : ∀ x, x ≠ 6 * j + 4 → N.1 3 x = M.1 3 x) (e34 : N.1 3 (6 * j + 4) = nI q') (hq' : q' < 8) (hq2 : M.1 3 (6 * j) = 2 → q' < 4) (e4 : N.1 4 (6 * j) = M.1 4 (6 * j)) (e03 : N.1 0 3 = M.1 0 3) (hr : N.1 4 (6 * j + 1) = -5 ∨ N.1 4 (6 * j + 1) = 1 ∨ N.1 4 (6 * j + 1) = 2) (hph : Ph N nd it k q') (hc : q' ≤ 4 → ∃ c0, c0 ≤ 2 ∧ N.1 5 j = nI c0) (hA : M.1 3 (6 * j) = 0 → ∃ r, r < 1600 ∧ N.1 1 (6 * it + 3) = nI r) : Own N ni nd nj j it k q' := by
  obtain ⟨⟨hj9, h3, h33, ht, h4, hq8⟩, hK, -⟩ := h
  refine ⟨⟨hj9, e03.trans h3, (e3 _ (by omega)).trans h33, ht, e34, hq'⟩, ?_, hph, hc, hr⟩
  rw [e3 (6 * j) (by omega), e3 (6 * j + 1) (by omega), e3 (6 * j + 2) (by omega), e3 (6 * j + 5) (by omega), e4]
  rcases hK with ⟨z, z1, z2, z3, -⟩ | z | ⟨z, z1, z2, -⟩
  · exact Or.inl ⟨z, z1, z2, z3, hA z⟩
  · exact Or.inr (Or.inl z)
  · exact Or.inr (Or.inr ⟨z, z1, z2, hq2 z⟩)
theorem inw_s (hI : Inv M ni nd nj T) (hT : T < 1600) (hB : Bsy M ni nd nj j it k q) (X : Stq M S ni nd j it k q) : IS S.1 ni nd nj ∧ Sm S.1 nd ∧ Jw S.1 nj ∧ Amt S.1 ni (T + 1) ∧ Nc S.1 nj ∧ S.1.1 0 0 = nI T := by
  obtain ⟨hIS, hSm, hJw, hAm, hNc, h00, -⟩ := hI
  obtain ⟨⟨hi, hd, hj10⟩, hp, hH, hC, hf, hu, hJb, hsl⟩ := id hIS
  obtain ⟨hO, -, hTg, -⟩ := hB
  obtain ⟨⟨hj9, h3, h33, ht, h4, hq8⟩, hK, -⟩ := id hO
  obtain ⟨⟨⟨x1, x2, x3, x4, x5⟩, x6, x7, x8, x9, x10, x11⟩, y, hs, -⟩ := X
  refine ⟨?_, y, fun n hn => ?_, fun i hi' h0 => ?_, fun n hn => ?_, x4.trans h00⟩
  · rcases hs with hs | ⟨m1, m2, -, m3⟩
    · exact hIS.of x1 x2 hs (fun i hi' => (x7 i hi').1) (fun i => by rw [x3]; exact ⟨rfl, rfl, rfl⟩) x8
    · obtain ⟨s, hs9, hs2⟩ : ∃ s, s < 24 ∧ M.1 3 (6 * j + 2) = nI s := by
        rcases hK with ⟨z, -⟩ | ⟨z, -⟩ | ⟨-, -, z, -⟩
        · rw [z] at m1; exact absurd m1 (by decide)
        · rw [z] at m1; exact absurd m1 (by decide)
        · exact z
      have hh : ∀ i, i < ni → hm S.1 i = if i = it then s else hm M i := fun i hi' => by
        unfold hm
        rw [m3 i hi', hs2]
        by_cases e : i = it
        · rw [if_pos e, if_pos e, nI_clamp (by omega)]
        · rw [if_neg e, if_neg e]
      refine ⟨⟨hi, hd, hj10⟩, x1, fun i hi' => ?_, fun i hi' => ?_, x2, fun a b ha hb e => ?_, fun n hn => ?_, fun n hn => ?_⟩
      · rw [hh i hi', m3 i hi', hs2]
        by_cases e : i = it
        · rw [if_pos e, if_pos e]; exact ⟨hs9, rfl⟩
        · rw [if_neg e, if_neg e]; exact hH i hi'
      · rw [(x7 i hi').1]; exact hC i hi'
      · rw [m3 a ha, m3 b hb] at e
        by_cases ea : a = it
        · rw [if_pos ea] at e
          by_cases eb : b = it
          · omega
          · rw [if_neg eb] at e
            exact absurd (hTg m1 b hb e.symm) eb
        · rw [if_neg ea] at e
          by_cases eb : b = it
          · rw [if_pos eb] at e
            exact absurd (hTg m1 a ha e) ea
          · rw [if_neg eb] at e
            exact hu a b ha hb e
      · rw [x3]; exact hJb n hn
      · rw [x8 n]; exact hsl n hn
  · obtain ⟨a1, a2, a3⟩ := hJw n hn
    rw [x3]
    refine ⟨a1, fun z => ?_, fun z => ?_⟩
    · have hne : n ≠ j := by
        intro e; subst e; rw [h33] at z; exact one0 z
      obtain ⟨⟨b1, b2⟩, b3, b4⟩ := a2 z
      exact ⟨⟨b1, (x9 _ (by omega) (by omega)).trans b2⟩, (x9 _ (by omega) (by omega)).trans b3, (x10 n hne).trans b4⟩
    · have q0 := a3 z
      rcases hJb n hn with ⟨-, i, hi9, z1⟩ | ⟨z1, -⟩ | ⟨z1, -⟩
      · rw [z1, nI_clamp (by omega)] at q0 ⊢
        exact ((x7 i hi9).1).trans q0
      · rw [z1] at z; exact absurd z (by decide)
      · rw [z1] at z; exact absurd z (by decide)
  · rw [(x7 i hi').1] at h0
    obtain ⟨r, hr, hr2⟩ := hAm i hi' h0
    rcases (x7 i hi').2.2 h0 with e | e
    · exact ⟨r, by omega, e.trans hr2⟩
    · exact ⟨r + 1, by omega, by rw [e, hr2, nI_1]⟩
  · rw [x10 n (by omega)]; exact hNc n hn
theorem inw_do (hI : Inv M ni nd nj T) (hT : T < 1500) (hB : Bsy M ni nd nj j it k q) : Inw (mDo M j).1 ni nd nj T (T + 1) := by
  obtain ⟨hO, hB1, hB2, hB3⟩ := id hB
  obtain ⟨⟨hi, hd, hj10⟩, -⟩ := id hI.1
  have X := stp hI.1 hI.2.1 hO hB1
  have W := inw_s hI (by omega) hB X
  unfold mDo
  rw [ms_o hO hj10 hi hd]
  generalize hSS : mStep M j it k = S at X W ⊢
  have hb : S.2 = 0 ∨ S.2 = 1 := hSS ▸ mStep_b M j it k
  obtain ⟨w1, w2, w3, w4, w5, w6⟩ := id W
  obtain ⟨⟨⟨x1, x2, x3, x4, x5⟩, x6, x7, x8, x9, x10, x11⟩, y, hs, y0, y1⟩ := id X
  obtain ⟨⟨hj9, h3, h33, ht, h4, hq8⟩, hK, hPh, hc0, hr⟩ := id hO
  have hk7 : M.1 3 (6 * j) = 2 → q < 4 := by
    intro z
    rcases hK with ⟨z1, -⟩ | ⟨z1, -⟩ | ⟨-, -, -, z1⟩
    · rw [z1] at z; exact absurd z (by decide)
    · rw [z1] at z; exact absurd z (by decide)
    · exact z1
  have hr' : S.1.1 4 (6 * j + 1) = -5 ∨ S.1.1 4 (6 * j + 1) = 1 ∨ S.1.1 4 (6 * j + 1) = 2 := by
    rcases x11 with z | z | z
    · rw [z]; exact hr
    · exact Or.inr (Or.inl z)
    · exact Or.inr (Or.inr z)
  have hA' : M.1 3 (6 * j) = 0 → ∃ r, r < 1600 ∧ S.1.1 1 (6 * it + 3) = nI r := by
    intro z
    have a := (hI.2.2.1 j hj9).2.2 z
    rcases hK with ⟨-, z1, -⟩ | ⟨z1, -⟩ | ⟨z1, -⟩
    · rw [z1, nI_clamp (by omega)] at a
      obtain ⟨r, r1, r2⟩ := w4 it ht ((x7 it ht).1.trans a)
      exact ⟨r, by omega, r2⟩
    · rw [z1] at z; exact absurd z (by decide)
    · rw [z1] at z; exact absurd z (by decide)
  have e4 : S.1.1 4 (6 * j) = M.1 4 (6 * j) := x9 _ (by omega) (by omega)
  by_cases h0 : S.2 = 0
  · rw [if_pos h0]
    obtain ⟨p1, p2⟩ := y0 h0
    refine ⟨w1, w2, w3, w4, w5, w6, Or.inr ⟨j, it, k, q, own_n hO (fun x _ => by rw [x3]) (by rw [x3]; exact h4) hq8 hk7 e4 x5 hr' p1 p2 hA', fun z => ?_, fun z i hi' => ?_, fun n hn hnj => ?_⟩⟩
    · rw [(x7 it ht).1]; rw [x3] at z; exact hB1 z
    · rw [x3] at z ⊢
      rcases hs with hs | ⟨-, -, z2, -⟩
      · rw [hs i hi']; exact hB2 z i hi'
      · exact absurd (h0.symm.trans z2) zero1
    · rw [x3]; exact hB3 n hn hnj
  · have h1 := hb.resolve_left h0
    rw [if_neg h0]
    obtain ⟨p1, p2⟩ := y1 h1
    unfold mAfter
    by_cases hE : q = 7 ∨ (M.1 3 (6 * j) = 2 ∧ q = 3)
    · have c : S.1.1 3 (6 * j + 4) + 1 = (if S.1.1 3 (6 * j) = 2 then 4 else 8) := by
        rw [x3, h4]
        rcases hE with z | ⟨z, z1⟩
        · rw [if_neg (fun z2 => by have := hk7 z2; omega), z]; decide
        · rw [if_pos z, z1]; decide
      rw [if_pos c]
      have pA := p1.1 hE
      refine ⟨w1.of w1.2.1 w1.2.2.2.2.1 (fun i _ => ?_) (fun i _ => ?_) (fun i => ⟨?_, ?_, ?_⟩) (fun i => ?_), w2, fun n hn => ?_, w4, fun n hn => ?_, ?_, Or.inl ⟨up_at, ?_, fun n hn => ?_⟩⟩
      · simp (disch := omega) only [mEnd, mEnd1, mNext, up_ne]
      · simp (disch := omega) only [mEnd, mEnd1, mNext, up_ne]
      · simp (disch := omega) only [mEnd, mEnd1, mNext, up_ne]
      · simp (disch := omega) only [mEnd, mEnd1, mNext, up_ne]
      · simp (disch := omega) only [mEnd, mEnd1, mNext, up_ne]
      · simp (disch := omega) only [mEnd, mEnd1, mNext, up_ne]
      · obtain ⟨a1, a2, a3⟩ := w3 n hn
        by_cases e : n = j
        · subst e
          simp (disch := omega) only [mEnd, mEnd1, mNext, up_ne, up_at]
          refine ⟨?_, fun z => ?_, a3⟩
          · split
            · exact ⟨3, by omega, rfl⟩
            · exact ⟨2, by omega, rfl⟩
          · split at z
            · exact absurd z (by decide)
            · exact absurd z (by decide)
        · simp (disch := omega) only [mEnd, mEnd1, mNext, up_ne]; exact ⟨a1, a2, a3⟩
      · simp (disch := omega) only [mEnd, mEnd1, mNext, up_ne]; exact w5 n hn
      · simp (disch := omega) only [mEnd, mEnd1, mNext, up_ne]; exact w6
      · exact pha_same (M := S.1) (by simp (disch := omega) only [mEnd, mEnd1, mNext, up_ne]) (fun k => by simp (disch := omega) only [mEnd, mEnd1, mNext, up_ne]) pA
      · by_cases e : n = j
        · subst e
          simp (disch := omega) only [mEnd, mEnd1, mNext, up_ne, up_at]
          split <;> decide
        · simp (disch := omega) only [mEnd, mEnd1, mNext, up_ne]
          rw [x3]; exact hB3 n hn e
    · have hq7 : ¬ q = 7 := fun z => hE (Or.inl z)
      have hq3 : M.1 3 (6 * j) = 2 → ¬ q = 3 := fun z z1 => hE (Or.inr ⟨z, z1⟩)
      have c : ¬ (S.1.1 3 (6 * j + 4) + 1 = (if S.1.1 3 (6 * j) = 2 then 4 else 8)) := by
        rw [x3, h4, nI_1]
        intro z
        by_cases z2 : M.1 3 (6 * j) = 2
        · rw [if_pos z2] at z
          have := hk7 z2
          have := hq3 z2
          have := (nI_eq (a := q + 1) (b := 4) (by omega) (by omega)).mp z
          omega
        · rw [if_neg z2] at z
          have := (nI_eq (a := q + 1) (b := 8) (by omega) (by omega)).mp z
          omega
      rw [if_neg c]
      have hsn : Hs1 M S.1 ni := hs.resolve_right (fun z => hq3 z.1 z.2.1)
      have en : ∀ x, x ≠ 6 * j + 4 → (mNext S.1 j).1 3 x = M.1 3 x := fun x hx => by unfold mNext; rw [up_ne (by omega), x3]
      refine ⟨w1.of w1.2.1 w1.2.2.2.2.1 (fun i _ => ?_) (fun i _ => ?_) (fun i => ⟨?_, ?_, ?_⟩) (fun i => ?_), w2, fun n hn => ?_, w4, fun n hn => ?_, ?_, Or.inr ⟨j, it, k, q + 1, own_n hO en ?_ (by omega) (fun z => by have := hk7 z; have := hq3 z; omega) ?_ ?_ ?_ ?_ ?_ ?_, fun z => ?_, fun z i hi' => ?_, fun n hn hnj => ?_⟩⟩
      · simp (disch := omega) only [mNext, up_ne]
      · simp (disch := omega) only [mNext, up_ne]
      · simp (disch := omega) only [mNext, up_ne]
      · simp (disch := omega) only [mNext, up_ne]
      · simp (disch := omega) only [mNext, up_ne]
      · simp (disch := omega) only [mNext, up_ne]
      · obtain ⟨a1, a2, a3⟩ := w3 n hn
        simp (disch := omega) only [mNext, up_ne]; exact ⟨a1, a2, a3⟩
      · simp (disch := omega) only [mNext, up_ne]; exact w5 n hn
      · simp (disch := omega) only [mNext, up_ne]; exact w6
      · unfold mNext; rw [up_at, x3, h4, nI_1]
      · simp (disch := omega) only [mNext, up_ne]; exact e4
      · simp (disch := omega) only [mNext, up_ne]; exact x5
      · simp (disch := omega) only [mNext, up_ne]; exact hr'
      · exact ph_same (M := S.1) (by simp (disch := omega) only [mNext, up_ne]) (fun k => by simp (disch := omega) only [mNext, up_ne]) (p1.2 hE)
      · intro z; simp (disch := omega) only [mNext, up_ne]; exact p2 z
      · intro z; simp (disch := omega) only [mNext, up_ne]; exact hA' z
      · rw [en _ (by omega)] at z; simp (disch := omega) only [mNext, up_ne]; rw [(x7 it ht).1]; exact hB1 z
      · rw [en _ (by omega)] at z; rw [en _ (by omega)]; simp (disch := omega) only [mNext, up_ne]; rw [hsn i hi']; exact hB2 z i hi'
      · rw [en _ (by omega)]; exact hB3 n hn hnj
theorem inw_run (hI : Inv M ni nd nj T) (hT : T < 1500) : Inw (mRun M).1 ni nd nj T (T + 1) := by
  obtain ⟨w1, w2, w3, w4, w5, w6, w7⟩ := id hI
  unfold mRun
  rcases w7 with w7 | ⟨j, it, k, q, hB⟩
  · rw [if_pos w7.1]
    exact ⟨w1.of w1.2.1 w1.2.2.2.2.1 (fun i _ => rfl) (fun i _ => rfl) (fun i => ⟨rfl, rfl, rfl⟩) (fun i => rfl), w2, w3, fun i hi h0 => by obtain ⟨r, r1, r2⟩ := w4 i hi h0; exact ⟨r, by omega, r2⟩, w5, w6, Or.inl w7⟩
  · obtain ⟨⟨hi, hd, hj10⟩, -⟩ := id w1
    obtain ⟨a, -, -, b⟩ := own_o hB.1 hj10 hi hd
    rw [if_neg b, a]
    exact inw_do hI hT hB
theorem inv_pass (hI : Inw M ni nd nj T (T + 1)) : Inv (mPass M) ni nd nj (T + 1) := by
  obtain ⟨w1, w2, w3, w4, w5, w6, w7⟩ := hI
  refine ⟨w1.of w1.2.1 (ifl_8 w1.2.2.2.2.1 (fl_mul75 w1.2.2.2.2.1.2.1) w1.1.2.1) (fun i _ => rfl) (fun i _ => rfl) (fun i => ⟨rfl, rfl, rfl⟩) (fun i => rfl), w2, w3, w4, w5, ?_, w7⟩
  show M.1 0 0 + 1 = _
  rw [w6, nI_1]
theorem inv_one (hI : Inv M ni nd nj T) (hT : T < 1500) : Inv (mOne M ni nd nj).1 ni nd nj (T + 1) := inv_pass (inw_run (inv_bg hI (by omega)) hT)
theorem inv_ticks (hI : Inv M ni nd nj T) : ∀ n, T + n ≤ 1500 → Inv (mTicks ni nd nj n M).1 ni nd nj (T + n)
  | 0, _ => hI
  | n + 1, h => inv_one (inv_ticks hI n (by omega)) (show T + n < 1500 by omega)
end P29b
