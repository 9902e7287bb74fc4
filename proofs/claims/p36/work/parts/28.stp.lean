/-! ===== A STEP KEEPS WHAT HOLDS ===== -/
section P28
variable {M S : Mo} {ni nd nj j it k q : Nat}
theorem IS.of (h : IS M ni nd nj) (hp : Ip S) (hf : Ifl S nd) (h1 : Hs1 M S ni) (h2 : ∀ i, i < ni → S.1 1 (6 * i) = M.1 1 (6 * i)) (h3 : ∀ j, S.1 3 (6 * j) = M.1 3 (6 * j) ∧ S.1 3 (6 * j + 1) = M.1 3 (6 * j + 1) ∧ S.1 3 (6 * j + 2) = M.1 3 (6 * j + 2)) (h4 : ∀ k, S.1 2 (7 * k) = M.1 2 (7 * k)) : IS S ni nd nj := by
  obtain ⟨b, -, hH, hC, -, hu, hJb, hsl⟩ := h
  refine ⟨b, hp, fun i hi => ?_, fun i hi => ?_, hf, fun i j hi hj e => ?_, fun j hj => ?_, fun k hk => ?_⟩
  · unfold hm; rw [h1 i hi]; exact hH i hi
  · rw [h2 i hi]; exact hC i hi
  · exact hu i j hi hj (by rw [← h1 i hi, ← h1 j hj]; exact e)
  · rw [(h3 j).1, (h3 j).2.1, (h3 j).2.2]; exact hJb j hj
  · rw [h4 k]; exact hsl k hk
theorem ph_same (h2 : S.1 0 2 = M.1 0 2) (h6 : ∀ k, S.1 2 (7 * k + 6) = M.1 2 (7 * k + 6)) (h : Ph M nd it k q) : Ph S nd it k q := by
  unfold Ph PhA PhB PhC at h ⊢
  simp only [h2, h6]
  exact h
theorem pha_same (h2 : S.1 0 2 = M.1 0 2) (h6 : ∀ k, S.1 2 (7 * k + 6) = M.1 2 (7 * k + 6)) (h : PhA M nd) : PhA S nd := by
  unfold PhA at h ⊢
  simp only [h2, h6]
  exact h
def Pn (M S : Mo) (nd j it k q : Nat) : Prop := (q = 7 ∨ (M.1 3 (6 * j) = 2 ∧ q = 3) → PhA S nd) ∧ (¬ (q = 7 ∨ (M.1 3 (6 * j) = 2 ∧ q = 3)) → Ph S nd it k (q + 1))
def Stq (M : Mo) (S : Mo × Int32) (ni nd j it k q : Nat) : Prop :=
  Sf M S.1 ni nd j ∧ Sm S.1 nd ∧ (Hs1 M S.1 ni ∨ (M.1 3 (6 * j) = 2 ∧ q = 3 ∧ S.2 = 1 ∧ ∀ i, i < ni → S.1.1 1 (6 * i + 1) = if i = it then M.1 3 (6 * j + 2) else M.1 1 (6 * i + 1))) ∧
  (S.2 = 0 → Ph S.1 nd it k q ∧ (q ≤ 4 → ∃ c0, c0 ≤ 2 ∧ S.1.1 5 j = nI c0)) ∧ (S.2 = 1 → Pn M S.1 nd j it k q ∧ (q + 1 ≤ 4 → ∃ c0, c0 ≤ 2 ∧ S.1.1 5 j = nI c0))
theorem one0 : ¬ ((1 : Int32) = 0) := by decide
theorem zero1 : ¬ ((0 : Int32) = 1) := by decide
theorem ph_go (hq : q = 0 ∨ q = 2 ∨ q = 6) (h : Ph M nd it k q) : Ph M nd it k (q + 1) := by
  rcases hq with rfl | rfl | rfl <;> exact h
theorem pn_go (hq : q = 0 ∨ q = 2 ∨ q = 6) (h : Ph S nd it k q) : Pn M S nd j it k q := ⟨fun z => by omega, fun _ => ph_go hq h⟩
theorem stp_go (s : Nat) (hs : s < 24) (hd : nd ≤ 4) (hp : Ip M) (hf : Ifl M nd) (hq : q = 0 ∨ q = 2 ∨ q = 6) (hS : Sm M nd) (hPh : Ph M nd it k q) (hc : q ≤ 4 → ∃ c0, c0 ≤ 2 ∧ M.1 5 j = nI c0) : Stq M (mGo M j s) ni nd j it k q := by
  unfold mGo
  split
  · exact ⟨sf_id hp hf, hS, Or.inl hs_id, fun z => absurd z one0, fun _ => ⟨pn_go hq hPh, fun z => hc (by omega)⟩⟩
  · split
    · refine ⟨sf_plea hp hf, sm_plea hS, Or.inl hs_plea, fun _ => ⟨ph_same (M := M) ?_ (fun k => ?_) hPh, fun z => ?_⟩, fun z => absurd z zero1⟩
      · simp (disch := omega) only [mPlea, up_ne]
      · simp (disch := omega) only [mPlea, up_ne]
      · simp (disch := omega) only [mPlea, up_ne]; exact hc z
    · refine ⟨sf_went s hs hd hp hf, sm_went s hs hd hS, Or.inl (hs_went s hs hd), fun z => absurd z one0, fun _ => ⟨pn_go hq (ph_same (M := M) ?_ (fun k => ?_) hPh), fun z => ?_⟩⟩
      · simp (disch := omega) only [mWent, up_ne, uf_i]
      · simp (disch := omega) only [mWent, up_ne, uf_i]
      · simp (disch := omega) only [mWent, up_ne, uf_i]; exact hc (by omega)
theorem stp (hI : IS M ni nd nj) (hS : Sm M nd) (hO : Own M ni nd nj j it k q) (hc1 : M.1 3 (6 * j) = 1 → M.1 1 (6 * it) = 1) : Stq M (mStep M j it k) ni nd j it k q := by
  obtain ⟨⟨hi, hd, hj⟩, hp, hH, hC, hf, hu, hJb, hsl⟩ := hI
  obtain ⟨⟨hj9, h3, h33, ht, h4, hq8⟩, hK, hPh, hc0, hr⟩ := hO
  obtain ⟨m1, m2⟩ := hH it ht
  have hk7 : M.1 3 (6 * j) = 2 → q < 4 := by
    intro z
    rcases hK with ⟨z1, -⟩ | ⟨z1, -⟩ | ⟨-, -, -, z1⟩
    · rw [z1] at z; exact absurd z (by decide)
    · rw [z1] at z; exact absurd z (by decide)
    · exact z1
  have hk2 : ¬ M.1 3 (6 * j) = 2 → k < nd ∧ M.1 3 (6 * j + 5) = nI k := by
    intro hk2
    rcases hK with ⟨z, z1, z2, z3, -⟩ | ⟨z, z1, z2, -, z3⟩ | ⟨z, -⟩
    · exact ⟨z2, z3⟩
    · exact ⟨z2, z3⟩
    · exact absurd z hk2
  obtain rfl | rfl | rfl | rfl | rfl | rfl | rfl | rfl : q = 0 ∨ q = 1 ∨ q = 2 ∨ q = 3 ∨ q = 4 ∨ q = 5 ∨ q = 6 ∨ q = 7 := by omega
  · rw [ms06 (Or.inl h4)]
    exact stp_go _ m1 hd hp hf (by omega) hS hPh hc0
  · rw [ms1 h4]
    have a : PhA M nd := hPh
    refine ⟨sf_take hp hf, sm_take hS, Or.inl hs_take, fun z => absurd z one0, fun _ => ⟨⟨fun z => by omega, fun _ => (show PhB (mTake M it) nd it from ⟨?_, fun q hq => ?_⟩)⟩, fun _ => ?_⟩⟩
    · unfold mTake; exact up_at
    · simp (disch := omega) only [mTake, up_ne]; exact a.2 q hq
    · simp (disch := omega) only [mTake, up_ne]; exact hc0 (by omega)
  · rw [ms2 h4]
    refine stp_go _ ?_ hd hp hf (by omega) hS hPh hc0
    split
    · rename_i z
      rcases hK with ⟨z1, -⟩ | ⟨z1, -⟩ | ⟨-, -, ⟨s, z1, z2⟩, -⟩
      · rw [z1] at z; exact absurd z (by decide)
      · rw [z1] at z; exact absurd z (by decide)
      · rw [z2, nI_clamp (by omega)]; exact z1
    · rename_i z
      obtain ⟨s, s1, s2⟩ := hsl k (hk2 z).1
      rw [s2, nI_clamp (by omega)]; exact s1
  · rw [ms3 h4]
    have a : PhB M nd it := hPh
    by_cases z : M.1 3 (6 * j) = 2
    · rw [if_pos z]
      refine ⟨sf_move _ hp hf, sm_move _ hS, Or.inr ⟨z, rfl, rfl, fun i hi => ?_⟩, fun z => absurd z one0, fun _ => ⟨⟨fun _ => ⟨?_, fun q hq => ?_⟩, fun y => absurd (Or.inr ⟨z, rfl⟩) y⟩, fun _ => ?_⟩⟩
      · by_cases e : i = it
        · subst e; rw [if_pos rfl]; simp (disch := omega) only [mMove, mHome, up_ne, up_at]
        · rw [if_neg e]; simp (disch := omega) only [mMove, mHome, up_ne]
      · unfold mMove mHome; exact up_at
      · simp (disch := omega) only [mMove, mHome, up_ne]; exact a.2 q hq
      · simp (disch := omega) only [mMove, mHome, up_ne]; exact hc0 (by omega)
    · rw [if_neg z]
      refine ⟨sf_load hp hf, sm_load hS, Or.inl hs_load, fun z => absurd z one0, fun _ => ⟨⟨fun y => by rcases y with y | ⟨y, -⟩; exact absurd y (by omega); exact absurd y z, fun y => (show PhC (mLoad M it k) nd it k from ⟨?_, fun q hq hqk => ?_, ?_⟩)⟩, fun _ => ?_⟩⟩
      · simp (disch := omega) only [mLoad, up_ne, up_at]
      · simp (disch := omega) only [mLoad, up_ne]; exact a.2 q hq
      · simp (disch := omega) only [mLoad, up_ne, up_at]
      · simp (disch := omega) only [mLoad, up_ne]; exact hc0 (by omega)
  · rw [ms4 h4]
    have a : PhC M nd it k := hPh
    obtain ⟨c0, hc1', hc2⟩ := hc0 (by omega)
    rcases hK with ⟨z, z1, z2, z3, r0, z4, z5⟩ | ⟨z, z1, z2, -, z3⟩ | ⟨z, -, -, z1⟩
    · rw [if_pos z]
      have nz : ¬ (4 = 7 ∨ (M.1 3 (6 * j) = 2 ∧ 4 = 3)) := by omega
      unfold mRead
      split
      · refine ⟨sf_reason hp hf, sm_reason hS, Or.inl hs_reason, fun z => absurd z one0, fun _ => ⟨⟨fun y => absurd y nz, fun _ => (show Ph _ nd it k 4 from ph_same (M := M) ?_ (fun k => ?_) hPh)⟩, fun y => by omega⟩⟩
        · simp (disch := omega) only [up_ne]
        · simp (disch := omega) only [up_ne]
      · split
        · have p4 : Ph (mRead2 M j it k) nd it k 4 := ph_same (M := M) (by simp (disch := omega) only [mRead2, mLost, mRead1, up_ne, uf_i]) (fun k => by simp (disch := omega) only [mRead2, mLost, mRead1, up_ne, uf_i]) hPh
          refine ⟨sf_read2 r0 z4 z5 z2 hd hp hf, sm_read2 z2 hS, Or.inl hs_read2, fun y => ⟨p4, fun _ => ?_⟩, fun _ => ⟨⟨fun y => absurd y nz, fun _ => p4⟩, fun y => by omega⟩⟩
          have y3 : ¬ (M.1 5 j + 1 = 3) := by
            intro w
            exact one0 (by have := y; simp only [if_pos w] at this; exact this)
          refine ⟨c0 + 1, ?_, ?_⟩
          · rw [hc2, nI_1] at y3
            have : ¬ (c0 + 1 = 3) := fun w => y3 (by rw [w]; decide)
            omega
          · simp (disch := omega) only [mRead2, mLost, mRead1, up_ne, up_at, uf_i]; rw [hc2, nI_1]
        · refine ⟨sf_read1 r0 z4 z5 z2 hd hp hf, sm_read1 z2 hS, Or.inl (hs_read1 r0 z4 z5 z2 hd), fun z => absurd z one0, fun _ => ⟨⟨fun y => absurd y nz, fun _ => (show Ph _ nd it k 4 from ph_same (M := M) ?_ (fun k => ?_) hPh)⟩, fun y => by omega⟩⟩
          · simp (disch := omega) only [mRead1, up_ne, uf_i]
          · simp (disch := omega) only [mRead1, up_ne, uf_i]
    · rw [if_neg (by rw [z]; decide)]
      refine ⟨sf_clean (hc1 z) z2 hd hp hf, sm_clean z2 hS, Or.inl (hs_clean (hc1 z) z2 hd), fun z => absurd z one0, fun _ => ⟨⟨fun y => by omega, fun _ => (show Ph _ nd it k 4 from ph_same (M := M) ?_ (fun k => ?_) hPh)⟩, fun y => by omega⟩⟩
      · simp (disch := omega) only [mClean, up_ne, uf_i]
      · simp (disch := omega) only [mClean, up_ne, uf_i]
    · omega
  · rw [ms5 h4]
    have a : PhC M nd it k := hPh
    refine ⟨sf_unload hp hf, sm_unload hS, Or.inl hs_unload, fun z => absurd z one0, fun _ => ⟨⟨fun z => by omega, fun _ => (show PhB (mUnload M it k) nd it from ⟨?_, fun q hq => ?_⟩)⟩, fun y => by omega⟩⟩
    · simp (disch := omega) only [mUnload, up_ne, up_at]
    · by_cases e : q = k
      · subst e; simp (disch := omega) only [mUnload, up_ne, up_at]
      · simp (disch := omega) only [mUnload, up_ne]; exact a.2.1 q hq e
  · rw [ms06 (Or.inr h4)]
    exact stp_go _ m1 hd hp hf (by omega) hS hPh hc0
  · rw [ms7 h4]
    have a : PhB M nd it := hPh
    refine ⟨sf_home hp hf, sm_home hS, Or.inl hs_home, fun z => absurd z one0, fun _ => ⟨⟨fun _ => ⟨?_, fun q hq => ?_⟩, fun y => absurd (Or.inl rfl) y⟩, fun y => by omega⟩⟩
    · unfold mHome; exact up_at
    · simp (disch := omega) only [mHome, up_ne]; exact a.2 q hq
end P28
