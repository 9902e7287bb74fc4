/-! ===== ONE TICK, ON THE MODEL; WHAT IT KEEPS ===== -/
theorem IsMin.ex (ok : Nat → Prop) (key : Nat → Nat) : ∀ n, n ≤ 1000 → ∃ r, IsMin ok key n r
  | 0, _ => ⟨-5, IsMin.zero ok key⟩
  | n + 1, hn => by
    obtain ⟨r, hr⟩ := IsMin.ex ok key n (by omega)
    by_cases h : ok n
    · rcases id hr with ⟨h1, -⟩ | ⟨b, h2, h1, -⟩
      · exact ⟨nI n, hr.take h (Or.inl h1) (by omega)⟩
      · by_cases hk : key n < key b
        · exact ⟨nI n, hr.take h (Or.inr ⟨b, h1, h2, hk⟩) (by omega)⟩
        · exact ⟨r, hr.stay ⟨b, h1, h2, by omega⟩ (by omega)⟩
    · exact ⟨r, hr.skip h⟩
noncomputable def am (ok : Nat → Prop) (key : Nat → Nat) (n : Nat) : Int32 := Classical.epsilon (IsMin ok key n)
theorem am_s (ok : Nat → Prop) (key : Nat → Nat) (n : Nat) (hn : n ≤ 1000) : IsMin ok key n (am ok key n) := Classical.epsilon_spec (IsMin.ex ok key n hn)
theorem am_of {ok : Nat → Prop} {key : Nat → Nat} {n : Nat} {r : Int32} (hn : n < 1000) (h : IsMin ok key n r) : am ok key n = r := IsMin.one hn (am_s ok key n (by omega)) h
/-- the drive to read in, the cleaner, the job to begin -/
noncomputable def aD (M : Mo) (nd : Nat) : Int32 := am (fun k => ¬ dst M k) (fun k => (M.2 (2 * k)).toNat) nd
noncomputable def aC (M : Mo) (ni : Nat) : Int32 := am (fun i => M.1 1 (6 * i) = 1 ∧ 0 < M.1 1 (6 * i + 3)) (fun i => ad (hm M i) (pl M)) ni
noncomputable def aJ (M : Mo) (ni nd nj : Nat) : Int32 := am (OKj M ni nd) (grp M) nj
noncomputable def kdO (M : Mo) (nd j : Nat) : Int32 := if M.1 3 (6 * j) = 0 then aD M nd else if M.1 3 (6 * j) = 1 then M.1 3 (6 * j + 1) else -5
noncomputable def clO (M : Mo) (ni j : Nat) : Int32 := if M.1 3 (6 * j) = 1 then aC M ni else -5
noncomputable def mBg (M : Mo) (ni nd nj : Nat) : Mo := if M.1 0 3 = -5 ∧ aJ M ni nd nj ≠ -5 then mBegin M (aJ M ni nd nj).toNatClampNeg (kdO M nd (aJ M ni nd nj).toNatClampNeg) (clO M ni (aJ M ni nd nj).toNatClampNeg) else M
def oJ (M : Mo) : Nat := (M.1 0 3).toNatClampNeg
def oI (M : Mo) (j : Nat) : Nat := (if M.1 3 (6 * j) = 1 then M.1 4 (6 * j) else M.1 3 (6 * j + 1)).toNatClampNeg
def oK (M : Mo) (j : Nat) : Nat := (M.1 3 (6 * j + 5)).toNatClampNeg
noncomputable def mDo (M : Mo) (j : Nat) : Mo × Int32 := if (mStep M j (oI M j) (oK M j)).2 = 0 then ((mStep M j (oI M j) (oK M j)).1, 0) else mAfter (mStep M j (oI M j) (oK M j)).1 j
noncomputable def mRun (M : Mo) : Mo × Int32 := if M.1 0 3 = -5 then (mIdle M, 0) else mDo M (oJ M)
noncomputable def mOne (M : Mo) (ni nd nj : Nat) : Mo × Int32 := (mPass (mRun (mBg M ni nd nj)).1, (mRun (mBg M ni nd nj)).2)
noncomputable def mTicks (ni nd nj : Nat) : Nat → Mo → Mo × Int32
  | 0, M => (M, 0)
  | n + 1, M => ((mOne (mTicks ni nd nj n M).1 ni nd nj).1, (mTicks ni nd nj n M).2 + (mOne (mTicks ni nd nj n M).1 ni nd nj).2)
def sumI (f : Nat → Int32) : Nat → Int32
  | 0 => 0
  | n + 1 => sumI f n + f n
theorem sumI_c {f g : Nat → Int32} : ∀ n, (∀ k, k < n → f k = g k) → sumI f n = sumI g n
  | 0, _ => rfl
  | n + 1, h => by
    show sumI f n + f n = sumI g n + g n
    rw [sumI_c n (fun k hk => h k (by omega)), h n (by omega)]
theorem sumI_1 {f g : Nat → Int32} {k : Nat} (e : g k = f k + 1) : ∀ n, k < n → (∀ q, q < n → q ≠ k → g q = f q) → sumI g n = sumI f n + 1
  | 0, h, _ => absurd h (Nat.not_lt_zero _)
  | n + 1, h, h2 => by
    show sumI g n + g n = sumI f n + f n + 1
    by_cases q : k = n
    · subst q
      rw [e, sumI_c k (fun q hq => h2 q (by omega) (by omega))]
      exact (Int32.add_assoc _ _ _).symm
    · rw [sumI_1 e n (by omega) (fun q hq => h2 q (by omega)), h2 n (by omega) (fun z => q z.symm), Int32.add_assoc, Int32.add_comm 1, ← Int32.add_assoc]
/-- what a step keeps, and what it may change -/
def Sf (M S : Mo) (ni nd j : Nat) : Prop :=
  (Ip S ∧ Ifl S nd ∧ S.1 3 = M.1 3 ∧ S.1 0 0 = M.1 0 0 ∧ S.1 0 3 = M.1 0 3) ∧ (∀ a, 4 ≤ a → a ≤ 11 → S.1 0 a = M.1 0 a) ∧
  (∀ i, i < ni → S.1 1 (6 * i) = M.1 1 (6 * i) ∧ S.1 1 (6 * i + 4) = M.1 1 (6 * i + 4) ∧ (M.1 1 (6 * i) = 0 → S.1 1 (6 * i + 3) = M.1 1 (6 * i + 3) ∨ S.1 1 (6 * i + 3) = M.1 1 (6 * i + 3) + 1)) ∧
  (∀ k, S.1 2 (7 * k) = M.1 2 (7 * k)) ∧
  (∀ x, x ≠ 6 * j + 1 → x ≠ 6 * j + 2 → S.1 4 x = M.1 4 x) ∧ (∀ q, q ≠ j → S.1 5 q = M.1 5 q) ∧ (S.1 4 (6 * j + 1) = M.1 4 (6 * j + 1) ∨ S.1 4 (6 * j + 1) = 1 ∨ S.1 4 (6 * j + 1) = 2)
def Sm (M : Mo) (nd : Nat) : Prop := M.1 0 12 = sumI (fun k => M.1 2 (7 * k + 3)) nd ∧ M.1 0 13 = sumI (fun k => M.1 2 (7 * k + 4)) nd ∧ M.1 0 14 = sumI (fun k => M.1 2 (7 * k + 5)) nd
def Hs1 (M S : Mo) (ni : Nat) : Prop := ∀ i, i < ni → S.1 1 (6 * i + 1) = M.1 1 (6 * i + 1)
section SF
variable {M : Mo} {ni nd nj j it k T : Nat}
theorem ifl_up {a x : Nat} {v : Int32} (h : Ifl M nd) : Ifl (up M a x v) nd := h
theorem sf_plea (hp : Ip M) (hf : Ifl M nd) : Sf M (mPlea M j) ni nd j := by
  refine ⟨⟨?_, ?_, ?_, ?_, ?_⟩, fun a h1 h2 => ?_, fun i hi => ⟨?_, ?_, fun h0 => ?_⟩, fun k' => ?_, fun x h1 h2 => ?_, fun q hq => ?_, ?_⟩
  · exact hp
  · exact hf
  · first | rfl | (funext x; simp (disch := omega) only [mPlea, up_at, up_ne, uf_i, up_f, uf_at, uf_ne])
  · first | rfl | (simp (disch := omega) only [mPlea, up_at, up_ne, uf_i, up_f, uf_at, uf_ne])
  · first | rfl | (simp (disch := omega) only [mPlea, up_at, up_ne, uf_i, up_f, uf_at, uf_ne])
  · first | rfl | (simp (disch := omega) only [mPlea, up_at, up_ne, uf_i, up_f, uf_at, uf_ne])
  · first | rfl | (simp (disch := omega) only [mPlea, up_at, up_ne, uf_i, up_f, uf_at, uf_ne])
  · first | rfl | (simp (disch := omega) only [mPlea, up_at, up_ne, uf_i, up_f, uf_at, uf_ne])
  · exact Or.inl (by first | rfl | (simp (disch := omega) only [mPlea, up_at, up_ne, uf_i, up_f, uf_at, uf_ne]))
  · first | rfl | (simp (disch := omega) only [mPlea, up_at, up_ne, uf_i, up_f, uf_at, uf_ne])
  · first | rfl | (simp (disch := omega) only [mPlea, up_at, up_ne, uf_i, up_f, uf_at, uf_ne])
  · first | rfl | (simp (disch := omega) only [mPlea, up_at, up_ne, uf_i, up_f, uf_at, uf_ne])
  · exact Or.inl (by first | rfl | (simp (disch := omega) only [mPlea, up_at, up_ne, uf_i, up_f, uf_at, uf_ne]))
theorem hs_plea : Hs1 M (mPlea M j) ni := fun i hi => by first | rfl | (simp (disch := omega) only [mPlea, up_at, up_ne, uf_i, up_f, uf_at, uf_ne])
theorem sm_plea (h : Sm M nd) : Sm (mPlea M j) nd := by
  refine ⟨?_, ?_, ?_⟩
  · refine Eq.trans ?_ (h.1.trans (sumI_c nd (fun q hq => ?_)))
    · first | rfl | (simp (disch := omega) only [mPlea, up_at, up_ne, uf_i, up_f, uf_at, uf_ne])
    · first | rfl | (simp (disch := omega) only [mPlea, up_at, up_ne, uf_i, up_f, uf_at, uf_ne])
  · refine Eq.trans ?_ (h.2.1.trans (sumI_c nd (fun q hq => ?_)))
    · first | rfl | (simp (disch := omega) only [mPlea, up_at, up_ne, uf_i, up_f, uf_at, uf_ne])
    · first | rfl | (simp (disch := omega) only [mPlea, up_at, up_ne, uf_i, up_f, uf_at, uf_ne])
  · refine Eq.trans ?_ (h.2.2.trans (sumI_c nd (fun q hq => ?_)))
    · first | rfl | (simp (disch := omega) only [mPlea, up_at, up_ne, uf_i, up_f, uf_at, uf_ne])
    · first | rfl | (simp (disch := omega) only [mPlea, up_at, up_ne, uf_i, up_f, uf_at, uf_ne])
theorem sf_take (hp : Ip M) (hf : Ifl M nd) : Sf M (mTake M it) ni nd j := by
  refine ⟨⟨?_, ?_, ?_, ?_, ?_⟩, fun a h1 h2 => ?_, fun i hi => ⟨?_, ?_, fun h0 => ?_⟩, fun k' => ?_, fun x h1 h2 => ?_, fun q hq => ?_, ?_⟩
  · exact hp
  · exact hf
  · first | rfl | (funext x; simp (disch := omega) only [mTake, up_at, up_ne, uf_i, up_f, uf_at, uf_ne])
  · first | rfl | (simp (disch := omega) only [mTake, up_at, up_ne, uf_i, up_f, uf_at, uf_ne])
  · first | rfl | (simp (disch := omega) only [mTake, up_at, up_ne, uf_i, up_f, uf_at, uf_ne])
  · first | rfl | (simp (disch := omega) only [mTake, up_at, up_ne, uf_i, up_f, uf_at, uf_ne])
  · first | rfl | (simp (disch := omega) only [mTake, up_at, up_ne, uf_i, up_f, uf_at, uf_ne])
  · first | rfl | (simp (disch := omega) only [mTake, up_at, up_ne, uf_i, up_f, uf_at, uf_ne])
  · exact Or.inl (by first | rfl | (simp (disch := omega) only [mTake, up_at, up_ne, uf_i, up_f, uf_at, uf_ne]))
  · first | rfl | (simp (disch := omega) only [mTake, up_at, up_ne, uf_i, up_f, uf_at, uf_ne])
  · first | rfl | (simp (disch := omega) only [mTake, up_at, up_ne, uf_i, up_f, uf_at, uf_ne])
  · first | rfl | (simp (disch := omega) only [mTake, up_at, up_ne, uf_i, up_f, uf_at, uf_ne])
  · exact Or.inl (by first | rfl | (simp (disch := omega) only [mTake, up_at, up_ne, uf_i, up_f, uf_at, uf_ne]))
theorem hs_take : Hs1 M (mTake M it) ni := fun i hi => by first | rfl | (simp (disch := omega) only [mTake, up_at, up_ne, uf_i, up_f, uf_at, uf_ne])
theorem sm_take (h : Sm M nd) : Sm (mTake M it) nd := by
  refine ⟨?_, ?_, ?_⟩
  · refine Eq.trans ?_ (h.1.trans (sumI_c nd (fun q hq => ?_)))
    · first | rfl | (simp (disch := omega) only [mTake, up_at, up_ne, uf_i, up_f, uf_at, uf_ne])
    · first | rfl | (simp (disch := omega) only [mTake, up_at, up_ne, uf_i, up_f, uf_at, uf_ne])
  · refine Eq.trans ?_ (h.2.1.trans (sumI_c nd (fun q hq => ?_)))
    · first | rfl | (simp (disch := omega) only [mTake, up_at, up_ne, uf_i, up_f, uf_at, uf_ne])
    · first | rfl | (simp (disch := omega) only [mTake, up_at, up_ne, uf_i, up_f, uf_at, uf_ne])
  · refine Eq.trans ?_ (h.2.2.trans (sumI_c nd (fun q hq => ?_)))
    · first | rfl | (simp (disch := omega) only [mTake, up_at, up_ne, uf_i, up_f, uf_at, uf_ne])
    · first | rfl | (simp (disch := omega) only [mTake, up_at, up_ne, uf_i, up_f, uf_at, uf_ne])
theorem sf_home (hp : Ip M) (hf : Ifl M nd) : Sf M (mHome M it) ni nd j := by
  refine ⟨⟨?_, ?_, ?_, ?_, ?_⟩, fun a h1 h2 => ?_, fun i hi => ⟨?_, ?_, fun h0 => ?_⟩, fun k' => ?_, fun x h1 h2 => ?_, fun q hq => ?_, ?_⟩
  · exact hp
  · exact hf
  · first | rfl | (funext x; simp (disch := omega) only [mHome, up_at, up_ne, uf_i, up_f, uf_at, uf_ne])
  · first | rfl | (simp (disch := omega) only [mHome, up_at, up_ne, uf_i, up_f, uf_at, uf_ne])
  · first | rfl | (simp (disch := omega) only [mHome, up_at, up_ne, uf_i, up_f, uf_at, uf_ne])
  · first | rfl | (simp (disch := omega) only [mHome, up_at, up_ne, uf_i, up_f, uf_at, uf_ne])
  · first | rfl | (simp (disch := omega) only [mHome, up_at, up_ne, uf_i, up_f, uf_at, uf_ne])
  · first | rfl | (simp (disch := omega) only [mHome, up_at, up_ne, uf_i, up_f, uf_at, uf_ne])
  · exact Or.inl (by first | rfl | (simp (disch := omega) only [mHome, up_at, up_ne, uf_i, up_f, uf_at, uf_ne]))
  · first | rfl | (simp (disch := omega) only [mHome, up_at, up_ne, uf_i, up_f, uf_at, uf_ne])
  · first | rfl | (simp (disch := omega) only [mHome, up_at, up_ne, uf_i, up_f, uf_at, uf_ne])
  · first | rfl | (simp (disch := omega) only [mHome, up_at, up_ne, uf_i, up_f, uf_at, uf_ne])
  · exact Or.inl (by first | rfl | (simp (disch := omega) only [mHome, up_at, up_ne, uf_i, up_f, uf_at, uf_ne]))
theorem hs_home : Hs1 M (mHome M it) ni := fun i hi => by first | rfl | (simp (disch := omega) only [mHome, up_at, up_ne, uf_i, up_f, uf_at, uf_ne])
theorem sm_home (h : Sm M nd) : Sm (mHome M it) nd := by
  refine ⟨?_, ?_, ?_⟩
  · refine Eq.trans ?_ (h.1.trans (sumI_c nd (fun q hq => ?_)))
    · first | rfl | (simp (disch := omega) only [mHome, up_at, up_ne, uf_i, up_f, uf_at, uf_ne])
    · first | rfl | (simp (disch := omega) only [mHome, up_at, up_ne, uf_i, up_f, uf_at, uf_ne])
  · refine Eq.trans ?_ (h.2.1.trans (sumI_c nd (fun q hq => ?_)))
    · first | rfl | (simp (disch := omega) only [mHome, up_at, up_ne, uf_i, up_f, uf_at, uf_ne])
    · first | rfl | (simp (disch := omega) only [mHome, up_at, up_ne, uf_i, up_f, uf_at, uf_ne])
  · refine Eq.trans ?_ (h.2.2.trans (sumI_c nd (fun q hq => ?_)))
    · first | rfl | (simp (disch := omega) only [mHome, up_at, up_ne, uf_i, up_f, uf_at, uf_ne])
    · first | rfl | (simp (disch := omega) only [mHome, up_at, up_ne, uf_i, up_f, uf_at, uf_ne])
theorem sf_load (hp : Ip M) (hf : Ifl M nd) : Sf M (mLoad M it k) ni nd j := by
  refine ⟨⟨?_, ?_, ?_, ?_, ?_⟩, fun a h1 h2 => ?_, fun i hi => ⟨?_, ?_, fun h0 => ?_⟩, fun k' => ?_, fun x h1 h2 => ?_, fun q hq => ?_, ?_⟩
  · exact hp
  · exact hf
  · first | rfl | (funext x; simp (disch := omega) only [mLoad, up_at, up_ne, uf_i, up_f, uf_at, uf_ne])
  · first | rfl | (simp (disch := omega) only [mLoad, up_at, up_ne, uf_i, up_f, uf_at, uf_ne])
  · first | rfl | (simp (disch := omega) only [mLoad, up_at, up_ne, uf_i, up_f, uf_at, uf_ne])
  · first | rfl | (simp (disch := omega) only [mLoad, up_at, up_ne, uf_i, up_f, uf_at, uf_ne])
  · first | rfl | (simp (disch := omega) only [mLoad, up_at, up_ne, uf_i, up_f, uf_at, uf_ne])
  · first | rfl | (simp (disch := omega) only [mLoad, up_at, up_ne, uf_i, up_f, uf_at, uf_ne])
  · exact Or.inl (by first | rfl | (simp (disch := omega) only [mLoad, up_at, up_ne, uf_i, up_f, uf_at, uf_ne]))
  · first | rfl | (simp (disch := omega) only [mLoad, up_at, up_ne, uf_i, up_f, uf_at, uf_ne])
  · first | rfl | (simp (disch := omega) only [mLoad, up_at, up_ne, uf_i, up_f, uf_at, uf_ne])
  · first | rfl | (simp (disch := omega) only [mLoad, up_at, up_ne, uf_i, up_f, uf_at, uf_ne])
  · exact Or.inl (by first | rfl | (simp (disch := omega) only [mLoad, up_at, up_ne, uf_i, up_f, uf_at, uf_ne]))
theorem hs_load : Hs1 M (mLoad M it k) ni := fun i hi => by first | rfl | (simp (disch := omega) only [mLoad, up_at, up_ne, uf_i, up_f, uf_at, uf_ne])
theorem sm_load (h : Sm M nd) : Sm (mLoad M it k) nd := by
  refine ⟨?_, ?_, ?_⟩
  · refine Eq.trans ?_ (h.1.trans (sumI_c nd (fun q hq => ?_)))
    · first | rfl | (simp (disch := omega) only [mLoad, up_at, up_ne, uf_i, up_f, uf_at, uf_ne])
    · first | rfl | (simp (disch := omega) only [mLoad, up_at, up_ne, uf_i, up_f, uf_at, uf_ne])
  · refine Eq.trans ?_ (h.2.1.trans (sumI_c nd (fun q hq => ?_)))
    · first | rfl | (simp (disch := omega) only [mLoad, up_at, up_ne, uf_i, up_f, uf_at, uf_ne])
    · first | rfl | (simp (disch := omega) only [mLoad, up_at, up_ne, uf_i, up_f, uf_at, uf_ne])
  · refine Eq.trans ?_ (h.2.2.trans (sumI_c nd (fun q hq => ?_)))
    · first | rfl | (simp (disch := omega) only [mLoad, up_at, up_ne, uf_i, up_f, uf_at, uf_ne])
    · first | rfl | (simp (disch := omega) only [mLoad, up_at, up_ne, uf_i, up_f, uf_at, uf_ne])
theorem sf_unload (hp : Ip M) (hf : Ifl M nd) : Sf M (mUnload M it k) ni nd j := by
  refine ⟨⟨?_, ?_, ?_, ?_, ?_⟩, fun a h1 h2 => ?_, fun i hi => ⟨?_, ?_, fun h0 => ?_⟩, fun k' => ?_, fun x h1 h2 => ?_, fun q hq => ?_, ?_⟩
  · exact hp
  · exact hf
  · first | rfl | (funext x; simp (disch := omega) only [mUnload, up_at, up_ne, uf_i, up_f, uf_at, uf_ne])
  · first | rfl | (simp (disch := omega) only [mUnload, up_at, up_ne, uf_i, up_f, uf_at, uf_ne])
  · first | rfl | (simp (disch := omega) only [mUnload, up_at, up_ne, uf_i, up_f, uf_at, uf_ne])
  · first | rfl | (simp (disch := omega) only [mUnload, up_at, up_ne, uf_i, up_f, uf_at, uf_ne])
  · first | rfl | (simp (disch := omega) only [mUnload, up_at, up_ne, uf_i, up_f, uf_at, uf_ne])
  · first | rfl | (simp (disch := omega) only [mUnload, up_at, up_ne, uf_i, up_f, uf_at, uf_ne])
  · exact Or.inl (by first | rfl | (simp (disch := omega) only [mUnload, up_at, up_ne, uf_i, up_f, uf_at, uf_ne]))
  · first | rfl | (simp (disch := omega) only [mUnload, up_at, up_ne, uf_i, up_f, uf_at, uf_ne])
  · first | rfl | (simp (disch := omega) only [mUnload, up_at, up_ne, uf_i, up_f, uf_at, uf_ne])
  · first | rfl | (simp (disch := omega) only [mUnload, up_at, up_ne, uf_i, up_f, uf_at, uf_ne])
  · exact Or.inl (by first | rfl | (simp (disch := omega) only [mUnload, up_at, up_ne, uf_i, up_f, uf_at, uf_ne]))
theorem hs_unload : Hs1 M (mUnload M it k) ni := fun i hi => by first | rfl | (simp (disch := omega) only [mUnload, up_at, up_ne, uf_i, up_f, uf_at, uf_ne])
theorem sm_unload (h : Sm M nd) : Sm (mUnload M it k) nd := by
  refine ⟨?_, ?_, ?_⟩
  · refine Eq.trans ?_ (h.1.trans (sumI_c nd (fun q hq => ?_)))
    · first | rfl | (simp (disch := omega) only [mUnload, up_at, up_ne, uf_i, up_f, uf_at, uf_ne])
    · first | rfl | (simp (disch := omega) only [mUnload, up_at, up_ne, uf_i, up_f, uf_at, uf_ne])
  · refine Eq.trans ?_ (h.2.1.trans (sumI_c nd (fun q hq => ?_)))
    · first | rfl | (simp (disch := omega) only [mUnload, up_at, up_ne, uf_i, up_f, uf_at, uf_ne])
    · first | rfl | (simp (disch := omega) only [mUnload, up_at, up_ne, uf_i, up_f, uf_at, uf_ne])
  · refine Eq.trans ?_ (h.2.2.trans (sumI_c nd (fun q hq => ?_)))
    · first | rfl | (simp (disch := omega) only [mUnload, up_at, up_ne, uf_i, up_f, uf_at, uf_ne])
    · first | rfl | (simp (disch := omega) only [mUnload, up_at, up_ne, uf_i, up_f, uf_at, uf_ne])
theorem sf_move (v : Int32) (hp : Ip M) (hf : Ifl M nd) : Sf M (mMove M it v) ni nd j := by
  refine ⟨⟨?_, ?_, ?_, ?_, ?_⟩, fun a h1 h2 => ?_, fun i hi => ⟨?_, ?_, fun h0 => ?_⟩, fun k' => ?_, fun x h1 h2 => ?_, fun q hq => ?_, ?_⟩
  · exact hp
  · exact hf
  · first | rfl | (funext x; simp (disch := omega) only [mMove, mHome, up_at, up_ne, uf_i, up_f, uf_at, uf_ne])
  · first | rfl | (simp (disch := omega) only [mMove, mHome, up_at, up_ne, uf_i, up_f, uf_at, uf_ne])
  · first | rfl | (simp (disch := omega) only [mMove, mHome, up_at, up_ne, uf_i, up_f, uf_at, uf_ne])
  · first | rfl | (simp (disch := omega) only [mMove, mHome, up_at, up_ne, uf_i, up_f, uf_at, uf_ne])
  · first | rfl | (simp (disch := omega) only [mMove, mHome, up_at, up_ne, uf_i, up_f, uf_at, uf_ne])
  · first | rfl | (simp (disch := omega) only [mMove, mHome, up_at, up_ne, uf_i, up_f, uf_at, uf_ne])
  · exact Or.inl (by first | rfl | (simp (disch := omega) only [mMove, mHome, up_at, up_ne, uf_i, up_f, uf_at, uf_ne]))
  · first | rfl | (simp (disch := omega) only [mMove, mHome, up_at, up_ne, uf_i, up_f, uf_at, uf_ne])
  · first | rfl | (simp (disch := omega) only [mMove, mHome, up_at, up_ne, uf_i, up_f, uf_at, uf_ne])
  · first | rfl | (simp (disch := omega) only [mMove, mHome, up_at, up_ne, uf_i, up_f, uf_at, uf_ne])
  · exact Or.inl (by first | rfl | (simp (disch := omega) only [mMove, mHome, up_at, up_ne, uf_i, up_f, uf_at, uf_ne]))
theorem sm_move (v : Int32) (h : Sm M nd) : Sm (mMove M it v) nd := by
  refine ⟨?_, ?_, ?_⟩
  · refine Eq.trans ?_ (h.1.trans (sumI_c nd (fun q hq => ?_)))
    · first | rfl | (simp (disch := omega) only [mMove, mHome, up_at, up_ne, uf_i, up_f, uf_at, uf_ne])
    · first | rfl | (simp (disch := omega) only [mMove, mHome, up_at, up_ne, uf_i, up_f, uf_at, uf_ne])
  · refine Eq.trans ?_ (h.2.1.trans (sumI_c nd (fun q hq => ?_)))
    · first | rfl | (simp (disch := omega) only [mMove, mHome, up_at, up_ne, uf_i, up_f, uf_at, uf_ne])
    · first | rfl | (simp (disch := omega) only [mMove, mHome, up_at, up_ne, uf_i, up_f, uf_at, uf_ne])
  · refine Eq.trans ?_ (h.2.2.trans (sumI_c nd (fun q hq => ?_)))
    · first | rfl | (simp (disch := omega) only [mMove, mHome, up_at, up_ne, uf_i, up_f, uf_at, uf_ne])
    · first | rfl | (simp (disch := omega) only [mMove, mHome, up_at, up_ne, uf_i, up_f, uf_at, uf_ne])
theorem sf_reason (hp : Ip M) (hf : Ifl M nd) : Sf M (up M 4 (6 * j + 1) 1) ni nd j := by
  refine ⟨⟨?_, ?_, ?_, ?_, ?_⟩, fun a h1 h2 => ?_, fun i hi => ⟨?_, ?_, fun h0 => ?_⟩, fun k' => ?_, fun x h1 h2 => ?_, fun q hq => ?_, ?_⟩
  · exact hp
  · exact hf
  · first | rfl | (funext x; simp (disch := omega) only [up_at, up_ne, uf_i, up_f, uf_at, uf_ne])
  · first | rfl | (simp (disch := omega) only [up_at, up_ne, uf_i, up_f, uf_at, uf_ne])
  · first | rfl | (simp (disch := omega) only [up_at, up_ne, uf_i, up_f, uf_at, uf_ne])
  · first | rfl | (simp (disch := omega) only [up_at, up_ne, uf_i, up_f, uf_at, uf_ne])
  · first | rfl | (simp (disch := omega) only [up_at, up_ne, uf_i, up_f, uf_at, uf_ne])
  · first | rfl | (simp (disch := omega) only [up_at, up_ne, uf_i, up_f, uf_at, uf_ne])
  · exact Or.inl (by first | rfl | (simp (disch := omega) only [up_at, up_ne, uf_i, up_f, uf_at, uf_ne]))
  · first | rfl | (simp (disch := omega) only [up_at, up_ne, uf_i, up_f, uf_at, uf_ne])
  · first | rfl | (simp (disch := omega) only [up_at, up_ne, uf_i, up_f, uf_at, uf_ne])
  · first | rfl | (simp (disch := omega) only [up_at, up_ne, uf_i, up_f, uf_at, uf_ne])
  · exact Or.inr (Or.inl up_at)
theorem hs_reason : Hs1 M (up M 4 (6 * j + 1) 1) ni := fun i hi => by first | rfl | (simp (disch := omega) only [up_at, up_ne, uf_i, up_f, uf_at, uf_ne])
theorem sm_reason (h : Sm M nd) : Sm (up M 4 (6 * j + 1) 1) nd := by
  refine ⟨?_, ?_, ?_⟩
  · refine Eq.trans ?_ (h.1.trans (sumI_c nd (fun q hq => ?_)))
    · first | rfl | (simp (disch := omega) only [up_at, up_ne, uf_i, up_f, uf_at, uf_ne])
    · first | rfl | (simp (disch := omega) only [up_at, up_ne, uf_i, up_f, uf_at, uf_ne])
  · refine Eq.trans ?_ (h.2.1.trans (sumI_c nd (fun q hq => ?_)))
    · first | rfl | (simp (disch := omega) only [up_at, up_ne, uf_i, up_f, uf_at, uf_ne])
    · first | rfl | (simp (disch := omega) only [up_at, up_ne, uf_i, up_f, uf_at, uf_ne])
  · refine Eq.trans ?_ (h.2.2.trans (sumI_c nd (fun q hq => ?_)))
    · first | rfl | (simp (disch := omega) only [up_at, up_ne, uf_i, up_f, uf_at, uf_ne])
    · first | rfl | (simp (disch := omega) only [up_at, up_ne, uf_i, up_f, uf_at, uf_ne])
theorem sf_id (hp : Ip M) (hf : Ifl M nd) : Sf M (M) ni nd j := by
  refine ⟨⟨?_, ?_, ?_, ?_, ?_⟩, fun a h1 h2 => ?_, fun i hi => ⟨?_, ?_, fun h0 => ?_⟩, fun k' => ?_, fun x h1 h2 => ?_, fun q hq => ?_, ?_⟩
  · exact hp
  · exact hf
  · first | rfl | (funext x; simp (disch := omega) only [up_at, up_ne, uf_i, up_f, uf_at, uf_ne])
  · first | rfl | (simp (disch := omega) only [up_at, up_ne, uf_i, up_f, uf_at, uf_ne])
  · first | rfl | (simp (disch := omega) only [up_at, up_ne, uf_i, up_f, uf_at, uf_ne])
  · first | rfl | (simp (disch := omega) only [up_at, up_ne, uf_i, up_f, uf_at, uf_ne])
  · first | rfl | (simp (disch := omega) only [up_at, up_ne, uf_i, up_f, uf_at, uf_ne])
  · first | rfl | (simp (disch := omega) only [up_at, up_ne, uf_i, up_f, uf_at, uf_ne])
  · exact Or.inl (by first | rfl | (simp (disch := omega) only [up_at, up_ne, uf_i, up_f, uf_at, uf_ne]))
  · first | rfl | (simp (disch := omega) only [up_at, up_ne, uf_i, up_f, uf_at, uf_ne])
  · first | rfl | (simp (disch := omega) only [up_at, up_ne, uf_i, up_f, uf_at, uf_ne])
  · first | rfl | (simp (disch := omega) only [up_at, up_ne, uf_i, up_f, uf_at, uf_ne])
  · exact Or.inl (by first | rfl | (simp (disch := omega) only [up_at, up_ne, uf_i, up_f, uf_at, uf_ne]))
theorem hs_id : Hs1 M (M) ni := fun i hi => by first | rfl | (simp (disch := omega) only [up_at, up_ne, uf_i, up_f, uf_at, uf_ne])
theorem sm_id (h : Sm M nd) : Sm (M) nd := by
  refine ⟨?_, ?_, ?_⟩
  · refine Eq.trans ?_ (h.1.trans (sumI_c nd (fun q hq => ?_)))
    · first | rfl | (simp (disch := omega) only [up_at, up_ne, uf_i, up_f, uf_at, uf_ne])
    · first | rfl | (simp (disch := omega) only [up_at, up_ne, uf_i, up_f, uf_at, uf_ne])
  · refine Eq.trans ?_ (h.2.1.trans (sumI_c nd (fun q hq => ?_)))
    · first | rfl | (simp (disch := omega) only [up_at, up_ne, uf_i, up_f, uf_at, uf_ne])
    · first | rfl | (simp (disch := omega) only [up_at, up_ne, uf_i, up_f, uf_at, uf_ne])
  · refine Eq.trans ?_ (h.2.2.trans (sumI_c nd (fun q hq => ?_)))
    · first | rfl | (simp (disch := omega) only [up_at, up_ne, uf_i, up_f, uf_at, uf_ne])
    · first | rfl | (simp (disch := omega) only [up_at, up_ne, uf_i, up_f, uf_at, uf_ne])
theorem ip_went {s : Nat} (hs : s < 24) : Ip (mWent M s) := by
  have e : (mWent M s).1 0 1 = nI s := by unfold mWent; rw [up_ne (by omega), up_at]
  unfold Ip pl
  rw [e, nI_clamp (by omega)]
  exact ⟨hs, rfl⟩
theorem ifl_8 {x : UInt32} (h : Ifl M nd) (g : Gd x) (hd : nd ≤ 4) : Ifl (uf M 8 x) nd := by
  refine ⟨fun k hk => ⟨?_, ?_⟩, ?_, ?_⟩
  · rw [uf_ne (by omega)]; exact (h.1 k hk).1
  · rw [uf_ne (by omega)]; exact (h.1 k hk).2
  · rw [uf_at]; exact g
  · rw [uf_ne (by omega)]; exact h.2.2
theorem ifl_k {x : UInt32} (h : Ifl M nd) (g : Gd x) (hd : nd ≤ 4) (hk : k < nd) : Ifl (uf M (2 * k) x) nd := by
  refine ⟨fun q hq => ⟨?_, ?_⟩, ?_, ?_⟩
  · by_cases e : q = k
    · subst e; rw [uf_at]; exact g
    · rw [uf_ne (by omega)]; exact (h.1 q hq).1
  · rw [uf_ne (by omega)]; exact (h.1 q hq).2
  · rw [uf_ne (by omega)]; exact h.2.1
  · rw [uf_ne (by omega)]; exact h.2.2
theorem sf_went (s : Nat) (hs : s < 24) (hd : nd ≤ 4) (hp : Ip M) (hf : Ifl M nd) : Sf M (mWent M s) ni nd j := by
  refine ⟨⟨?_, ?_, ?_, ?_, ?_⟩, fun a h1 h2 => ?_, fun i hi => ⟨?_, ?_, fun h0 => ?_⟩, fun k' => ?_, fun x h1 h2 => ?_, fun q hq => ?_, ?_⟩
  · exact ip_went hs
  · exact ifl_8 hf (fl_add hf.2.1 (cost_Gd hs hp).1) hd
  · first | rfl | (funext x; simp (disch := omega) only [mWent, up_at, up_ne, uf_i, up_f, uf_at, uf_ne])
  · first | rfl | (simp (disch := omega) only [mWent, up_at, up_ne, uf_i, up_f, uf_at, uf_ne])
  · first | rfl | (simp (disch := omega) only [mWent, up_at, up_ne, uf_i, up_f, uf_at, uf_ne])
  · first | rfl | (simp (disch := omega) only [mWent, up_at, up_ne, uf_i, up_f, uf_at, uf_ne])
  · first | rfl | (simp (disch := omega) only [mWent, up_at, up_ne, uf_i, up_f, uf_at, uf_ne])
  · first | rfl | (simp (disch := omega) only [mWent, up_at, up_ne, uf_i, up_f, uf_at, uf_ne])
  · exact Or.inl (by first | rfl | (simp (disch := omega) only [mWent, up_at, up_ne, uf_i, up_f, uf_at, uf_ne]))
  · first | rfl | (simp (disch := omega) only [mWent, up_at, up_ne, uf_i, up_f, uf_at, uf_ne])
  · first | rfl | (simp (disch := omega) only [mWent, up_at, up_ne, uf_i, up_f, uf_at, uf_ne])
  · first | rfl | (simp (disch := omega) only [mWent, up_at, up_ne, uf_i, up_f, uf_at, uf_ne])
  · exact Or.inl (by first | rfl | (simp (disch := omega) only [mWent, up_at, up_ne, uf_i, up_f, uf_at, uf_ne]))
theorem hs_went (s : Nat) (hs : s < 24) (hd : nd ≤ 4) : Hs1 M (mWent M s) ni := fun i hi => by first | rfl | (simp (disch := omega) only [mWent, up_at, up_ne, uf_i, up_f, uf_at, uf_ne])
theorem sm_went (s : Nat) (hs : s < 24) (hd : nd ≤ 4) (h : Sm M nd) : Sm (mWent M s) nd := by
  refine ⟨?_, ?_, ?_⟩
  · refine Eq.trans ?_ (h.1.trans (sumI_c nd (fun q hq => ?_)))
    · first | rfl | (simp (disch := omega) only [mWent, up_at, up_ne, uf_i, up_f, uf_at, uf_ne])
    · first | rfl | (simp (disch := omega) only [mWent, up_at, up_ne, uf_i, up_f, uf_at, uf_ne])
  · refine Eq.trans ?_ (h.2.1.trans (sumI_c nd (fun q hq => ?_)))
    · first | rfl | (simp (disch := omega) only [mWent, up_at, up_ne, uf_i, up_f, uf_at, uf_ne])
    · first | rfl | (simp (disch := omega) only [mWent, up_at, up_ne, uf_i, up_f, uf_at, uf_ne])
  · refine Eq.trans ?_ (h.2.2.trans (sumI_c nd (fun q hq => ?_)))
    · first | rfl | (simp (disch := omega) only [mWent, up_at, up_ne, uf_i, up_f, uf_at, uf_ne])
    · first | rfl | (simp (disch := omega) only [mWent, up_at, up_ne, uf_i, up_f, uf_at, uf_ne])
theorem sf_read1 (r0 : Nat) (hr : r0 < 1600) (ha : M.1 1 (6 * it + 3) = nI r0) (hk : k < nd) (hd : nd ≤ 4) (hp : Ip M) (hf : Ifl M nd) : Sf M (mRead1 M it k) ni nd j := by
  refine ⟨⟨?_, ?_, ?_, ?_, ?_⟩, fun a h1 h2 => ?_, fun i hi => ⟨?_, ?_, fun h0 => ?_⟩, fun k' => ?_, fun x h1 h2 => ?_, fun q hq => ?_, ?_⟩
  · exact hp
  · exact ifl_k hf (fl_add (hf.1 k hk).1 (by rw [ha]; exact (more_l r0 hr).2)) hd hk
  · first | rfl | (funext x; simp (disch := omega) only [mRead1, up_at, up_ne, uf_i, up_f, uf_at, uf_ne])
  · first | rfl | (simp (disch := omega) only [mRead1, up_at, up_ne, uf_i, up_f, uf_at, uf_ne])
  · first | rfl | (simp (disch := omega) only [mRead1, up_at, up_ne, uf_i, up_f, uf_at, uf_ne])
  · first | rfl | (simp (disch := omega) only [mRead1, up_at, up_ne, uf_i, up_f, uf_at, uf_ne])
  · first | rfl | (simp (disch := omega) only [mRead1, up_at, up_ne, uf_i, up_f, uf_at, uf_ne])
  · first | rfl | (simp (disch := omega) only [mRead1, up_at, up_ne, uf_i, up_f, uf_at, uf_ne])
  · by_cases e : i = it
    · subst e; exact Or.inr (by simp (disch := omega) only [mRead1, up_at, up_ne, uf_i, up_f, uf_at, uf_ne])
    · exact Or.inl (by simp (disch := omega) only [mRead1, up_at, up_ne, uf_i, up_f, uf_at, uf_ne])
  · first | rfl | (simp (disch := omega) only [mRead1, up_at, up_ne, uf_i, up_f, uf_at, uf_ne])
  · first | rfl | (simp (disch := omega) only [mRead1, up_at, up_ne, uf_i, up_f, uf_at, uf_ne])
  · first | rfl | (simp (disch := omega) only [mRead1, up_at, up_ne, uf_i, up_f, uf_at, uf_ne])
  · exact Or.inl (by first | rfl | (simp (disch := omega) only [mRead1, up_at, up_ne, uf_i, up_f, uf_at, uf_ne]))
theorem hs_read1 (r0 : Nat) (hr : r0 < 1600) (ha : M.1 1 (6 * it + 3) = nI r0) (hk : k < nd) (hd : nd ≤ 4) : Hs1 M (mRead1 M it k) ni := fun i hi => by first | rfl | (simp (disch := omega) only [mRead1, up_at, up_ne, uf_i, up_f, uf_at, uf_ne])
theorem sm_read1 (hk : k < nd) (h : Sm M nd) : Sm (mRead1 M it k) nd := by
  refine ⟨?_, ?_, ?_⟩
  · refine Eq.trans ?_ ((congrArg (fun z => z + 1) h.1).trans (sumI_1 (k := k) ?_ nd hk (fun q hq e => ?_)).symm)
    · first | rfl | (simp (disch := omega) only [mRead1, up_at, up_ne, uf_i, up_f, uf_at, uf_ne])
    · first | rfl | (simp (disch := omega) only [mRead1, up_at, up_ne, uf_i, up_f, uf_at, uf_ne])
    · first | rfl | (simp (disch := omega) only [mRead1, up_at, up_ne, uf_i, up_f, uf_at, uf_ne])
  · refine Eq.trans ?_ (h.2.1.trans (sumI_c nd (fun q hq => ?_)))
    · first | rfl | (simp (disch := omega) only [mRead1, up_at, up_ne, uf_i, up_f, uf_at, uf_ne])
    · first | rfl | (simp (disch := omega) only [mRead1, up_at, up_ne, uf_i, up_f, uf_at, uf_ne])
  · refine Eq.trans ?_ (h.2.2.trans (sumI_c nd (fun q hq => ?_)))
    · first | rfl | (simp (disch := omega) only [mRead1, up_at, up_ne, uf_i, up_f, uf_at, uf_ne])
    · first | rfl | (simp (disch := omega) only [mRead1, up_at, up_ne, uf_i, up_f, uf_at, uf_ne])
theorem sf_clean (hi1 : M.1 1 (6 * it) = 1) (hk : k < nd) (hd : nd ≤ 4) (hp : Ip M) (hf : Ifl M nd) : Sf M (mClean M it k) ni nd j := by
  refine ⟨⟨?_, ?_, ?_, ?_, ?_⟩, fun a h1 h2 => ?_, fun i hi => ⟨?_, ?_, fun h0 => ?_⟩, fun k' => ?_, fun x h1 h2 => ?_, fun q hq => ?_, ?_⟩
  · exact hp
  · exact ifl_k hf (fl_mul8 (hf.1 k hk).1) hd hk
  · first | rfl | (funext x; simp (disch := omega) only [mClean, up_at, up_ne, uf_i, up_f, uf_at, uf_ne])
  · first | rfl | (simp (disch := omega) only [mClean, up_at, up_ne, uf_i, up_f, uf_at, uf_ne])
  · first | rfl | (simp (disch := omega) only [mClean, up_at, up_ne, uf_i, up_f, uf_at, uf_ne])
  · first | rfl | (simp (disch := omega) only [mClean, up_at, up_ne, uf_i, up_f, uf_at, uf_ne])
  · first | rfl | (simp (disch := omega) only [mClean, up_at, up_ne, uf_i, up_f, uf_at, uf_ne])
  · first | rfl | (simp (disch := omega) only [mClean, up_at, up_ne, uf_i, up_f, uf_at, uf_ne])
  · by_cases e : i = it
    · subst e; rw [hi1] at h0; exact absurd h0 (by decide)
    · exact Or.inl (by simp (disch := omega) only [mClean, up_at, up_ne, uf_i, up_f, uf_at, uf_ne])
  · first | rfl | (simp (disch := omega) only [mClean, up_at, up_ne, uf_i, up_f, uf_at, uf_ne])
  · first | rfl | (simp (disch := omega) only [mClean, up_at, up_ne, uf_i, up_f, uf_at, uf_ne])
  · first | rfl | (simp (disch := omega) only [mClean, up_at, up_ne, uf_i, up_f, uf_at, uf_ne])
  · exact Or.inl (by first | rfl | (simp (disch := omega) only [mClean, up_at, up_ne, uf_i, up_f, uf_at, uf_ne]))
theorem hs_clean (hi1 : M.1 1 (6 * it) = 1) (hk : k < nd) (hd : nd ≤ 4) : Hs1 M (mClean M it k) ni := fun i hi => by first | rfl | (simp (disch := omega) only [mClean, up_at, up_ne, uf_i, up_f, uf_at, uf_ne])
theorem sm_clean (hk : k < nd) (h : Sm M nd) : Sm (mClean M it k) nd := by
  refine ⟨?_, ?_, ?_⟩
  · refine Eq.trans ?_ (h.1.trans (sumI_c nd (fun q hq => ?_)))
    · first | rfl | (simp (disch := omega) only [mClean, up_at, up_ne, uf_i, up_f, uf_at, uf_ne])
    · first | rfl | (simp (disch := omega) only [mClean, up_at, up_ne, uf_i, up_f, uf_at, uf_ne])
  · refine Eq.trans ?_ (h.2.1.trans (sumI_c nd (fun q hq => ?_)))
    · first | rfl | (simp (disch := omega) only [mClean, up_at, up_ne, uf_i, up_f, uf_at, uf_ne])
    · first | rfl | (simp (disch := omega) only [mClean, up_at, up_ne, uf_i, up_f, uf_at, uf_ne])
  · refine Eq.trans ?_ ((congrArg (fun z => z + 1) h.2.2).trans (sumI_1 (k := k) ?_ nd hk (fun q hq e => ?_)).symm)
    · first | rfl | (simp (disch := omega) only [mClean, up_at, up_ne, uf_i, up_f, uf_at, uf_ne])
    · first | rfl | (simp (disch := omega) only [mClean, up_at, up_ne, uf_i, up_f, uf_at, uf_ne])
    · first | rfl | (simp (disch := omega) only [mClean, up_at, up_ne, uf_i, up_f, uf_at, uf_ne])
theorem sf_lost (hp : Ip M) (hf : Ifl M nd) : Sf M (mLost M it k) ni nd j := by
  refine ⟨⟨?_, ?_, ?_, ?_, ?_⟩, fun a h1 h2 => ?_, fun i hi => ⟨?_, ?_, fun h0 => ?_⟩, fun k' => ?_, fun x h1 h2 => ?_, fun q hq => ?_, ?_⟩
  · exact hp
  · exact hf
  · first | rfl | (funext x; simp (disch := omega) only [mLost, up_at, up_ne, uf_i, up_f, uf_at, uf_ne])
  · first | rfl | (simp (disch := omega) only [mLost, up_at, up_ne, uf_i, up_f, uf_at, uf_ne])
  · first | rfl | (simp (disch := omega) only [mLost, up_at, up_ne, uf_i, up_f, uf_at, uf_ne])
  · first | rfl | (simp (disch := omega) only [mLost, up_at, up_ne, uf_i, up_f, uf_at, uf_ne])
  · first | rfl | (simp (disch := omega) only [mLost, up_at, up_ne, uf_i, up_f, uf_at, uf_ne])
  · first | rfl | (simp (disch := omega) only [mLost, up_at, up_ne, uf_i, up_f, uf_at, uf_ne])
  · exact Or.inl (by first | rfl | (simp (disch := omega) only [mLost, up_at, up_ne, uf_i, up_f, uf_at, uf_ne]))
  · first | rfl | (simp (disch := omega) only [mLost, up_at, up_ne, uf_i, up_f, uf_at, uf_ne])
  · first | rfl | (simp (disch := omega) only [mLost, up_at, up_ne, uf_i, up_f, uf_at, uf_ne])
  · first | rfl | (simp (disch := omega) only [mLost, up_at, up_ne, uf_i, up_f, uf_at, uf_ne])
  · exact Or.inl (by first | rfl | (simp (disch := omega) only [mLost, up_at, up_ne, uf_i, up_f, uf_at, uf_ne]))
theorem hs_lost : Hs1 M (mLost M it k) ni := fun i hi => by first | rfl | (simp (disch := omega) only [mLost, up_at, up_ne, uf_i, up_f, uf_at, uf_ne])
theorem sm_lost (hk : k < nd) (h : Sm M nd) : Sm (mLost M it k) nd := by
  refine ⟨?_, ?_, ?_⟩
  · refine Eq.trans ?_ (h.1.trans (sumI_c nd (fun q hq => ?_)))
    · first | rfl | (simp (disch := omega) only [mLost, up_at, up_ne, uf_i, up_f, uf_at, uf_ne])
    · first | rfl | (simp (disch := omega) only [mLost, up_at, up_ne, uf_i, up_f, uf_at, uf_ne])
  · refine Eq.trans ?_ ((congrArg (fun z => z + 1) h.2.1).trans (sumI_1 (k := k) ?_ nd hk (fun q hq e => ?_)).symm)
    · first | rfl | (simp (disch := omega) only [mLost, up_at, up_ne, uf_i, up_f, uf_at, uf_ne])
    · first | rfl | (simp (disch := omega) only [mLost, up_at, up_ne, uf_i, up_f, uf_at, uf_ne])
    · first | rfl | (simp (disch := omega) only [mLost, up_at, up_ne, uf_i, up_f, uf_at, uf_ne])
  · refine Eq.trans ?_ (h.2.2.trans (sumI_c nd (fun q hq => ?_)))
    · first | rfl | (simp (disch := omega) only [mLost, up_at, up_ne, uf_i, up_f, uf_at, uf_ne])
    · first | rfl | (simp (disch := omega) only [mLost, up_at, up_ne, uf_i, up_f, uf_at, uf_ne])
theorem sf_rc (v w : Int32) (hw : w = 2 ∨ w = M.1 4 (6 * j + 1)) (hp : Ip M) (hf : Ifl M nd) : Sf M (up (up M 5 j v) 4 (6 * j + 1) w) ni nd j := by
  refine ⟨⟨?_, ?_, ?_, ?_, ?_⟩, fun a h1 h2 => ?_, fun i hi => ⟨?_, ?_, fun h0 => ?_⟩, fun k' => ?_, fun x h1 h2 => ?_, fun q hq => ?_, ?_⟩
  · exact hp
  · exact hf
  · first | rfl | (funext x; simp (disch := omega) only [up_at, up_ne, uf_i, up_f, uf_at, uf_ne])
  · first | rfl | (simp (disch := omega) only [up_at, up_ne, uf_i, up_f, uf_at, uf_ne])
  · first | rfl | (simp (disch := omega) only [up_at, up_ne, uf_i, up_f, uf_at, uf_ne])
  · first | rfl | (simp (disch := omega) only [up_at, up_ne, uf_i, up_f, uf_at, uf_ne])
  · first | rfl | (simp (disch := omega) only [up_at, up_ne, uf_i, up_f, uf_at, uf_ne])
  · first | rfl | (simp (disch := omega) only [up_at, up_ne, uf_i, up_f, uf_at, uf_ne])
  · exact Or.inl (by first | rfl | (simp (disch := omega) only [up_at, up_ne, uf_i, up_f, uf_at, uf_ne]))
  · first | rfl | (simp (disch := omega) only [up_at, up_ne, uf_i, up_f, uf_at, uf_ne])
  · first | rfl | (simp (disch := omega) only [up_at, up_ne, uf_i, up_f, uf_at, uf_ne])
  · first | rfl | (simp (disch := omega) only [up_at, up_ne, uf_i, up_f, uf_at, uf_ne])
  · rw [up_at]; exact hw.elim (fun z => Or.inr (Or.inr z)) Or.inl
theorem hs_rc (v w : Int32) (hw : w = 2 ∨ w = M.1 4 (6 * j + 1)) : Hs1 M (up (up M 5 j v) 4 (6 * j + 1) w) ni := fun i hi => by first | rfl | (simp (disch := omega) only [up_at, up_ne, uf_i, up_f, uf_at, uf_ne])
theorem sm_rc (v w : Int32) (hw : w = 2 ∨ w = M.1 4 (6 * j + 1)) (h : Sm M nd) : Sm (up (up M 5 j v) 4 (6 * j + 1) w) nd := by
  refine ⟨?_, ?_, ?_⟩
  · refine Eq.trans ?_ (h.1.trans (sumI_c nd (fun q hq => ?_)))
    · first | rfl | (simp (disch := omega) only [up_at, up_ne, uf_i, up_f, uf_at, uf_ne])
    · first | rfl | (simp (disch := omega) only [up_at, up_ne, uf_i, up_f, uf_at, uf_ne])
  · refine Eq.trans ?_ (h.2.1.trans (sumI_c nd (fun q hq => ?_)))
    · first | rfl | (simp (disch := omega) only [up_at, up_ne, uf_i, up_f, uf_at, uf_ne])
    · first | rfl | (simp (disch := omega) only [up_at, up_ne, uf_i, up_f, uf_at, uf_ne])
  · refine Eq.trans ?_ (h.2.2.trans (sumI_c nd (fun q hq => ?_)))
    · first | rfl | (simp (disch := omega) only [up_at, up_ne, uf_i, up_f, uf_at, uf_ne])
    · first | rfl | (simp (disch := omega) only [up_at, up_ne, uf_i, up_f, uf_at, uf_ne])
theorem Sf.tr {M1 M2 : Mo} (a : Sf M M1 ni nd j) (b : Sf M1 M2 ni nd j) (hx : ∀ i, i < ni → M2.1 1 (6 * i + 3) = M1.1 1 (6 * i + 3)) : Sf M M2 ni nd j := by
  obtain ⟨⟨a1, a2, a3, a4, a5⟩, a6, a7, a8, a9, a10, a11⟩ := a
  obtain ⟨⟨b1, b2, b3, b4, b5⟩, b6, b7, b8, b9, b10, b11⟩ := b
  refine ⟨⟨b1, b2, b3.trans a3, b4.trans a4, b5.trans a5⟩, fun a h1 h2 => (b6 a h1 h2).trans (a6 a h1 h2), fun i hi => ⟨(b7 i hi).1.trans (a7 i hi).1, (b7 i hi).2.1.trans (a7 i hi).2.1, fun h0 => by rw [hx i hi]; exact (a7 i hi).2.2 h0⟩, fun k => (b8 k).trans (a8 k), fun x h1 h2 => (b9 x h1 h2).trans (a9 x h1 h2), fun q hq => (b10 q hq).trans (a10 q hq), ?_⟩
  rcases b11 with z | z | z
  · rw [z]; exact a11
  · exact Or.inr (Or.inl z)
  · exact Or.inr (Or.inr z)
theorem rc_w : (if M.1 5 j + 1 = 3 then 2 else M.1 4 (6 * j + 1)) = (2 : Int32) ∨ (if M.1 5 j + 1 = 3 then 2 else M.1 4 (6 * j + 1)) = (mLost (mRead1 M it k) it k).1 4 (6 * j + 1) := by
  by_cases e : M.1 5 j + 1 = 3
  · rw [if_pos e]; exact Or.inl rfl
  · rw [if_neg e]; exact Or.inr (by simp (disch := omega) only [mLost, mRead1, up_ne, uf_i])
theorem sf_read2 (r0 : Nat) (hr : r0 < 1600) (ha : M.1 1 (6 * it + 3) = nI r0) (hk : k < nd) (hd : nd ≤ 4) (hp : Ip M) (hf : Ifl M nd) : Sf M (mRead2 M j it k) ni nd j := by
  have a := sf_read1 (j := j) (ni := ni) (it := it) r0 hr ha hk hd hp hf
  have b := a.tr (sf_lost (it := it) (k := k) a.1.1 a.1.2.1) (fun i hi => by simp (disch := omega) only [mLost, up_ne])
  exact b.tr (sf_rc _ _ rc_w b.1.1 b.1.2.1) (fun i hi => rfl)
theorem hs_read2 : Hs1 M (mRead2 M j it k) ni := fun i hi => by simp (disch := omega) only [mRead2, mLost, mRead1, up_ne, uf_i]
theorem sm_read2 (hk : k < nd) (h : Sm M nd) : Sm (mRead2 M j it k) nd := sm_rc _ _ rc_w (sm_lost hk (sm_read1 hk h))
end SF
