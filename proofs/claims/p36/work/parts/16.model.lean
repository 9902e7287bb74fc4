/-! ===== THE MODEL: the law's own rows (0 g, 1 t, 2 d, 3 a, 4 b, 5 c; the doubles of e as floats), and what ties it to the cells ===== -/
abbrev Mo : Type := (Nat → Nat → Int32) × (Nat → UInt32)
def up (M : Mo) (a j : Nat) (v : Int32) : Mo := (fun x i => if x = a ∧ i = j then v else M.1 x i, M.2)
def uf (M : Mo) (j : Nat) (v : UInt32) : Mo := (M.1, fun i => if i = j then v else M.2 i)
theorem up_at {M : Mo} {a j : Nat} {v : Int32} : (up M a j v).1 a j = v := if_pos ⟨rfl, rfl⟩
theorem up_ne {M : Mo} {a j x i : Nat} {v : Int32} (h : ¬ (x = a ∧ i = j)) : (up M a j v).1 x i = M.1 x i := if_neg h
theorem uf_at {M : Mo} {j : Nat} {v : UInt32} : (uf M j v).2 j = v := if_pos rfl
theorem uf_ne {M : Mo} {j i : Nat} {v : UInt32} (h : ¬ i = j) : (uf M j v).2 i = M.2 i := if_neg h
/-- the law's rows hold the model -/
def Lw (h : Hp) (M : Mo) : Prop := h.1 449 = M.1 0 ∧ h.1 450 = M.1 1 ∧ h.1 451 = M.1 2 ∧ h.1 453 = M.1 3 ∧ h.1 454 = M.1 4 ∧ h.1 455 = M.1 5 ∧ ∀ j, h.2.2.1 452 j = FP.f2d (M.2 j)
/-- the robot's side stays, the law's side stays -/
def KR (h h' : Hp) : Prop := (∀ a j, a < 449 → h'.1 a j = h.1 a j) ∧ h'.2.1 = h.2.1 ∧ h'.2.2.2 = h.2.2.2
def KL (h h' : Hp) : Prop := (∀ a j, 449 ≤ a → h'.1 a j = h.1 a j) ∧ h'.2.2.1 = h.2.2.1
/-- in which drive an item is -/
def inD (M : Mo) : Nat → Nat → Int32
  | 0, _ => -5
  | k + 1, i => if M.1 2 (7 * k + 6) = nI i then nI k else inD M k i
/-- the bits of so many eighths, and their float -/
def fbits (f : Nat) : Int32 := nI ([0, 1040187392, 1048576000, 1052770304, 1056964608, 1059061760, 1061158912, 1063256064, 1065353216].getD f 0)
def fval (f : Nat) : UInt32 := FP.fmul (FP.i2f (nI f)) 1040187392
/-- the numbers of items, drives, jobs -/
def Iz (M : Mo) (ni nd nj : Nat) : Prop := M.1 0 9 = nI ni ∧ ni ≤ 8 ∧ M.1 0 10 = nI nd ∧ nd ≤ 4 ∧ M.1 0 11 = nI nj ∧ nj ≤ 10
/-- the robot holds the model -/
def Rb (h : Hp) (M : Mo) (ni nd nj : Nat) : Prop :=
  (h.1 1 5 = M.1 0 0 ∧ h.1 1 6 = M.1 0 1 ∧ h.1 1 7 = M.1 0 2 ∧ h.1 1 8 = M.1 0 3 ∧ h.1 1 9 = M.1 0 15 ∧ h.1 1 10 = M.1 0 16 ∧ h.1 1 11 = M.1 0 17 ∧ h.2.1 1 3 = M.2 8 ∧ h.2.1 1 4 = M.2 9) ∧
  (h.1 2 1 = nI ni ∧ h.1 2 3 = nI nd ∧ h.1 27 1 = nI nj ∧ h.1 27 2 = M.1 0 6 ∧ h.1 27 3 = M.1 0 7) ∧
  (∀ i, i < ni → h.1 (4 + i) 0 = M.1 1 (6 * i) ∧ h.1 (4 + i) 1 = M.1 1 (6 * i + 1) ∧ h.1 (4 + i) 2 = M.1 1 (6 * i + 2) ∧ h.1 (4 + i) 3 = inD M nd i ∧ h.1 (4 + i) 4 = M.1 1 (6 * i + 3) ∧ (∃ f, f < 9 ∧ M.1 1 (6 * i + 4) = nI f ∧ h.1 (4 + i) 5 = fbits f ∧ h.2.1 (4 + i) 6 = fval f) ∧ h.1 (4 + i) 7 = M.1 1 (6 * i + 5)) ∧
  (∀ k, k < nd → h.1 (23 + k) 0 = M.1 2 (7 * k) ∧ h.2.1 (23 + k) 1 = M.2 (2 * k) ∧ h.2.1 (23 + k) 2 = M.2 (2 * k + 1) ∧ h.1 (23 + k) 3 = M.1 2 (7 * k + 3) ∧ h.1 (23 + k) 4 = M.1 2 (7 * k + 4) ∧ h.1 (23 + k) 5 = M.1 2 (7 * k + 5) ∧ h.1 (23 + k) 6 = M.1 2 (7 * k + 6)) ∧
  (∀ j, j < nj → (h.1 (29 + j) 0 = M.1 3 (6 * j) ∧ h.1 (29 + j) 1 = M.1 3 (6 * j + 1) ∧ h.1 (29 + j) 2 = M.1 3 (6 * j + 2) ∧ h.1 (29 + j) 3 = M.1 3 (6 * j + 3)) ∧ (h.1 (29 + j) 4 = M.1 4 (6 * j + 4) ∧ h.1 (29 + j) 5 = M.1 4 (6 * j + 5) ∧ (M.1 3 (6 * j + 3) = 0 → h.1 (29 + j) 6 = 0) ∧ (M.1 3 (6 * j + 3) = 1 → h.1 (29 + j) 6 = M.1 3 (6 * j + 4)) ∧ h.1 (29 + j) 7 = M.1 3 (6 * j + 5)) ∧ h.1 (29 + j) 8 = M.1 4 (6 * j) ∧ h.1 (29 + j) 9 = M.1 4 (6 * j + 1) ∧ h.1 (29 + j) 10 = M.1 4 (6 * j + 2) ∧ h.1 (29 + j) 11 = M.1 4 (6 * j + 3) ∧ ((M.1 3 (6 * j + 3) = 0 ∨ M.1 3 (6 * j + 3) = 1) → h.1 (29 + j) 12 = M.1 5 j)) ∧
  (∃ w, w < 10 ∧ h.1 59 5 = nI w) ∧ Hk h ∧ Sh h
/-- a drive is too dusty -/
def dst (M : Mo) (k : Nat) : Prop := (M.2 (2 * k + 1)).toNat < (M.2 (2 * k)).toNat
/-- what can begin -/
def CB (M : Mo) (ni nd j : Nat) : Prop := (M.1 3 (6 * j) = 0 → ∃ k, k < nd ∧ ¬ dst M k) ∧ (M.1 3 (6 * j) = 1 → ∃ i, i < ni ∧ M.1 1 (6 * i) = 1 ∧ 0 < M.1 1 (6 * i + 3)) ∧ (M.1 3 (6 * j) = 2 → ∀ i, i < ni → M.1 1 (6 * i + 1) = M.1 3 (6 * j + 2) → nI i = M.1 3 (6 * j + 1))
def OKj (M : Mo) (ni nd j : Nat) : Prop := M.1 3 (6 * j + 3) = 0 ∧ M.1 4 (6 * j + 3) ≤ M.1 0 0 ∧ CB M ni nd j
def rk (M : Mo) (k : Int32) : Nat := if k = M.1 0 6 then 0 else if k = M.1 0 7 then 1 else 2
noncomputable def grp (M : Mo) (j : Nat) : Nat := @ite _ (M.1 3 (6 * j) = 1 ∧ dst M (M.1 3 (6 * j + 1)).toNatClampNeg) (Classical.propDecidable _) 0 (1 + rk M (M.1 3 (6 * j)))
/-- the first of the least: its place, or -5 -/
def IsMin (ok : Nat → Prop) (key : Nat → Nat) (n : Nat) (r : Int32) : Prop := (r = -5 ∧ ∀ i, i < n → ¬ ok i) ∨ ∃ i, i < n ∧ r = nI i ∧ ok i ∧ (∀ j, j < n → ok j → key i ≤ key j) ∧ ∀ j, j < i → ok j → key i < key j
theorem IsMin.one {ok : Nat → Prop} {key : Nat → Nat} {n : Nat} {r s : Int32} (hn : n < 1000) (a : IsMin ok key n r) (b : IsMin ok key n s) : r = s := by
  rcases a with ⟨a1, a2⟩ | ⟨i, a1, a2, a3, a4, a5⟩ <;> rcases b with ⟨b1, b2⟩ | ⟨j, b1, b2, b3, b4, b5⟩
  · rw [a1, b1]
  · exact absurd b3 (a2 j b1)
  · exact absurd a3 (b2 i a1)
  · have h1 := a4 j b1 b3
    have h2 := b4 i a1 a3
    rcases Nat.lt_trichotomy i j with q | q | q
    · have := b5 i q a3; omega
    · rw [a2, b2, q]
    · have := a5 j q b3; omega
theorem IsMin.zero (ok : Nat → Prop) (key : Nat → Nat) : IsMin ok key 0 (-5) := Or.inl ⟨rfl, fun i h => absurd h (Nat.not_lt_zero i)⟩
theorem IsMin.skip {ok : Nat → Prop} {key : Nat → Nat} {n : Nat} {r : Int32} (a : IsMin ok key n r) (h : ¬ ok n) : IsMin ok key (n + 1) r := by
  rcases a with ⟨a1, a2⟩ | ⟨i, a1, a2, a3, a4, a5⟩
  · refine Or.inl ⟨a1, fun i hi => ?_⟩
    rcases Nat.lt_or_ge i n with q | q
    · exact a2 i q
    · rw [show i = n by omega]; exact h
  · refine Or.inr ⟨i, by omega, a2, a3, fun j hj hj2 => ?_, a5⟩
    rcases Nat.lt_or_ge j n with q | q
    · exact a4 j q hj2
    · rw [show j = n by omega] at hj2; exact absurd hj2 h
theorem IsMin.stay {ok : Nat → Prop} {key : Nat → Nat} {n : Nat} {r : Int32} (a : IsMin ok key n r) (h : ∃ b, r = nI b ∧ b < n ∧ key b ≤ key n) (hn : n < 1000) : IsMin ok key (n + 1) r := by
  obtain ⟨b, rfl, hb, hk⟩ := h
  rcases a with ⟨a1, a2⟩ | ⟨i, a1, a2, a3, a4, a5⟩
  · exact absurd a1 (by intro q; have := congrArg Int32.toInt q; rw [nI_toInt (by omega)] at this; simp at this)
  · obtain rfl : b = i := (nI_eq (by omega) (by omega)).mp a2
    refine Or.inr ⟨b, by omega, rfl, a3, fun j hj hj2 => ?_, a5⟩
    rcases Nat.lt_or_ge j n with q | q
    · exact a4 j q hj2
    · rw [show j = n by omega]; exact hk
theorem IsMin.take {ok : Nat → Prop} {key : Nat → Nat} {n : Nat} {r : Int32} (a : IsMin ok key n r) (h : ok n) (h2 : r = -5 ∨ ∃ b, r = nI b ∧ b < n ∧ key n < key b) (hn : n < 1000) : IsMin ok key (n + 1) (nI n) := by
  refine Or.inr ⟨n, by omega, rfl, h, ?_, ?_⟩
  · intro j hj hj2
    rcases a with ⟨a1, a2⟩ | ⟨i, a1, a2, a3, a4, a5⟩
    · rcases Nat.lt_or_ge j n with q | q
      · exact absurd hj2 (a2 j q)
      · rw [show j = n by omega]; exact Nat.le_refl _
    · rcases h2 with h2 | ⟨b, h2, h3, h4⟩
      · exact absurd (a2.symm.trans h2) (by intro q; have := congrArg Int32.toInt q; rw [nI_toInt (by omega)] at this; simp at this)
      · obtain rfl : i = b := (nI_eq (by omega) (by omega)).mp (a2.symm.trans h2)
        rcases Nat.lt_or_ge j n with q | q
        · have := a4 j q hj2; omega
        · rw [show j = n by omega]; exact Nat.le_refl _
  · intro j hj hj2
    rcases a with ⟨a1, a2⟩ | ⟨i, a1, a2, a3, a4, a5⟩
    · exact absurd hj2 (a2 j hj)
    · rcases h2 with h2 | ⟨b, h2, h3, h4⟩
      · exact absurd (a2.symm.trans h2) (by intro q; have := congrArg Int32.toInt q; rw [nI_toInt (by omega)] at this; simp at this)
      · obtain rfl : i = b := (nI_eq (by omega) (by omega)).mp (a2.symm.trans h2)
        have := a4 j hj hj2; omega
theorem nI_n5 {b : Nat} (h : b < 1000) : nI b ≠ -5 := by
  intro q
  have := congrArg Int32.toInt q
  rw [nI_toInt (by omega)] at this
  simp at this
