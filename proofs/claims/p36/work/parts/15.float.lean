/-! ===== FLOATS FROM +0 TO INFINITY: their bits are in their order ===== -/
def Gd (x : UInt32) : Prop := x.toNat ≤ 2139095040
theorem fl_nn {x : UInt32} (hx : Gd x) : FP.Core.val32 x ≠ .nan := (FP.Core.ne_nan32 x).mpr (by
  unfold Gd at hx
  omega)
theorem fl_sg {x : UInt32} (hx : Gd x) : FP.Core.sgn (FP.Core.val32 x) = false := (FP.Core.sgn_bits32 (fl_nn hx)).trans (decide_eq_false (by
  unfold Gd at hx
  omega))
theorem fl_val {x : UInt32} (hx : Gd x) : FP.Core.val32 x = .inf false ∨ ∃ c q, FP.Core.val32 x = .fin false c q := by
  have hn := fl_nn hx
  have hs := fl_sg hx
  generalize FP.Core.val32 x = d at hn hs
  cases d with
  | nan => exact absurd rfl hn
  | inf s => exact Or.inl (congrArg FP.Core.Datum.inf hs)
  | fin s c q => exact Or.inr ⟨c, q, congrArg (fun b => FP.Core.Datum.fin b c q) hs⟩
theorem gd_of {a : UInt32} (h : FP.Core.val32 a ≠ .nan) (hs : FP.Core.sgn (FP.Core.val32 a) = false) : Gd a := by
  have h1 := (FP.Core.ne_nan32 a).mp h
  have h3 : ¬ 2 ^ 31 ≤ a.toNat := of_decide_eq_false ((FP.Core.sgn_bits32 h).symm.trans hs)
  unfold Gd
  omega
theorem cmp_nat (a b : Nat) : compare (a : Int) (b : Int) = compare a b := by
  simp only [compare, compareOfLessAndEq]
  by_cases h : a < b
  · rw [if_pos h, if_pos (by omega)]
  · rw [if_neg h, if_neg (by omega)]
    by_cases h2 : a = b
    · rw [if_pos h2, if_pos (by omega)]
    · rw [if_neg h2, if_neg (by omega)]
theorem fl_key {z : UInt32} (hz : Gd z) : FP.Core.key FP.Core.b32 z.toNat = (z.toNat : Int) := by
  have e1 : decide (FP.Core.half FP.Core.b32 ≤ z.toNat) = false := decide_eq_false (by
    rw [FP.Core.half_b32]
    unfold Gd at hz
    omega)
  have e2 : FP.Core.mag FP.Core.b32 z.toNat = z.toNat := by
    rw [FP.Core.mag_toNat32]
    exact Nat.mod_eq_of_lt (by unfold Gd at hz; omega)
  unfold FP.Core.key
  rw [e1, e2]
  rfl
theorem fl_cmp {x y : UInt32} (hx : Gd x) (hy : Gd y) : FP.fcmp x y = some (compare x.toNat y.toNat) := by
  have h := FP.Core.cmp_key FP.Core.good_b32 (FP.Core.lt_full32 x) (FP.Core.lt_full32 y) (fl_nn hx) (fl_nn hy)
  rw [fl_key hx, fl_key hy, cmp_nat] at h
  exact h
theorem ord_at (s t : Bool) (c d : Nat) (q r e : Int) (h1 : e ≤ q) (h2 : e ≤ r) : FP.Core.order (.fin s c q) (.fin t d r) = some (compare (FP.Core.signed s (FP.Core.inUnits c q e)) (FP.Core.signed t (FP.Core.inUnits d r e))) := by
  simp only [FP.Core.order]
  congr 1
  rw [FP.Core.inUnits_move c (q := q) (e := e) (r := min q r) (by omega) (by omega), FP.Core.inUnits_move d (q := r) (e := e) (r := min q r) (by omega) (by omega), FP.Core.signed_mul, FP.Core.signed_mul]
  refine (FP.Core.compare_mul_pos _ _ _ ?_).symm
  have := Nat.two_pow_pos (min q r - e).toNat
  omega
theorem un_eq {c c' : Nat} {q q' e : Int} (h : c * 2 ^ (q - q').toNat = c' * 1 * 2 ^ (q' - q).toNat) (h1 : e ≤ q) (h2 : e ≤ q') : FP.Core.inUnits c' q' e = FP.Core.inUnits c q e := by
  unfold FP.Core.inUnits
  rw [Nat.mul_one] at h
  rcases Int.le_total q q' with z | z
  · rw [show (q - q').toNat = 0 by omega, Nat.pow_zero, Nat.mul_one] at h
    rw [h, Nat.mul_assoc, ← Nat.pow_add, show (q' - q).toNat + (q - e).toNat = (q' - e).toNat by omega]
  · rw [show (q' - q).toNat = 0 by omega, Nat.pow_zero, Nat.mul_one] at h
    rw [← h, Nat.mul_assoc, ← Nat.pow_add, show (q - q').toNat + (q' - e).toNat = (q - e).toNat by omega]
theorem rd_wide {s : Bool} {c : Nat} {q : Int} (hd : FP.Core.fits FP.Core.b32 (.fin s c q)) : ∃ c' q', FP.Core.round FP.Core.b64 (.fin s c q) = .fin s c' q' ∧ c * 2 ^ (q - q').toNat = c' * 1 * 2 ^ (q' - q).toNat := by
  obtain ⟨c', q', hf, -, hv⟩ := FP.Core.within_fit FP.Core.good_b64 FP.Core.within_32_64 hd
  exact ⟨c', q', FP.Core.roundRatio_exact FP.Core.good_b64 (by decide) hf hv, hv⟩
theorem ord_wide {d e : FP.Core.Datum} (hd : FP.Core.fits FP.Core.b32 d) (he : FP.Core.fits FP.Core.b32 e) : FP.Core.order (FP.Core.round FP.Core.b64 d) (FP.Core.round FP.Core.b64 e) = FP.Core.order d e := by
  cases d with
  | nan => rfl
  | inf s =>
    cases e with
    | nan => rfl
    | inf t => rfl
    | fin t c r =>
      obtain ⟨c', r', h, -⟩ := rd_wide he
      rw [h]
      rfl
  | fin s c q =>
    obtain ⟨c', q', h, hv⟩ := rd_wide hd
    rw [h]
    cases e with
    | nan => rfl
    | inf t => rfl
    | fin t d r =>
      obtain ⟨d', r', h2, hv2⟩ := rd_wide he
      rw [h2, ord_at s t c' d' q' r' (min (min q r) (min q' r')) (by omega) (by omega), ord_at s t c d q r (min (min q r) (min q' r')) (by omega) (by omega), un_eq hv (by omega) (by omega), un_eq hv2 (by omega) (by omega)]
theorem fl_c {x : UInt32} (hx : Gd x) : FP.f2d x = FP.Core.f2d x := FP.f2d_core ((FP.Core.notNaN_iff32 x).mpr (fl_nn hx))
theorem fl_dcmp {x y : UInt32} (hx : Gd x) (hy : Gd y) : FP.dcmp (FP.f2d x) (FP.f2d y) = some (compare x.toNat y.toNat) := by
  rw [fl_c hx, fl_c hy]
  show FP.Core.order (FP.Core.val64 (FP.Core.f2d x)) (FP.Core.val64 (FP.Core.f2d y)) = _
  rw [FP.Core.val64_f2d, FP.Core.val64_f2d, ord_wide (FP.Core.val32_fits x) (FP.Core.val32_fits y)]
  exact fl_cmp hx hy
theorem fl_dn {x : UInt32} (hx : Gd x) : FP.Core.dIsNaN (FP.Core.f2d x) = false := FP.Core.f2d_out ((FP.Core.notNaN_iff32 x).mpr (fl_nn hx))
theorem fl_rt {x : UInt32} (hx : Gd x) : FP.d2f (FP.f2d x) = x := by
  rw [fl_c hx]
  exact (FP.d2f_core (fl_dn hx)).trans (FP.Core.d2f_f2d (fl_nn hx))
theorem fl_n32 {x : UInt32} (hx : Gd x) : vf_n32 x := by
  unfold vf_n32
  rw [UInt32.le_iff_toNat_le, UInt32.toNat_and]
  exact Nat.le_trans Nat.and_le_left hx
theorem fl_n64 {x : UInt32} (hx : Gd x) : vf_n64 (FP.f2d x) := by
  rw [fl_c hx]
  have h := (FP.Core.ne_nan (FP.Core.f2d x)).mp ((FP.Core.notNaN_iff _).mp (fl_dn hx))
  unfold vf_n64
  rw [UInt64.le_iff_toNat_le, UInt64.toNat_and]
  show (FP.Core.f2d x).toNat &&& (2 ^ 63 - 1) ≤ 9218868437227405312
  rw [Nat.and_two_pow_sub_one_eq_mod]
  exact h
theorem fl_add {x y : UInt32} (hx : Gd x) (hy : Gd y) : Gd (FP.fadd x y) := by
  have key : FP.Core.round FP.Core.b32 (FP.Core.exactSum (FP.Core.val32 x) (FP.Core.val32 y)) ≠ .nan ∧ FP.Core.sgn (FP.Core.round FP.Core.b32 (FP.Core.exactSum (FP.Core.val32 x) (FP.Core.val32 y))) = false := by
    rcases fl_val hx with e | ⟨c, q, e⟩ <;> rcases fl_val hy with e2 | ⟨d, r, e2⟩ <;> rw [e, e2]
    · exact ⟨fun z => absurd (show FP.Core.Datum.inf false = .nan from z) (by decide), rfl⟩
    · exact ⟨fun z => absurd (show FP.Core.Datum.inf false = .nan from z) (by decide), rfl⟩
    · exact ⟨fun z => absurd (show FP.Core.Datum.inf false = .nan from z) (by decide), rfl⟩
    · refine ⟨FP.Core.roundRatio_ne_nan _ _ _ _ _, (FP.Core.sgn_roundRatio _ _ _ _ _).trans ?_⟩
      unfold FP.Core.sumSign
      split
      · rfl
      · refine decide_eq_false ?_
        show ¬ ((FP.Core.inUnits c q (min q r) : Nat) : Int) + ((FP.Core.inUnits d r (min q r) : Nat) : Int) < 0
        omega
  rw [← FP.Core.val32_fadd] at key
  exact gd_of key.1 key.2
theorem fl_add0 {x : UInt32} (hx : Gd x) : FP.fadd x 0 = x := FP.Core.fadd_zero (fl_nn hx) (fun e => by
  rw [e] at hx
  exact absurd hx (by unfold Gd; decide))
theorem fl_mulk {x k : UInt32} {c0 : Nat} {q0 : Int} (hk : FP.Core.val32 k = .fin false c0 q0) (h0 : c0 ≠ 0) (hx : Gd x) : Gd (FP.fmul x k) := by
  have key : FP.Core.round FP.Core.b32 (FP.Core.exactProduct (FP.Core.val32 x) (FP.Core.val32 k)) ≠ .nan ∧ FP.Core.sgn (FP.Core.round FP.Core.b32 (FP.Core.exactProduct (FP.Core.val32 x) (FP.Core.val32 k))) = false := by
    rcases fl_val hx with e | ⟨c, q, e⟩ <;> rw [e, hk]
    · have ee : FP.Core.exactProduct (.inf false) (.fin false c0 q0) = .inf false := if_neg h0
      rw [ee]
      exact ⟨fun z => absurd (show FP.Core.Datum.inf false = .nan from z) (by decide), rfl⟩
    · exact ⟨FP.Core.roundRatio_ne_nan _ _ _ _ _, FP.Core.sgn_roundRatio _ _ _ _ _⟩
  rw [← FP.Core.val32_fmul] at key
  exact gd_of key.1 key.2
theorem fl_mul75 {x : UInt32} (hx : Gd x) : Gd (FP.fmul x 1061158912) := fl_mulk (c0 := 12582912) (q0 := -24) (by decide +kernel) (by decide) hx
theorem fl_mul8 {x : UInt32} (hx : Gd x) : Gd (FP.fmul x 1040187392) := fl_mulk (c0 := 8388608) (q0 := -26) (by decide +kernel) (by decide) hx
theorem nan_of {r : UInt32} (h : isNaN32 r = true) : FP.Core.val32 r = .nan := by
  refine Classical.byContradiction (fun hn => ?_)
  have h2 := (FP.Core.ne_nan32 r).mp hn
  unfold isNaN32 at h
  have h4 := UInt32.lt_iff_toNat_lt.mp (of_decide_eq_true h)
  rw [UInt32.toNat_and] at h4
  have h5 : r.toNat &&& (2 ^ 31 - 1) = r.toNat % 2 ^ 31 := Nat.and_two_pow_sub_one_eq_mod r.toNat 31
  have h6 : 2139095040 < r.toNat &&& (2 ^ 31 - 1) := h4
  omega
theorem fl_al {x v : UInt32} (r : UInt32) (h : alike32 r x = true) : FP.fcmp r v = FP.fcmp x v := by
  unfold alike32 at h
  rw [Bool.or_eq_true, Bool.and_eq_true] at h
  rcases h with h | ⟨h1, h2⟩
  · rw [of_decide_eq_true h]
  · exact ((FP.Core.fcmp_none r v).mpr (Or.inl (nan_of h1))).trans ((FP.Core.fcmp_none x v).mpr (Or.inl (nan_of h2))).symm
/-- a cell's index: six or seven to an item, a job, a drive -/
theorem ix6 (i c : Nat) : nI 6 * nI i + nI c = nI (6 * i + c) := by rw [pk_mul, nI_add]
def more (x : Int32) : UInt32 := FP.fadd 1065353216 (FP.fmul (FP.i2f x) 1040187392)
theorem more_l : ∀ r, r < 1600 → (FP.fmul (FP.i2f (nI r)) 1040187392).toNat ≤ 2139095040 ∧ (more (nI r)).toNat ≤ 2139095040 := by decide +kernel
