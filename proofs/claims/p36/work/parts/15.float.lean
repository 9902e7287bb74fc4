/-! ===== FLOATS FROM +0 TO INFINITY: their bits are in their order ===== -/
def Gd (x : UInt32) : Prop := x.toNat ≤ 2139095040
theorem fl_cmp {x y : UInt32} (hx : Gd x) (hy : Gd y) : FP.fcmp x y = some (compare x.toNat y.toNat) := sorry
theorem fl_dcmp {x y : UInt32} (hx : Gd x) (hy : Gd y) : FP.dcmp (FP.f2d x) (FP.f2d y) = some (compare x.toNat y.toNat) := sorry
theorem fl_rt {x : UInt32} (hx : Gd x) : FP.d2f (FP.f2d x) = x := sorry
theorem fl_n32 {x : UInt32} (hx : Gd x) : vf_n32 x := sorry
theorem fl_n64 {x : UInt32} (hx : Gd x) : vf_n64 (FP.f2d x) := sorry
theorem fl_add {x y : UInt32} (hx : Gd x) (hy : Gd y) : Gd (FP.fadd x y) := sorry
theorem fl_add0 {x : UInt32} (hx : Gd x) : FP.fadd x 0 = x := sorry
theorem fl_mul75 {x : UInt32} (hx : Gd x) : Gd (FP.fmul x 1061158912) := sorry
theorem fl_mul8 {x : UInt32} (hx : Gd x) : Gd (FP.fmul x 1040187392) := sorry
theorem fl_al {x v : UInt32} (r : UInt32) (h : alike32 r x = true) : FP.fcmp r v = FP.fcmp x v := sorry
/-- a cell's index: six or seven to an item, a job, a drive -/
theorem ix6 (i c : Nat) : nI 6 * nI i + nI c = nI (6 * i + c) := by rw [pk_mul, nI_add]
def more (x : Int32) : UInt32 := FP.fadd 1065353216 (FP.fmul (FP.i2f x) 1040187392)
theorem more_l : ∀ r, r < 1600 → (FP.fmul (FP.i2f (nI r)) 1040187392).toNat ≤ 2139095040 ∧ (more (nI r)).toNat ≤ 2139095040 := by decide +kernel
