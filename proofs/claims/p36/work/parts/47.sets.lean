/-! ===== setLimit, setCeiling, refill, setOrder ===== -/
theorem uf_same (M : Mo) (j : Nat) : uf M j (M.2 j) = M := by
  show (M.1, fun i => if i = j then M.2 j else M.2 i) = M
  refine Prod.ext rfl (funext fun i => ?_)
  show (if i = j then M.2 j else M.2 i) = M.2 i
  by_cases e : i = j
  · rw [if_pos e, e]
  · rw [if_neg e]
theorem fv_l : ∀ n : Fin 256, (fval n.1).toNat ≤ 2139095040 := by decide +kernel
theorem fv_g {n : Nat} (h : n < 256) : Gd (fval n) := fv_l ⟨n, h⟩
theorem fv_d : ∀ n : Fin 256, FP.dmul (FP.i2d (nI n.1)) 4593671619917905920 = FP.f2d (fval n.1) := by decide +kernel
theorem fv_c : ∀ n : Fin 32, FP.i2d (nI n.1) = FP.f2d (fval (8 * n.1)) := by decide +kernel
theorem bt_r : ∀ n : Fin 256, 8 ≤ n.1 → (1065353216 : Int32) ≤ bt n.1 ∧ bt n.1 ≤ (1140457472 : Int32) ∧ bt n.1 ≤ (1148846080 : Int32) := by decide +kernel
theorem u_ext {x y : UInt32} (h : x.toNat = y.toNat) : x = y := UInt32.toNat_inj.mp h
theorem cmp0 {x y : UInt32} {op : CmpOp} (hx : Gd x) (hy : Gd y) : Op.cmpValue (FP.fcmp x y) op = 0 ↔ x = y := by
  rw [fl_cmp hx hy, cmpv_eq]
  exact ⟨u_ext, fun e => by rw [e]⟩
theorem dcmp0 {x y : UInt32} {op : CmpOp} (hx : Gd x) (hy : Gd y) : Op.cmpValue (FP.dcmp (FP.f2d x) (FP.f2d y)) op = 0 ↔ x = y := by
  rw [fl_dcmp hx hy, cmpv_eq]
  exact ⟨u_ext, fun e => by rw [e]⟩
def mOrd (M : Mo) (x y : Int32) : Mo := up (up (up M 0 6 x) 0 7 y) 0 8 (3 - x - y)
section P47r
variable {h : Hp} {M : Mo} {ni nd nj : Nat}
theorem rb_limit (R : Rb h M ni nd nj) (hi : ni ≤ 8) (hd : nd ≤ 4) (hj : nj ≤ 10) (v : UInt32) : Rb (wF h 1 4 v) (uf M 9 v) ni nd nj := by
  obtain ⟨⟨s5, s6, s7, s8, s9, s10, s11, s3, s4⟩, ⟨n1, n2, n3, n4, n5⟩, hI, hD, hJ, hL, hH, hS⟩ := R
  refine ⟨⟨(by (try simp (disch := omega) only [wI_at, wI_ne, wF_at, wF_ne, wI_f, wF_i, up_at, up_ne, uf_at, uf_ne, up_f, uf_i]) <;> first | assumption | rfl | exact a7.trans hw.1 | exact a8.trans hw.2), (by (try simp (disch := omega) only [wI_at, wI_ne, wF_at, wF_ne, wI_f, wF_i, up_at, up_ne, uf_at, uf_ne, up_f, uf_i]) <;> first | assumption | rfl | exact a7.trans hw.1 | exact a8.trans hw.2), (by (try simp (disch := omega) only [wI_at, wI_ne, wF_at, wF_ne, wI_f, wF_i, up_at, up_ne, uf_at, uf_ne, up_f, uf_i]) <;> first | assumption | rfl | exact a7.trans hw.1 | exact a8.trans hw.2), (by (try simp (disch := omega) only [wI_at, wI_ne, wF_at, wF_ne, wI_f, wF_i, up_at, up_ne, uf_at, uf_ne, up_f, uf_i]) <;> first | assumption | rfl | exact a7.trans hw.1 | exact a8.trans hw.2), (by (try simp (disch := omega) only [wI_at, wI_ne, wF_at, wF_ne, wI_f, wF_i, up_at, up_ne, uf_at, uf_ne, up_f, uf_i]) <;> first | assumption | rfl | exact a7.trans hw.1 | exact a8.trans hw.2), (by (try simp (disch := omega) only [wI_at, wI_ne, wF_at, wF_ne, wI_f, wF_i, up_at, up_ne, uf_at, uf_ne, up_f, uf_i]) <;> first | assumption | rfl | exact a7.trans hw.1 | exact a8.trans hw.2), (by (try simp (disch := omega) only [wI_at, wI_ne, wF_at, wF_ne, wI_f, wF_i, up_at, up_ne, uf_at, uf_ne, up_f, uf_i]) <;> first | assumption | rfl | exact a7.trans hw.1 | exact a8.trans hw.2), (by (try simp (disch := omega) only [wI_at, wI_ne, wF_at, wF_ne, wI_f, wF_i, up_at, up_ne, uf_at, uf_ne, up_f, uf_i]) <;> first | assumption | rfl | exact a7.trans hw.1 | exact a8.trans hw.2), (by (try simp (disch := omega) only [wI_at, wI_ne, wF_at, wF_ne, wI_f, wF_i, up_at, up_ne, uf_at, uf_ne, up_f, uf_i]) <;> first | assumption | rfl | exact a7.trans hw.1 | exact a8.trans hw.2)⟩, ⟨(by (try simp (disch := omega) only [wI_at, wI_ne, wF_at, wF_ne, wI_f, wF_i, up_at, up_ne, uf_at, uf_ne, up_f, uf_i]) <;> first | assumption | rfl | exact a7.trans hw.1 | exact a8.trans hw.2), (by (try simp (disch := omega) only [wI_at, wI_ne, wF_at, wF_ne, wI_f, wF_i, up_at, up_ne, uf_at, uf_ne, up_f, uf_i]) <;> first | assumption | rfl | exact a7.trans hw.1 | exact a8.trans hw.2), (by (try simp (disch := omega) only [wI_at, wI_ne, wF_at, wF_ne, wI_f, wF_i, up_at, up_ne, uf_at, uf_ne, up_f, uf_i]) <;> first | assumption | rfl | exact a7.trans hw.1 | exact a8.trans hw.2), (by (try simp (disch := omega) only [wI_at, wI_ne, wF_at, wF_ne, wI_f, wF_i, up_at, up_ne, uf_at, uf_ne, up_f, uf_i]) <;> first | assumption | rfl | exact a7.trans hw.1 | exact a8.trans hw.2), (by (try simp (disch := omega) only [wI_at, wI_ne, wF_at, wF_ne, wI_f, wF_i, up_at, up_ne, uf_at, uf_ne, up_f, uf_i]) <;> first | assumption | rfl | exact a7.trans hw.1 | exact a8.trans hw.2)⟩, fun i hi' => ?_, fun k' hk' => ?_, fun j' hj' => ?_, ?_, ?_, hS⟩
  · obtain ⟨a0, a1, a2, a3, a4, ⟨f, f1, f2, f3, f4⟩, a7⟩ := hI i hi'
    exact ⟨(by (try simp (disch := omega) only [wI_at, wI_ne, wF_at, wF_ne, wI_f, wF_i, up_at, up_ne, uf_at, uf_ne, up_f, uf_i]) <;> first | assumption | rfl | exact a7.trans hw.1 | exact a8.trans hw.2), (by (try simp (disch := omega) only [wI_at, wI_ne, wF_at, wF_ne, wI_f, wF_i, up_at, up_ne, uf_at, uf_ne, up_f, uf_i]) <;> first | assumption | rfl | exact a7.trans hw.1 | exact a8.trans hw.2), (by (try simp (disch := omega) only [wI_at, wI_ne, wF_at, wF_ne, wI_f, wF_i, up_at, up_ne, uf_at, uf_ne, up_f, uf_i]) <;> first | assumption | rfl | exact a7.trans hw.1 | exact a8.trans hw.2), (by rw [inD_congr (M := M) i nd (fun q hq => (by (try simp (disch := omega) only [wI_at, wI_ne, wF_at, wF_ne, wI_f, wF_i, up_at, up_ne, uf_at, uf_ne, up_f, uf_i]) <;> first | assumption | rfl | exact a7.trans hw.1 | exact a8.trans hw.2))]; (try simp (disch := omega) only [wI_at, wI_ne, wF_at, wF_ne, wI_f, wF_i, up_at, up_ne, uf_at, uf_ne, up_f, uf_i]) <;> first | assumption | rfl), (by (try simp (disch := omega) only [wI_at, wI_ne, wF_at, wF_ne, wI_f, wF_i, up_at, up_ne, uf_at, uf_ne, up_f, uf_i]) <;> first | assumption | rfl | exact a7.trans hw.1 | exact a8.trans hw.2), ⟨f, f1, (by (try simp (disch := omega) only [wI_at, wI_ne, wF_at, wF_ne, wI_f, wF_i, up_at, up_ne, uf_at, uf_ne, up_f, uf_i]) <;> first | assumption | rfl | exact a7.trans hw.1 | exact a8.trans hw.2), (by (try simp (disch := omega) only [wI_at, wI_ne, wF_at, wF_ne, wI_f, wF_i, up_at, up_ne, uf_at, uf_ne, up_f, uf_i]) <;> first | assumption | rfl | exact a7.trans hw.1 | exact a8.trans hw.2), (by (try simp (disch := omega) only [wI_at, wI_ne, wF_at, wF_ne, wI_f, wF_i, up_at, up_ne, uf_at, uf_ne, up_f, uf_i]) <;> first | assumption | rfl | exact a7.trans hw.1 | exact a8.trans hw.2)⟩, (by (try simp (disch := omega) only [wI_at, wI_ne, wF_at, wF_ne, wI_f, wF_i, up_at, up_ne, uf_at, uf_ne, up_f, uf_i]) <;> first | assumption | rfl | exact a7.trans hw.1 | exact a8.trans hw.2)⟩
  · obtain ⟨a0, a1, a2, a3, a4, a5, a6⟩ := hD k' hk'
    exact ⟨(by (try simp (disch := omega) only [wI_at, wI_ne, wF_at, wF_ne, wI_f, wF_i, up_at, up_ne, uf_at, uf_ne, up_f, uf_i]) <;> first | assumption | rfl | exact a7.trans hw.1 | exact a8.trans hw.2), (by (try simp (disch := omega) only [wI_at, wI_ne, wF_at, wF_ne, wI_f, wF_i, up_at, up_ne, uf_at, uf_ne, up_f, uf_i]) <;> first | assumption | rfl | exact a7.trans hw.1 | exact a8.trans hw.2), (by (try simp (disch := omega) only [wI_at, wI_ne, wF_at, wF_ne, wI_f, wF_i, up_at, up_ne, uf_at, uf_ne, up_f, uf_i]) <;> first | assumption | rfl | exact a7.trans hw.1 | exact a8.trans hw.2), (by (try simp (disch := omega) only [wI_at, wI_ne, wF_at, wF_ne, wI_f, wF_i, up_at, up_ne, uf_at, uf_ne, up_f, uf_i]) <;> first | assumption | rfl | exact a7.trans hw.1 | exact a8.trans hw.2), (by (try simp (disch := omega) only [wI_at, wI_ne, wF_at, wF_ne, wI_f, wF_i, up_at, up_ne, uf_at, uf_ne, up_f, uf_i]) <;> first | assumption | rfl | exact a7.trans hw.1 | exact a8.trans hw.2), (by (try simp (disch := omega) only [wI_at, wI_ne, wF_at, wF_ne, wI_f, wF_i, up_at, up_ne, uf_at, uf_ne, up_f, uf_i]) <;> first | assumption | rfl | exact a7.trans hw.1 | exact a8.trans hw.2), (by (try simp (disch := omega) only [wI_at, wI_ne, wF_at, wF_ne, wI_f, wF_i, up_at, up_ne, uf_at, uf_ne, up_f, uf_i]) <;> first | assumption | rfl | exact a7.trans hw.1 | exact a8.trans hw.2)⟩
  · obtain ⟨⟨a0, a1, a2, a3⟩, ⟨a4, a5, a6, b6, a7⟩, a8, a9, a10, a11, a12⟩ := hJ j' hj'
    exact ⟨⟨(by (try simp (disch := omega) only [wI_at, wI_ne, wF_at, wF_ne, wI_f, wF_i, up_at, up_ne, uf_at, uf_ne, up_f, uf_i]) <;> first | assumption | rfl | exact a7.trans hw.1 | exact a8.trans hw.2), (by (try simp (disch := omega) only [wI_at, wI_ne, wF_at, wF_ne, wI_f, wF_i, up_at, up_ne, uf_at, uf_ne, up_f, uf_i]) <;> first | assumption | rfl | exact a7.trans hw.1 | exact a8.trans hw.2), (by (try simp (disch := omega) only [wI_at, wI_ne, wF_at, wF_ne, wI_f, wF_i, up_at, up_ne, uf_at, uf_ne, up_f, uf_i]) <;> first | assumption | rfl | exact a7.trans hw.1 | exact a8.trans hw.2), (by (try simp (disch := omega) only [wI_at, wI_ne, wF_at, wF_ne, wI_f, wF_i, up_at, up_ne, uf_at, uf_ne, up_f, uf_i]) <;> first | assumption | rfl | exact a7.trans hw.1 | exact a8.trans hw.2)⟩, ⟨(by (try simp (disch := omega) only [wI_at, wI_ne, wF_at, wF_ne, wI_f, wF_i, up_at, up_ne, uf_at, uf_ne, up_f, uf_i]) <;> first | assumption | rfl | exact a7.trans hw.1 | exact a8.trans hw.2), (by (try simp (disch := omega) only [wI_at, wI_ne, wF_at, wF_ne, wI_f, wF_i, up_at, up_ne, uf_at, uf_ne, up_f, uf_i]) <;> first | assumption | rfl | exact a7.trans hw.1 | exact a8.trans hw.2), (by intro z; (try simp (disch := omega) only [wI_at, wI_ne, wF_at, wF_ne, wI_f, wF_i, up_at, up_ne, uf_at, uf_ne, up_f, uf_i] at z) <;> (try simp (disch := omega) only [wI_at, wI_ne, wF_at, wF_ne, wI_f, wF_i, up_at, up_ne, uf_at, uf_ne, up_f, uf_i]) <;> first | exact a6 z | exact absurd z (by decide) | assumption | rfl | exact absurd (z.symm.trans h1) (by decide) | exact a12 (Or.inl h0) | exact a6 h0 | (rcases z with z | z <;> first | exact absurd z (by decide) | exact a6 (Or.inl z) | exact a6 (Or.inr z) | assumption | (simp_all; done))), (by intro z; (try simp (disch := omega) only [wI_at, wI_ne, wF_at, wF_ne, wI_f, wF_i, up_at, up_ne, uf_at, uf_ne, up_f, uf_i] at z) <;> (try simp (disch := omega) only [wI_at, wI_ne, wF_at, wF_ne, wI_f, wF_i, up_at, up_ne, uf_at, uf_ne, up_f, uf_i]) <;> first | exact b6 z | exact absurd z (by decide) | assumption | rfl | exact absurd (z.symm.trans h1) (by decide) | exact a12 (Or.inl h0) | exact a6 h0 | (rcases z with z | z <;> first | exact absurd z (by decide) | exact b6 (Or.inl z) | exact b6 (Or.inr z) | assumption | (simp_all; done))), (by (try simp (disch := omega) only [wI_at, wI_ne, wF_at, wF_ne, wI_f, wF_i, up_at, up_ne, uf_at, uf_ne, up_f, uf_i]) <;> first | assumption | rfl | exact a7.trans hw.1 | exact a8.trans hw.2)⟩, (by (try simp (disch := omega) only [wI_at, wI_ne, wF_at, wF_ne, wI_f, wF_i, up_at, up_ne, uf_at, uf_ne, up_f, uf_i]) <;> first | assumption | rfl | exact a7.trans hw.1 | exact a8.trans hw.2), (by (try simp (disch := omega) only [wI_at, wI_ne, wF_at, wF_ne, wI_f, wF_i, up_at, up_ne, uf_at, uf_ne, up_f, uf_i]) <;> first | assumption | rfl | exact a7.trans hw.1 | exact a8.trans hw.2), (by (try simp (disch := omega) only [wI_at, wI_ne, wF_at, wF_ne, wI_f, wF_i, up_at, up_ne, uf_at, uf_ne, up_f, uf_i]) <;> first | assumption | rfl | exact a7.trans hw.1 | exact a8.trans hw.2), (by (try simp (disch := omega) only [wI_at, wI_ne, wF_at, wF_ne, wI_f, wF_i, up_at, up_ne, uf_at, uf_ne, up_f, uf_i]) <;> first | assumption | rfl | exact a7.trans hw.1 | exact a8.trans hw.2), (by intro z; (try simp (disch := omega) only [wI_at, wI_ne, wF_at, wF_ne, wI_f, wF_i, up_at, up_ne, uf_at, uf_ne, up_f, uf_i] at z) <;> (try simp (disch := omega) only [wI_at, wI_ne, wF_at, wF_ne, wI_f, wF_i, up_at, up_ne, uf_at, uf_ne, up_f, uf_i]) <;> first | exact a12 z | exact absurd z (by decide) | assumption | rfl | exact absurd (z.symm.trans h1) (by decide) | exact a12 (Or.inl h0) | exact a6 h0 | (rcases z with z | z <;> first | exact absurd z (by decide) | exact a12 (Or.inl z) | exact a12 (Or.inr z) | assumption | (simp_all; done)))⟩
  · obtain ⟨w, w1, w2⟩ := hL
    exact ⟨w, w1, (by (try simp (disch := omega) only [wI_at, wI_ne, wF_at, wF_ne, wI_f, wF_i, up_at, up_ne, uf_at, uf_ne, up_f, uf_i]) <;> first | assumption | rfl | exact a7.trans hw.1 | exact a8.trans hw.2)⟩
  · obtain ⟨w, w1, w2⟩ := hH
    exact ⟨w, w1, (by (try simp (disch := omega) only [wI_at, wI_ne, wF_at, wF_ne, wI_f, wF_i, up_at, up_ne, uf_at, uf_ne, up_f, uf_i]) <;> first | assumption | rfl | exact a7.trans hw.1 | exact a8.trans hw.2)⟩
theorem rb_ceil (R : Rb h M ni nd nj) (hi : ni ≤ 8) (hd : nd ≤ 4) (hj : nj ≤ 10) (k : Nat) (hk : k < nd) (v : UInt32) : Rb (wF h (23 + k) 2 v) (uf M (2 * k + 1) v) ni nd nj := by
  obtain ⟨⟨s5, s6, s7, s8, s9, s10, s11, s3, s4⟩, ⟨n1, n2, n3, n4, n5⟩, hI, hD, hJ, hL, hH, hS⟩ := R
  refine ⟨⟨(by (try simp (disch := omega) only [wI_at, wI_ne, wF_at, wF_ne, wI_f, wF_i, up_at, up_ne, uf_at, uf_ne, up_f, uf_i]) <;> first | assumption | rfl | exact a7.trans hw.1 | exact a8.trans hw.2), (by (try simp (disch := omega) only [wI_at, wI_ne, wF_at, wF_ne, wI_f, wF_i, up_at, up_ne, uf_at, uf_ne, up_f, uf_i]) <;> first | assumption | rfl | exact a7.trans hw.1 | exact a8.trans hw.2), (by (try simp (disch := omega) only [wI_at, wI_ne, wF_at, wF_ne, wI_f, wF_i, up_at, up_ne, uf_at, uf_ne, up_f, uf_i]) <;> first | assumption | rfl | exact a7.trans hw.1 | exact a8.trans hw.2), (by (try simp (disch := omega) only [wI_at, wI_ne, wF_at, wF_ne, wI_f, wF_i, up_at, up_ne, uf_at, uf_ne, up_f, uf_i]) <;> first | assumption | rfl | exact a7.trans hw.1 | exact a8.trans hw.2), (by (try simp (disch := omega) only [wI_at, wI_ne, wF_at, wF_ne, wI_f, wF_i, up_at, up_ne, uf_at, uf_ne, up_f, uf_i]) <;> first | assumption | rfl | exact a7.trans hw.1 | exact a8.trans hw.2), (by (try simp (disch := omega) only [wI_at, wI_ne, wF_at, wF_ne, wI_f, wF_i, up_at, up_ne, uf_at, uf_ne, up_f, uf_i]) <;> first | assumption | rfl | exact a7.trans hw.1 | exact a8.trans hw.2), (by (try simp (disch := omega) only [wI_at, wI_ne, wF_at, wF_ne, wI_f, wF_i, up_at, up_ne, uf_at, uf_ne, up_f, uf_i]) <;> first | assumption | rfl | exact a7.trans hw.1 | exact a8.trans hw.2), (by (try simp (disch := omega) only [wI_at, wI_ne, wF_at, wF_ne, wI_f, wF_i, up_at, up_ne, uf_at, uf_ne, up_f, uf_i]) <;> first | assumption | rfl | exact a7.trans hw.1 | exact a8.trans hw.2), (by (try simp (disch := omega) only [wI_at, wI_ne, wF_at, wF_ne, wI_f, wF_i, up_at, up_ne, uf_at, uf_ne, up_f, uf_i]) <;> first | assumption | rfl | exact a7.trans hw.1 | exact a8.trans hw.2)⟩, ⟨(by (try simp (disch := omega) only [wI_at, wI_ne, wF_at, wF_ne, wI_f, wF_i, up_at, up_ne, uf_at, uf_ne, up_f, uf_i]) <;> first | assumption | rfl | exact a7.trans hw.1 | exact a8.trans hw.2), (by (try simp (disch := omega) only [wI_at, wI_ne, wF_at, wF_ne, wI_f, wF_i, up_at, up_ne, uf_at, uf_ne, up_f, uf_i]) <;> first | assumption | rfl | exact a7.trans hw.1 | exact a8.trans hw.2), (by (try simp (disch := omega) only [wI_at, wI_ne, wF_at, wF_ne, wI_f, wF_i, up_at, up_ne, uf_at, uf_ne, up_f, uf_i]) <;> first | assumption | rfl | exact a7.trans hw.1 | exact a8.trans hw.2), (by (try simp (disch := omega) only [wI_at, wI_ne, wF_at, wF_ne, wI_f, wF_i, up_at, up_ne, uf_at, uf_ne, up_f, uf_i]) <;> first | assumption | rfl | exact a7.trans hw.1 | exact a8.trans hw.2), (by (try simp (disch := omega) only [wI_at, wI_ne, wF_at, wF_ne, wI_f, wF_i, up_at, up_ne, uf_at, uf_ne, up_f, uf_i]) <;> first | assumption | rfl | exact a7.trans hw.1 | exact a8.trans hw.2)⟩, fun i hi' => ?_, fun k' hk' => ?_, fun j' hj' => ?_, ?_, ?_, hS⟩
  · obtain ⟨a0, a1, a2, a3, a4, ⟨f, f1, f2, f3, f4⟩, a7⟩ := hI i hi'
    exact ⟨(by (try simp (disch := omega) only [wI_at, wI_ne, wF_at, wF_ne, wI_f, wF_i, up_at, up_ne, uf_at, uf_ne, up_f, uf_i]) <;> first | assumption | rfl | exact a7.trans hw.1 | exact a8.trans hw.2), (by (try simp (disch := omega) only [wI_at, wI_ne, wF_at, wF_ne, wI_f, wF_i, up_at, up_ne, uf_at, uf_ne, up_f, uf_i]) <;> first | assumption | rfl | exact a7.trans hw.1 | exact a8.trans hw.2), (by (try simp (disch := omega) only [wI_at, wI_ne, wF_at, wF_ne, wI_f, wF_i, up_at, up_ne, uf_at, uf_ne, up_f, uf_i]) <;> first | assumption | rfl | exact a7.trans hw.1 | exact a8.trans hw.2), (by rw [inD_congr (M := M) i nd (fun q hq => (by (try simp (disch := omega) only [wI_at, wI_ne, wF_at, wF_ne, wI_f, wF_i, up_at, up_ne, uf_at, uf_ne, up_f, uf_i]) <;> first | assumption | rfl | exact a7.trans hw.1 | exact a8.trans hw.2))]; (try simp (disch := omega) only [wI_at, wI_ne, wF_at, wF_ne, wI_f, wF_i, up_at, up_ne, uf_at, uf_ne, up_f, uf_i]) <;> first | assumption | rfl), (by (try simp (disch := omega) only [wI_at, wI_ne, wF_at, wF_ne, wI_f, wF_i, up_at, up_ne, uf_at, uf_ne, up_f, uf_i]) <;> first | assumption | rfl | exact a7.trans hw.1 | exact a8.trans hw.2), ⟨f, f1, (by (try simp (disch := omega) only [wI_at, wI_ne, wF_at, wF_ne, wI_f, wF_i, up_at, up_ne, uf_at, uf_ne, up_f, uf_i]) <;> first | assumption | rfl | exact a7.trans hw.1 | exact a8.trans hw.2), (by (try simp (disch := omega) only [wI_at, wI_ne, wF_at, wF_ne, wI_f, wF_i, up_at, up_ne, uf_at, uf_ne, up_f, uf_i]) <;> first | assumption | rfl | exact a7.trans hw.1 | exact a8.trans hw.2), (by (try simp (disch := omega) only [wI_at, wI_ne, wF_at, wF_ne, wI_f, wF_i, up_at, up_ne, uf_at, uf_ne, up_f, uf_i]) <;> first | assumption | rfl | exact a7.trans hw.1 | exact a8.trans hw.2)⟩, (by (try simp (disch := omega) only [wI_at, wI_ne, wF_at, wF_ne, wI_f, wF_i, up_at, up_ne, uf_at, uf_ne, up_f, uf_i]) <;> first | assumption | rfl | exact a7.trans hw.1 | exact a8.trans hw.2)⟩
  · obtain ⟨a0, a1, a2, a3, a4, a5, a6⟩ := hD k' hk'
    rcases Decidable.em (k' = k) with rfl | e <;> exact ⟨(by (try simp (disch := omega) only [wI_at, wI_ne, wF_at, wF_ne, wI_f, wF_i, up_at, up_ne, uf_at, uf_ne, up_f, uf_i]) <;> first | assumption | rfl | exact a7.trans hw.1 | exact a8.trans hw.2), (by (try simp (disch := omega) only [wI_at, wI_ne, wF_at, wF_ne, wI_f, wF_i, up_at, up_ne, uf_at, uf_ne, up_f, uf_i]) <;> first | assumption | rfl | exact a7.trans hw.1 | exact a8.trans hw.2), (by (try simp (disch := omega) only [wI_at, wI_ne, wF_at, wF_ne, wI_f, wF_i, up_at, up_ne, uf_at, uf_ne, up_f, uf_i]) <;> first | assumption | rfl | exact a7.trans hw.1 | exact a8.trans hw.2), (by (try simp (disch := omega) only [wI_at, wI_ne, wF_at, wF_ne, wI_f, wF_i, up_at, up_ne, uf_at, uf_ne, up_f, uf_i]) <;> first | assumption | rfl | exact a7.trans hw.1 | exact a8.trans hw.2), (by (try simp (disch := omega) only [wI_at, wI_ne, wF_at, wF_ne, wI_f, wF_i, up_at, up_ne, uf_at, uf_ne, up_f, uf_i]) <;> first | assumption | rfl | exact a7.trans hw.1 | exact a8.trans hw.2), (by (try simp (disch := omega) only [wI_at, wI_ne, wF_at, wF_ne, wI_f, wF_i, up_at, up_ne, uf_at, uf_ne, up_f, uf_i]) <;> first | assumption | rfl | exact a7.trans hw.1 | exact a8.trans hw.2), (by (try simp (disch := omega) only [wI_at, wI_ne, wF_at, wF_ne, wI_f, wF_i, up_at, up_ne, uf_at, uf_ne, up_f, uf_i]) <;> first | assumption | rfl | exact a7.trans hw.1 | exact a8.trans hw.2)⟩
  · obtain ⟨⟨a0, a1, a2, a3⟩, ⟨a4, a5, a6, b6, a7⟩, a8, a9, a10, a11, a12⟩ := hJ j' hj'
    exact ⟨⟨(by (try simp (disch := omega) only [wI_at, wI_ne, wF_at, wF_ne, wI_f, wF_i, up_at, up_ne, uf_at, uf_ne, up_f, uf_i]) <;> first | assumption | rfl | exact a7.trans hw.1 | exact a8.trans hw.2), (by (try simp (disch := omega) only [wI_at, wI_ne, wF_at, wF_ne, wI_f, wF_i, up_at, up_ne, uf_at, uf_ne, up_f, uf_i]) <;> first | assumption | rfl | exact a7.trans hw.1 | exact a8.trans hw.2), (by (try simp (disch := omega) only [wI_at, wI_ne, wF_at, wF_ne, wI_f, wF_i, up_at, up_ne, uf_at, uf_ne, up_f, uf_i]) <;> first | assumption | rfl | exact a7.trans hw.1 | exact a8.trans hw.2), (by (try simp (disch := omega) only [wI_at, wI_ne, wF_at, wF_ne, wI_f, wF_i, up_at, up_ne, uf_at, uf_ne, up_f, uf_i]) <;> first | assumption | rfl | exact a7.trans hw.1 | exact a8.trans hw.2)⟩, ⟨(by (try simp (disch := omega) only [wI_at, wI_ne, wF_at, wF_ne, wI_f, wF_i, up_at, up_ne, uf_at, uf_ne, up_f, uf_i]) <;> first | assumption | rfl | exact a7.trans hw.1 | exact a8.trans hw.2), (by (try simp (disch := omega) only [wI_at, wI_ne, wF_at, wF_ne, wI_f, wF_i, up_at, up_ne, uf_at, uf_ne, up_f, uf_i]) <;> first | assumption | rfl | exact a7.trans hw.1 | exact a8.trans hw.2), (by intro z; (try simp (disch := omega) only [wI_at, wI_ne, wF_at, wF_ne, wI_f, wF_i, up_at, up_ne, uf_at, uf_ne, up_f, uf_i] at z) <;> (try simp (disch := omega) only [wI_at, wI_ne, wF_at, wF_ne, wI_f, wF_i, up_at, up_ne, uf_at, uf_ne, up_f, uf_i]) <;> first | exact a6 z | exact absurd z (by decide) | assumption | rfl | exact absurd (z.symm.trans h1) (by decide) | exact a12 (Or.inl h0) | exact a6 h0 | (rcases z with z | z <;> first | exact absurd z (by decide) | exact a6 (Or.inl z) | exact a6 (Or.inr z) | assumption | (simp_all; done))), (by intro z; (try simp (disch := omega) only [wI_at, wI_ne, wF_at, wF_ne, wI_f, wF_i, up_at, up_ne, uf_at, uf_ne, up_f, uf_i] at z) <;> (try simp (disch := omega) only [wI_at, wI_ne, wF_at, wF_ne, wI_f, wF_i, up_at, up_ne, uf_at, uf_ne, up_f, uf_i]) <;> first | exact b6 z | exact absurd z (by decide) | assumption | rfl | exact absurd (z.symm.trans h1) (by decide) | exact a12 (Or.inl h0) | exact a6 h0 | (rcases z with z | z <;> first | exact absurd z (by decide) | exact b6 (Or.inl z) | exact b6 (Or.inr z) | assumption | (simp_all; done))), (by (try simp (disch := omega) only [wI_at, wI_ne, wF_at, wF_ne, wI_f, wF_i, up_at, up_ne, uf_at, uf_ne, up_f, uf_i]) <;> first | assumption | rfl | exact a7.trans hw.1 | exact a8.trans hw.2)⟩, (by (try simp (disch := omega) only [wI_at, wI_ne, wF_at, wF_ne, wI_f, wF_i, up_at, up_ne, uf_at, uf_ne, up_f, uf_i]) <;> first | assumption | rfl | exact a7.trans hw.1 | exact a8.trans hw.2), (by (try simp (disch := omega) only [wI_at, wI_ne, wF_at, wF_ne, wI_f, wF_i, up_at, up_ne, uf_at, uf_ne, up_f, uf_i]) <;> first | assumption | rfl | exact a7.trans hw.1 | exact a8.trans hw.2), (by (try simp (disch := omega) only [wI_at, wI_ne, wF_at, wF_ne, wI_f, wF_i, up_at, up_ne, uf_at, uf_ne, up_f, uf_i]) <;> first | assumption | rfl | exact a7.trans hw.1 | exact a8.trans hw.2), (by (try simp (disch := omega) only [wI_at, wI_ne, wF_at, wF_ne, wI_f, wF_i, up_at, up_ne, uf_at, uf_ne, up_f, uf_i]) <;> first | assumption | rfl | exact a7.trans hw.1 | exact a8.trans hw.2), (by intro z; (try simp (disch := omega) only [wI_at, wI_ne, wF_at, wF_ne, wI_f, wF_i, up_at, up_ne, uf_at, uf_ne, up_f, uf_i] at z) <;> (try simp (disch := omega) only [wI_at, wI_ne, wF_at, wF_ne, wI_f, wF_i, up_at, up_ne, uf_at, uf_ne, up_f, uf_i]) <;> first | exact a12 z | exact absurd z (by decide) | assumption | rfl | exact absurd (z.symm.trans h1) (by decide) | exact a12 (Or.inl h0) | exact a6 h0 | (rcases z with z | z <;> first | exact absurd z (by decide) | exact a12 (Or.inl z) | exact a12 (Or.inr z) | assumption | (simp_all; done)))⟩
  · obtain ⟨w, w1, w2⟩ := hL
    exact ⟨w, w1, (by (try simp (disch := omega) only [wI_at, wI_ne, wF_at, wF_ne, wI_f, wF_i, up_at, up_ne, uf_at, uf_ne, up_f, uf_i]) <;> first | assumption | rfl | exact a7.trans hw.1 | exact a8.trans hw.2)⟩
  · obtain ⟨w, w1, w2⟩ := hH
    exact ⟨w, w1, (by (try simp (disch := omega) only [wI_at, wI_ne, wF_at, wF_ne, wI_f, wF_i, up_at, up_ne, uf_at, uf_ne, up_f, uf_i]) <;> first | assumption | rfl | exact a7.trans hw.1 | exact a8.trans hw.2)⟩
theorem rb_refill (R : Rb h M ni nd nj) (hi : ni ≤ 8) (hd : nd ≤ 4) (hj : nj ≤ 10) (it : Nat) (ht : it < ni) (v : Int32) : Rb (wI h (4 + it) 4 v) (up M 1 (6 * it + 3) v) ni nd nj := by
  obtain ⟨⟨s5, s6, s7, s8, s9, s10, s11, s3, s4⟩, ⟨n1, n2, n3, n4, n5⟩, hI, hD, hJ, hL, hH, hS⟩ := R
  refine ⟨⟨(by (try simp (disch := omega) only [wI_at, wI_ne, wF_at, wF_ne, wI_f, wF_i, up_at, up_ne, uf_at, uf_ne, up_f, uf_i]) <;> first | assumption | rfl | exact a7.trans hw.1 | exact a8.trans hw.2), (by (try simp (disch := omega) only [wI_at, wI_ne, wF_at, wF_ne, wI_f, wF_i, up_at, up_ne, uf_at, uf_ne, up_f, uf_i]) <;> first | assumption | rfl | exact a7.trans hw.1 | exact a8.trans hw.2), (by (try simp (disch := omega) only [wI_at, wI_ne, wF_at, wF_ne, wI_f, wF_i, up_at, up_ne, uf_at, uf_ne, up_f, uf_i]) <;> first | assumption | rfl | exact a7.trans hw.1 | exact a8.trans hw.2), (by (try simp (disch := omega) only [wI_at, wI_ne, wF_at, wF_ne, wI_f, wF_i, up_at, up_ne, uf_at, uf_ne, up_f, uf_i]) <;> first | assumption | rfl | exact a7.trans hw.1 | exact a8.trans hw.2), (by (try simp (disch := omega) only [wI_at, wI_ne, wF_at, wF_ne, wI_f, wF_i, up_at, up_ne, uf_at, uf_ne, up_f, uf_i]) <;> first | assumption | rfl | exact a7.trans hw.1 | exact a8.trans hw.2), (by (try simp (disch := omega) only [wI_at, wI_ne, wF_at, wF_ne, wI_f, wF_i, up_at, up_ne, uf_at, uf_ne, up_f, uf_i]) <;> first | assumption | rfl | exact a7.trans hw.1 | exact a8.trans hw.2), (by (try simp (disch := omega) only [wI_at, wI_ne, wF_at, wF_ne, wI_f, wF_i, up_at, up_ne, uf_at, uf_ne, up_f, uf_i]) <;> first | assumption | rfl | exact a7.trans hw.1 | exact a8.trans hw.2), (by (try simp (disch := omega) only [wI_at, wI_ne, wF_at, wF_ne, wI_f, wF_i, up_at, up_ne, uf_at, uf_ne, up_f, uf_i]) <;> first | assumption | rfl | exact a7.trans hw.1 | exact a8.trans hw.2), (by (try simp (disch := omega) only [wI_at, wI_ne, wF_at, wF_ne, wI_f, wF_i, up_at, up_ne, uf_at, uf_ne, up_f, uf_i]) <;> first | assumption | rfl | exact a7.trans hw.1 | exact a8.trans hw.2)⟩, ⟨(by (try simp (disch := omega) only [wI_at, wI_ne, wF_at, wF_ne, wI_f, wF_i, up_at, up_ne, uf_at, uf_ne, up_f, uf_i]) <;> first | assumption | rfl | exact a7.trans hw.1 | exact a8.trans hw.2), (by (try simp (disch := omega) only [wI_at, wI_ne, wF_at, wF_ne, wI_f, wF_i, up_at, up_ne, uf_at, uf_ne, up_f, uf_i]) <;> first | assumption | rfl | exact a7.trans hw.1 | exact a8.trans hw.2), (by (try simp (disch := omega) only [wI_at, wI_ne, wF_at, wF_ne, wI_f, wF_i, up_at, up_ne, uf_at, uf_ne, up_f, uf_i]) <;> first | assumption | rfl | exact a7.trans hw.1 | exact a8.trans hw.2), (by (try simp (disch := omega) only [wI_at, wI_ne, wF_at, wF_ne, wI_f, wF_i, up_at, up_ne, uf_at, uf_ne, up_f, uf_i]) <;> first | assumption | rfl | exact a7.trans hw.1 | exact a8.trans hw.2), (by (try simp (disch := omega) only [wI_at, wI_ne, wF_at, wF_ne, wI_f, wF_i, up_at, up_ne, uf_at, uf_ne, up_f, uf_i]) <;> first | assumption | rfl | exact a7.trans hw.1 | exact a8.trans hw.2)⟩, fun i hi' => ?_, fun k' hk' => ?_, fun j' hj' => ?_, ?_, ?_, hS⟩
  · obtain ⟨a0, a1, a2, a3, a4, ⟨f, f1, f2, f3, f4⟩, a7⟩ := hI i hi'
    rcases Decidable.em (i = it) with rfl | e <;> exact ⟨(by (try simp (disch := omega) only [wI_at, wI_ne, wF_at, wF_ne, wI_f, wF_i, up_at, up_ne, uf_at, uf_ne, up_f, uf_i]) <;> first | assumption | rfl | exact a7.trans hw.1 | exact a8.trans hw.2), (by (try simp (disch := omega) only [wI_at, wI_ne, wF_at, wF_ne, wI_f, wF_i, up_at, up_ne, uf_at, uf_ne, up_f, uf_i]) <;> first | assumption | rfl | exact a7.trans hw.1 | exact a8.trans hw.2), (by (try simp (disch := omega) only [wI_at, wI_ne, wF_at, wF_ne, wI_f, wF_i, up_at, up_ne, uf_at, uf_ne, up_f, uf_i]) <;> first | assumption | rfl | exact a7.trans hw.1 | exact a8.trans hw.2), (by rw [inD_congr (M := M) i nd (fun q hq => (by (try simp (disch := omega) only [wI_at, wI_ne, wF_at, wF_ne, wI_f, wF_i, up_at, up_ne, uf_at, uf_ne, up_f, uf_i]) <;> first | assumption | rfl | exact a7.trans hw.1 | exact a8.trans hw.2))]; (try simp (disch := omega) only [wI_at, wI_ne, wF_at, wF_ne, wI_f, wF_i, up_at, up_ne, uf_at, uf_ne, up_f, uf_i]) <;> first | assumption | rfl), (by (try simp (disch := omega) only [wI_at, wI_ne, wF_at, wF_ne, wI_f, wF_i, up_at, up_ne, uf_at, uf_ne, up_f, uf_i]) <;> first | assumption | rfl | exact a7.trans hw.1 | exact a8.trans hw.2), ⟨f, f1, (by (try simp (disch := omega) only [wI_at, wI_ne, wF_at, wF_ne, wI_f, wF_i, up_at, up_ne, uf_at, uf_ne, up_f, uf_i]) <;> first | assumption | rfl | exact a7.trans hw.1 | exact a8.trans hw.2), (by (try simp (disch := omega) only [wI_at, wI_ne, wF_at, wF_ne, wI_f, wF_i, up_at, up_ne, uf_at, uf_ne, up_f, uf_i]) <;> first | assumption | rfl | exact a7.trans hw.1 | exact a8.trans hw.2), (by (try simp (disch := omega) only [wI_at, wI_ne, wF_at, wF_ne, wI_f, wF_i, up_at, up_ne, uf_at, uf_ne, up_f, uf_i]) <;> first | assumption | rfl | exact a7.trans hw.1 | exact a8.trans hw.2)⟩, (by (try simp (disch := omega) only [wI_at, wI_ne, wF_at, wF_ne, wI_f, wF_i, up_at, up_ne, uf_at, uf_ne, up_f, uf_i]) <;> first | assumption | rfl | exact a7.trans hw.1 | exact a8.trans hw.2)⟩
  · obtain ⟨a0, a1, a2, a3, a4, a5, a6⟩ := hD k' hk'
    exact ⟨(by (try simp (disch := omega) only [wI_at, wI_ne, wF_at, wF_ne, wI_f, wF_i, up_at, up_ne, uf_at, uf_ne, up_f, uf_i]) <;> first | assumption | rfl | exact a7.trans hw.1 | exact a8.trans hw.2), (by (try simp (disch := omega) only [wI_at, wI_ne, wF_at, wF_ne, wI_f, wF_i, up_at, up_ne, uf_at, uf_ne, up_f, uf_i]) <;> first | assumption | rfl | exact a7.trans hw.1 | exact a8.trans hw.2), (by (try simp (disch := omega) only [wI_at, wI_ne, wF_at, wF_ne, wI_f, wF_i, up_at, up_ne, uf_at, uf_ne, up_f, uf_i]) <;> first | assumption | rfl | exact a7.trans hw.1 | exact a8.trans hw.2), (by (try simp (disch := omega) only [wI_at, wI_ne, wF_at, wF_ne, wI_f, wF_i, up_at, up_ne, uf_at, uf_ne, up_f, uf_i]) <;> first | assumption | rfl | exact a7.trans hw.1 | exact a8.trans hw.2), (by (try simp (disch := omega) only [wI_at, wI_ne, wF_at, wF_ne, wI_f, wF_i, up_at, up_ne, uf_at, uf_ne, up_f, uf_i]) <;> first | assumption | rfl | exact a7.trans hw.1 | exact a8.trans hw.2), (by (try simp (disch := omega) only [wI_at, wI_ne, wF_at, wF_ne, wI_f, wF_i, up_at, up_ne, uf_at, uf_ne, up_f, uf_i]) <;> first | assumption | rfl | exact a7.trans hw.1 | exact a8.trans hw.2), (by (try simp (disch := omega) only [wI_at, wI_ne, wF_at, wF_ne, wI_f, wF_i, up_at, up_ne, uf_at, uf_ne, up_f, uf_i]) <;> first | assumption | rfl | exact a7.trans hw.1 | exact a8.trans hw.2)⟩
  · obtain ⟨⟨a0, a1, a2, a3⟩, ⟨a4, a5, a6, b6, a7⟩, a8, a9, a10, a11, a12⟩ := hJ j' hj'
    exact ⟨⟨(by (try simp (disch := omega) only [wI_at, wI_ne, wF_at, wF_ne, wI_f, wF_i, up_at, up_ne, uf_at, uf_ne, up_f, uf_i]) <;> first | assumption | rfl | exact a7.trans hw.1 | exact a8.trans hw.2), (by (try simp (disch := omega) only [wI_at, wI_ne, wF_at, wF_ne, wI_f, wF_i, up_at, up_ne, uf_at, uf_ne, up_f, uf_i]) <;> first | assumption | rfl | exact a7.trans hw.1 | exact a8.trans hw.2), (by (try simp (disch := omega) only [wI_at, wI_ne, wF_at, wF_ne, wI_f, wF_i, up_at, up_ne, uf_at, uf_ne, up_f, uf_i]) <;> first | assumption | rfl | exact a7.trans hw.1 | exact a8.trans hw.2), (by (try simp (disch := omega) only [wI_at, wI_ne, wF_at, wF_ne, wI_f, wF_i, up_at, up_ne, uf_at, uf_ne, up_f, uf_i]) <;> first | assumption | rfl | exact a7.trans hw.1 | exact a8.trans hw.2)⟩, ⟨(by (try simp (disch := omega) only [wI_at, wI_ne, wF_at, wF_ne, wI_f, wF_i, up_at, up_ne, uf_at, uf_ne, up_f, uf_i]) <;> first | assumption | rfl | exact a7.trans hw.1 | exact a8.trans hw.2), (by (try simp (disch := omega) only [wI_at, wI_ne, wF_at, wF_ne, wI_f, wF_i, up_at, up_ne, uf_at, uf_ne, up_f, uf_i]) <;> first | assumption | rfl | exact a7.trans hw.1 | exact a8.trans hw.2), (by intro z; (try simp (disch := omega) only [wI_at, wI_ne, wF_at, wF_ne, wI_f, wF_i, up_at, up_ne, uf_at, uf_ne, up_f, uf_i] at z) <;> (try simp (disch := omega) only [wI_at, wI_ne, wF_at, wF_ne, wI_f, wF_i, up_at, up_ne, uf_at, uf_ne, up_f, uf_i]) <;> first | exact a6 z | exact absurd z (by decide) | assumption | rfl | exact absurd (z.symm.trans h1) (by decide) | exact a12 (Or.inl h0) | exact a6 h0 | (rcases z with z | z <;> first | exact absurd z (by decide) | exact a6 (Or.inl z) | exact a6 (Or.inr z) | assumption | (simp_all; done))), (by intro z; (try simp (disch := omega) only [wI_at, wI_ne, wF_at, wF_ne, wI_f, wF_i, up_at, up_ne, uf_at, uf_ne, up_f, uf_i] at z) <;> (try simp (disch := omega) only [wI_at, wI_ne, wF_at, wF_ne, wI_f, wF_i, up_at, up_ne, uf_at, uf_ne, up_f, uf_i]) <;> first | exact b6 z | exact absurd z (by decide) | assumption | rfl | exact absurd (z.symm.trans h1) (by decide) | exact a12 (Or.inl h0) | exact a6 h0 | (rcases z with z | z <;> first | exact absurd z (by decide) | exact b6 (Or.inl z) | exact b6 (Or.inr z) | assumption | (simp_all; done))), (by (try simp (disch := omega) only [wI_at, wI_ne, wF_at, wF_ne, wI_f, wF_i, up_at, up_ne, uf_at, uf_ne, up_f, uf_i]) <;> first | assumption | rfl | exact a7.trans hw.1 | exact a8.trans hw.2)⟩, (by (try simp (disch := omega) only [wI_at, wI_ne, wF_at, wF_ne, wI_f, wF_i, up_at, up_ne, uf_at, uf_ne, up_f, uf_i]) <;> first | assumption | rfl | exact a7.trans hw.1 | exact a8.trans hw.2), (by (try simp (disch := omega) only [wI_at, wI_ne, wF_at, wF_ne, wI_f, wF_i, up_at, up_ne, uf_at, uf_ne, up_f, uf_i]) <;> first | assumption | rfl | exact a7.trans hw.1 | exact a8.trans hw.2), (by (try simp (disch := omega) only [wI_at, wI_ne, wF_at, wF_ne, wI_f, wF_i, up_at, up_ne, uf_at, uf_ne, up_f, uf_i]) <;> first | assumption | rfl | exact a7.trans hw.1 | exact a8.trans hw.2), (by (try simp (disch := omega) only [wI_at, wI_ne, wF_at, wF_ne, wI_f, wF_i, up_at, up_ne, uf_at, uf_ne, up_f, uf_i]) <;> first | assumption | rfl | exact a7.trans hw.1 | exact a8.trans hw.2), (by intro z; (try simp (disch := omega) only [wI_at, wI_ne, wF_at, wF_ne, wI_f, wF_i, up_at, up_ne, uf_at, uf_ne, up_f, uf_i] at z) <;> (try simp (disch := omega) only [wI_at, wI_ne, wF_at, wF_ne, wI_f, wF_i, up_at, up_ne, uf_at, uf_ne, up_f, uf_i]) <;> first | exact a12 z | exact absurd z (by decide) | assumption | rfl | exact absurd (z.symm.trans h1) (by decide) | exact a12 (Or.inl h0) | exact a6 h0 | (rcases z with z | z <;> first | exact absurd z (by decide) | exact a12 (Or.inl z) | exact a12 (Or.inr z) | assumption | (simp_all; done)))⟩
  · obtain ⟨w, w1, w2⟩ := hL
    exact ⟨w, w1, (by (try simp (disch := omega) only [wI_at, wI_ne, wF_at, wF_ne, wI_f, wF_i, up_at, up_ne, uf_at, uf_ne, up_f, uf_i]) <;> first | assumption | rfl | exact a7.trans hw.1 | exact a8.trans hw.2)⟩
  · obtain ⟨w, w1, w2⟩ := hH
    exact ⟨w, w1, (by (try simp (disch := omega) only [wI_at, wI_ne, wF_at, wF_ne, wI_f, wF_i, up_at, up_ne, uf_at, uf_ne, up_f, uf_i]) <;> first | assumption | rfl | exact a7.trans hw.1 | exact a8.trans hw.2)⟩
theorem rb_order (R : Rb h M ni nd nj) (hi : ni ≤ 8) (hd : nd ≤ 4) (hj : nj ≤ 10) (x y : Int32) : Rb (wI (wI h 27 2 x) 27 3 y) (mOrd M x y) ni nd nj := by
  obtain ⟨⟨s5, s6, s7, s8, s9, s10, s11, s3, s4⟩, ⟨n1, n2, n3, n4, n5⟩, hI, hD, hJ, hL, hH, hS⟩ := R
  refine ⟨⟨(by (try simp (disch := omega) only [mOrd, wI_at, wI_ne, wF_at, wF_ne, wI_f, wF_i, up_at, up_ne, uf_at, uf_ne, up_f, uf_i]) <;> first | assumption | rfl | exact a7.trans hw.1 | exact a8.trans hw.2), (by (try simp (disch := omega) only [mOrd, wI_at, wI_ne, wF_at, wF_ne, wI_f, wF_i, up_at, up_ne, uf_at, uf_ne, up_f, uf_i]) <;> first | assumption | rfl | exact a7.trans hw.1 | exact a8.trans hw.2), (by (try simp (disch := omega) only [mOrd, wI_at, wI_ne, wF_at, wF_ne, wI_f, wF_i, up_at, up_ne, uf_at, uf_ne, up_f, uf_i]) <;> first | assumption | rfl | exact a7.trans hw.1 | exact a8.trans hw.2), (by (try simp (disch := omega) only [mOrd, wI_at, wI_ne, wF_at, wF_ne, wI_f, wF_i, up_at, up_ne, uf_at, uf_ne, up_f, uf_i]) <;> first | assumption | rfl | exact a7.trans hw.1 | exact a8.trans hw.2), (by (try simp (disch := omega) only [mOrd, wI_at, wI_ne, wF_at, wF_ne, wI_f, wF_i, up_at, up_ne, uf_at, uf_ne, up_f, uf_i]) <;> first | assumption | rfl | exact a7.trans hw.1 | exact a8.trans hw.2), (by (try simp (disch := omega) only [mOrd, wI_at, wI_ne, wF_at, wF_ne, wI_f, wF_i, up_at, up_ne, uf_at, uf_ne, up_f, uf_i]) <;> first | assumption | rfl | exact a7.trans hw.1 | exact a8.trans hw.2), (by (try simp (disch := omega) only [mOrd, wI_at, wI_ne, wF_at, wF_ne, wI_f, wF_i, up_at, up_ne, uf_at, uf_ne, up_f, uf_i]) <;> first | assumption | rfl | exact a7.trans hw.1 | exact a8.trans hw.2), (by (try simp (disch := omega) only [mOrd, wI_at, wI_ne, wF_at, wF_ne, wI_f, wF_i, up_at, up_ne, uf_at, uf_ne, up_f, uf_i]) <;> first | assumption | rfl | exact a7.trans hw.1 | exact a8.trans hw.2), (by (try simp (disch := omega) only [mOrd, wI_at, wI_ne, wF_at, wF_ne, wI_f, wF_i, up_at, up_ne, uf_at, uf_ne, up_f, uf_i]) <;> first | assumption | rfl | exact a7.trans hw.1 | exact a8.trans hw.2)⟩, ⟨(by (try simp (disch := omega) only [mOrd, wI_at, wI_ne, wF_at, wF_ne, wI_f, wF_i, up_at, up_ne, uf_at, uf_ne, up_f, uf_i]) <;> first | assumption | rfl | exact a7.trans hw.1 | exact a8.trans hw.2), (by (try simp (disch := omega) only [mOrd, wI_at, wI_ne, wF_at, wF_ne, wI_f, wF_i, up_at, up_ne, uf_at, uf_ne, up_f, uf_i]) <;> first | assumption | rfl | exact a7.trans hw.1 | exact a8.trans hw.2), (by (try simp (disch := omega) only [mOrd, wI_at, wI_ne, wF_at, wF_ne, wI_f, wF_i, up_at, up_ne, uf_at, uf_ne, up_f, uf_i]) <;> first | assumption | rfl | exact a7.trans hw.1 | exact a8.trans hw.2), (by (try simp (disch := omega) only [mOrd, wI_at, wI_ne, wF_at, wF_ne, wI_f, wF_i, up_at, up_ne, uf_at, uf_ne, up_f, uf_i]) <;> first | assumption | rfl | exact a7.trans hw.1 | exact a8.trans hw.2), (by (try simp (disch := omega) only [mOrd, wI_at, wI_ne, wF_at, wF_ne, wI_f, wF_i, up_at, up_ne, uf_at, uf_ne, up_f, uf_i]) <;> first | assumption | rfl | exact a7.trans hw.1 | exact a8.trans hw.2)⟩, fun i hi' => ?_, fun k' hk' => ?_, fun j' hj' => ?_, ?_, ?_, hS⟩
  · obtain ⟨a0, a1, a2, a3, a4, ⟨f, f1, f2, f3, f4⟩, a7⟩ := hI i hi'
    exact ⟨(by (try simp (disch := omega) only [mOrd, wI_at, wI_ne, wF_at, wF_ne, wI_f, wF_i, up_at, up_ne, uf_at, uf_ne, up_f, uf_i]) <;> first | assumption | rfl | exact a7.trans hw.1 | exact a8.trans hw.2), (by (try simp (disch := omega) only [mOrd, wI_at, wI_ne, wF_at, wF_ne, wI_f, wF_i, up_at, up_ne, uf_at, uf_ne, up_f, uf_i]) <;> first | assumption | rfl | exact a7.trans hw.1 | exact a8.trans hw.2), (by (try simp (disch := omega) only [mOrd, wI_at, wI_ne, wF_at, wF_ne, wI_f, wF_i, up_at, up_ne, uf_at, uf_ne, up_f, uf_i]) <;> first | assumption | rfl | exact a7.trans hw.1 | exact a8.trans hw.2), (by rw [inD_congr (M := M) i nd (fun q hq => (by (try simp (disch := omega) only [mOrd, wI_at, wI_ne, wF_at, wF_ne, wI_f, wF_i, up_at, up_ne, uf_at, uf_ne, up_f, uf_i]) <;> first | assumption | rfl | exact a7.trans hw.1 | exact a8.trans hw.2))]; (try simp (disch := omega) only [mOrd, wI_at, wI_ne, wF_at, wF_ne, wI_f, wF_i, up_at, up_ne, uf_at, uf_ne, up_f, uf_i]) <;> first | assumption | rfl), (by (try simp (disch := omega) only [mOrd, wI_at, wI_ne, wF_at, wF_ne, wI_f, wF_i, up_at, up_ne, uf_at, uf_ne, up_f, uf_i]) <;> first | assumption | rfl | exact a7.trans hw.1 | exact a8.trans hw.2), ⟨f, f1, (by (try simp (disch := omega) only [mOrd, wI_at, wI_ne, wF_at, wF_ne, wI_f, wF_i, up_at, up_ne, uf_at, uf_ne, up_f, uf_i]) <;> first | assumption | rfl | exact a7.trans hw.1 | exact a8.trans hw.2), (by (try simp (disch := omega) only [mOrd, wI_at, wI_ne, wF_at, wF_ne, wI_f, wF_i, up_at, up_ne, uf_at, uf_ne, up_f, uf_i]) <;> first | assumption | rfl | exact a7.trans hw.1 | exact a8.trans hw.2), (by (try simp (disch := omega) only [mOrd, wI_at, wI_ne, wF_at, wF_ne, wI_f, wF_i, up_at, up_ne, uf_at, uf_ne, up_f, uf_i]) <;> first | assumption | rfl | exact a7.trans hw.1 | exact a8.trans hw.2)⟩, (by (try simp (disch := omega) only [mOrd, wI_at, wI_ne, wF_at, wF_ne, wI_f, wF_i, up_at, up_ne, uf_at, uf_ne, up_f, uf_i]) <;> first | assumption | rfl | exact a7.trans hw.1 | exact a8.trans hw.2)⟩
  · obtain ⟨a0, a1, a2, a3, a4, a5, a6⟩ := hD k' hk'
    exact ⟨(by (try simp (disch := omega) only [mOrd, wI_at, wI_ne, wF_at, wF_ne, wI_f, wF_i, up_at, up_ne, uf_at, uf_ne, up_f, uf_i]) <;> first | assumption | rfl | exact a7.trans hw.1 | exact a8.trans hw.2), (by (try simp (disch := omega) only [mOrd, wI_at, wI_ne, wF_at, wF_ne, wI_f, wF_i, up_at, up_ne, uf_at, uf_ne, up_f, uf_i]) <;> first | assumption | rfl | exact a7.trans hw.1 | exact a8.trans hw.2), (by (try simp (disch := omega) only [mOrd, wI_at, wI_ne, wF_at, wF_ne, wI_f, wF_i, up_at, up_ne, uf_at, uf_ne, up_f, uf_i]) <;> first | assumption | rfl | exact a7.trans hw.1 | exact a8.trans hw.2), (by (try simp (disch := omega) only [mOrd, wI_at, wI_ne, wF_at, wF_ne, wI_f, wF_i, up_at, up_ne, uf_at, uf_ne, up_f, uf_i]) <;> first | assumption | rfl | exact a7.trans hw.1 | exact a8.trans hw.2), (by (try simp (disch := omega) only [mOrd, wI_at, wI_ne, wF_at, wF_ne, wI_f, wF_i, up_at, up_ne, uf_at, uf_ne, up_f, uf_i]) <;> first | assumption | rfl | exact a7.trans hw.1 | exact a8.trans hw.2), (by (try simp (disch := omega) only [mOrd, wI_at, wI_ne, wF_at, wF_ne, wI_f, wF_i, up_at, up_ne, uf_at, uf_ne, up_f, uf_i]) <;> first | assumption | rfl | exact a7.trans hw.1 | exact a8.trans hw.2), (by (try simp (disch := omega) only [mOrd, wI_at, wI_ne, wF_at, wF_ne, wI_f, wF_i, up_at, up_ne, uf_at, uf_ne, up_f, uf_i]) <;> first | assumption | rfl | exact a7.trans hw.1 | exact a8.trans hw.2)⟩
  · obtain ⟨⟨a0, a1, a2, a3⟩, ⟨a4, a5, a6, b6, a7⟩, a8, a9, a10, a11, a12⟩ := hJ j' hj'
    exact ⟨⟨(by (try simp (disch := omega) only [mOrd, wI_at, wI_ne, wF_at, wF_ne, wI_f, wF_i, up_at, up_ne, uf_at, uf_ne, up_f, uf_i]) <;> first | assumption | rfl | exact a7.trans hw.1 | exact a8.trans hw.2), (by (try simp (disch := omega) only [mOrd, wI_at, wI_ne, wF_at, wF_ne, wI_f, wF_i, up_at, up_ne, uf_at, uf_ne, up_f, uf_i]) <;> first | assumption | rfl | exact a7.trans hw.1 | exact a8.trans hw.2), (by (try simp (disch := omega) only [mOrd, wI_at, wI_ne, wF_at, wF_ne, wI_f, wF_i, up_at, up_ne, uf_at, uf_ne, up_f, uf_i]) <;> first | assumption | rfl | exact a7.trans hw.1 | exact a8.trans hw.2), (by (try simp (disch := omega) only [mOrd, wI_at, wI_ne, wF_at, wF_ne, wI_f, wF_i, up_at, up_ne, uf_at, uf_ne, up_f, uf_i]) <;> first | assumption | rfl | exact a7.trans hw.1 | exact a8.trans hw.2)⟩, ⟨(by (try simp (disch := omega) only [mOrd, wI_at, wI_ne, wF_at, wF_ne, wI_f, wF_i, up_at, up_ne, uf_at, uf_ne, up_f, uf_i]) <;> first | assumption | rfl | exact a7.trans hw.1 | exact a8.trans hw.2), (by (try simp (disch := omega) only [mOrd, wI_at, wI_ne, wF_at, wF_ne, wI_f, wF_i, up_at, up_ne, uf_at, uf_ne, up_f, uf_i]) <;> first | assumption | rfl | exact a7.trans hw.1 | exact a8.trans hw.2), (by intro z; (try simp (disch := omega) only [mOrd, wI_at, wI_ne, wF_at, wF_ne, wI_f, wF_i, up_at, up_ne, uf_at, uf_ne, up_f, uf_i] at z) <;> (try simp (disch := omega) only [mOrd, wI_at, wI_ne, wF_at, wF_ne, wI_f, wF_i, up_at, up_ne, uf_at, uf_ne, up_f, uf_i]) <;> first | exact a6 z | exact absurd z (by decide) | assumption | rfl | exact absurd (z.symm.trans h1) (by decide) | exact a12 (Or.inl h0) | exact a6 h0 | (rcases z with z | z <;> first | exact absurd z (by decide) | exact a6 (Or.inl z) | exact a6 (Or.inr z) | assumption | (simp_all; done))), (by intro z; (try simp (disch := omega) only [mOrd, wI_at, wI_ne, wF_at, wF_ne, wI_f, wF_i, up_at, up_ne, uf_at, uf_ne, up_f, uf_i] at z) <;> (try simp (disch := omega) only [mOrd, wI_at, wI_ne, wF_at, wF_ne, wI_f, wF_i, up_at, up_ne, uf_at, uf_ne, up_f, uf_i]) <;> first | exact b6 z | exact absurd z (by decide) | assumption | rfl | exact absurd (z.symm.trans h1) (by decide) | exact a12 (Or.inl h0) | exact a6 h0 | (rcases z with z | z <;> first | exact absurd z (by decide) | exact b6 (Or.inl z) | exact b6 (Or.inr z) | assumption | (simp_all; done))), (by (try simp (disch := omega) only [mOrd, wI_at, wI_ne, wF_at, wF_ne, wI_f, wF_i, up_at, up_ne, uf_at, uf_ne, up_f, uf_i]) <;> first | assumption | rfl | exact a7.trans hw.1 | exact a8.trans hw.2)⟩, (by (try simp (disch := omega) only [mOrd, wI_at, wI_ne, wF_at, wF_ne, wI_f, wF_i, up_at, up_ne, uf_at, uf_ne, up_f, uf_i]) <;> first | assumption | rfl | exact a7.trans hw.1 | exact a8.trans hw.2), (by (try simp (disch := omega) only [mOrd, wI_at, wI_ne, wF_at, wF_ne, wI_f, wF_i, up_at, up_ne, uf_at, uf_ne, up_f, uf_i]) <;> first | assumption | rfl | exact a7.trans hw.1 | exact a8.trans hw.2), (by (try simp (disch := omega) only [mOrd, wI_at, wI_ne, wF_at, wF_ne, wI_f, wF_i, up_at, up_ne, uf_at, uf_ne, up_f, uf_i]) <;> first | assumption | rfl | exact a7.trans hw.1 | exact a8.trans hw.2), (by (try simp (disch := omega) only [mOrd, wI_at, wI_ne, wF_at, wF_ne, wI_f, wF_i, up_at, up_ne, uf_at, uf_ne, up_f, uf_i]) <;> first | assumption | rfl | exact a7.trans hw.1 | exact a8.trans hw.2), (by intro z; (try simp (disch := omega) only [mOrd, wI_at, wI_ne, wF_at, wF_ne, wI_f, wF_i, up_at, up_ne, uf_at, uf_ne, up_f, uf_i] at z) <;> (try simp (disch := omega) only [mOrd, wI_at, wI_ne, wF_at, wF_ne, wI_f, wF_i, up_at, up_ne, uf_at, uf_ne, up_f, uf_i]) <;> first | exact a12 z | exact absurd z (by decide) | assumption | rfl | exact absurd (z.symm.trans h1) (by decide) | exact a12 (Or.inl h0) | exact a6 h0 | (rcases z with z | z <;> first | exact absurd z (by decide) | exact a12 (Or.inl z) | exact a12 (Or.inr z) | assumption | (simp_all; done)))⟩
  · obtain ⟨w, w1, w2⟩ := hL
    exact ⟨w, w1, (by (try simp (disch := omega) only [mOrd, wI_at, wI_ne, wF_at, wF_ne, wI_f, wF_i, up_at, up_ne, uf_at, uf_ne, up_f, uf_i]) <;> first | assumption | rfl | exact a7.trans hw.1 | exact a8.trans hw.2)⟩
  · obtain ⟨w, w1, w2⟩ := hH
    exact ⟨w, w1, (by (try simp (disch := omega) only [mOrd, wI_at, wI_ne, wF_at, wF_ne, wI_f, wF_i, up_at, up_ne, uf_at, uf_ne, up_f, uf_i]) <;> first | assumption | rfl | exact a7.trans hw.1 | exact a8.trans hw.2)⟩
theorem rb_g8 (R : Rb h M ni nd nj) (hi : ni ≤ 8) (hd : nd ≤ 4) (hj : nj ≤ 10) (v : Int32) : Rb h (up M 0 8 v) ni nd nj := by
  obtain ⟨⟨s5, s6, s7, s8, s9, s10, s11, s3, s4⟩, ⟨n1, n2, n3, n4, n5⟩, hI, hD, hJ, hL, hH, hS⟩ := R
  refine ⟨⟨(by (try simp (disch := omega) only [wI_at, wI_ne, wF_at, wF_ne, wI_f, wF_i, up_at, up_ne, uf_at, uf_ne, up_f, uf_i]) <;> first | assumption | rfl | exact a7.trans hw.1 | exact a8.trans hw.2), (by (try simp (disch := omega) only [wI_at, wI_ne, wF_at, wF_ne, wI_f, wF_i, up_at, up_ne, uf_at, uf_ne, up_f, uf_i]) <;> first | assumption | rfl | exact a7.trans hw.1 | exact a8.trans hw.2), (by (try simp (disch := omega) only [wI_at, wI_ne, wF_at, wF_ne, wI_f, wF_i, up_at, up_ne, uf_at, uf_ne, up_f, uf_i]) <;> first | assumption | rfl | exact a7.trans hw.1 | exact a8.trans hw.2), (by (try simp (disch := omega) only [wI_at, wI_ne, wF_at, wF_ne, wI_f, wF_i, up_at, up_ne, uf_at, uf_ne, up_f, uf_i]) <;> first | assumption | rfl | exact a7.trans hw.1 | exact a8.trans hw.2), (by (try simp (disch := omega) only [wI_at, wI_ne, wF_at, wF_ne, wI_f, wF_i, up_at, up_ne, uf_at, uf_ne, up_f, uf_i]) <;> first | assumption | rfl | exact a7.trans hw.1 | exact a8.trans hw.2), (by (try simp (disch := omega) only [wI_at, wI_ne, wF_at, wF_ne, wI_f, wF_i, up_at, up_ne, uf_at, uf_ne, up_f, uf_i]) <;> first | assumption | rfl | exact a7.trans hw.1 | exact a8.trans hw.2), (by (try simp (disch := omega) only [wI_at, wI_ne, wF_at, wF_ne, wI_f, wF_i, up_at, up_ne, uf_at, uf_ne, up_f, uf_i]) <;> first | assumption | rfl | exact a7.trans hw.1 | exact a8.trans hw.2), (by (try simp (disch := omega) only [wI_at, wI_ne, wF_at, wF_ne, wI_f, wF_i, up_at, up_ne, uf_at, uf_ne, up_f, uf_i]) <;> first | assumption | rfl | exact a7.trans hw.1 | exact a8.trans hw.2), (by (try simp (disch := omega) only [wI_at, wI_ne, wF_at, wF_ne, wI_f, wF_i, up_at, up_ne, uf_at, uf_ne, up_f, uf_i]) <;> first | assumption | rfl | exact a7.trans hw.1 | exact a8.trans hw.2)⟩, ⟨(by (try simp (disch := omega) only [wI_at, wI_ne, wF_at, wF_ne, wI_f, wF_i, up_at, up_ne, uf_at, uf_ne, up_f, uf_i]) <;> first | assumption | rfl | exact a7.trans hw.1 | exact a8.trans hw.2), (by (try simp (disch := omega) only [wI_at, wI_ne, wF_at, wF_ne, wI_f, wF_i, up_at, up_ne, uf_at, uf_ne, up_f, uf_i]) <;> first | assumption | rfl | exact a7.trans hw.1 | exact a8.trans hw.2), (by (try simp (disch := omega) only [wI_at, wI_ne, wF_at, wF_ne, wI_f, wF_i, up_at, up_ne, uf_at, uf_ne, up_f, uf_i]) <;> first | assumption | rfl | exact a7.trans hw.1 | exact a8.trans hw.2), (by (try simp (disch := omega) only [wI_at, wI_ne, wF_at, wF_ne, wI_f, wF_i, up_at, up_ne, uf_at, uf_ne, up_f, uf_i]) <;> first | assumption | rfl | exact a7.trans hw.1 | exact a8.trans hw.2), (by (try simp (disch := omega) only [wI_at, wI_ne, wF_at, wF_ne, wI_f, wF_i, up_at, up_ne, uf_at, uf_ne, up_f, uf_i]) <;> first | assumption | rfl | exact a7.trans hw.1 | exact a8.trans hw.2)⟩, fun i hi' => ?_, fun k' hk' => ?_, fun j' hj' => ?_, ?_, ?_, hS⟩
  · obtain ⟨a0, a1, a2, a3, a4, ⟨f, f1, f2, f3, f4⟩, a7⟩ := hI i hi'
    exact ⟨(by (try simp (disch := omega) only [wI_at, wI_ne, wF_at, wF_ne, wI_f, wF_i, up_at, up_ne, uf_at, uf_ne, up_f, uf_i]) <;> first | assumption | rfl | exact a7.trans hw.1 | exact a8.trans hw.2), (by (try simp (disch := omega) only [wI_at, wI_ne, wF_at, wF_ne, wI_f, wF_i, up_at, up_ne, uf_at, uf_ne, up_f, uf_i]) <;> first | assumption | rfl | exact a7.trans hw.1 | exact a8.trans hw.2), (by (try simp (disch := omega) only [wI_at, wI_ne, wF_at, wF_ne, wI_f, wF_i, up_at, up_ne, uf_at, uf_ne, up_f, uf_i]) <;> first | assumption | rfl | exact a7.trans hw.1 | exact a8.trans hw.2), (by rw [inD_congr (M := M) i nd (fun q hq => (by (try simp (disch := omega) only [wI_at, wI_ne, wF_at, wF_ne, wI_f, wF_i, up_at, up_ne, uf_at, uf_ne, up_f, uf_i]) <;> first | assumption | rfl | exact a7.trans hw.1 | exact a8.trans hw.2))]; (try simp (disch := omega) only [wI_at, wI_ne, wF_at, wF_ne, wI_f, wF_i, up_at, up_ne, uf_at, uf_ne, up_f, uf_i]) <;> first | assumption | rfl), (by (try simp (disch := omega) only [wI_at, wI_ne, wF_at, wF_ne, wI_f, wF_i, up_at, up_ne, uf_at, uf_ne, up_f, uf_i]) <;> first | assumption | rfl | exact a7.trans hw.1 | exact a8.trans hw.2), ⟨f, f1, (by (try simp (disch := omega) only [wI_at, wI_ne, wF_at, wF_ne, wI_f, wF_i, up_at, up_ne, uf_at, uf_ne, up_f, uf_i]) <;> first | assumption | rfl | exact a7.trans hw.1 | exact a8.trans hw.2), (by (try simp (disch := omega) only [wI_at, wI_ne, wF_at, wF_ne, wI_f, wF_i, up_at, up_ne, uf_at, uf_ne, up_f, uf_i]) <;> first | assumption | rfl | exact a7.trans hw.1 | exact a8.trans hw.2), (by (try simp (disch := omega) only [wI_at, wI_ne, wF_at, wF_ne, wI_f, wF_i, up_at, up_ne, uf_at, uf_ne, up_f, uf_i]) <;> first | assumption | rfl | exact a7.trans hw.1 | exact a8.trans hw.2)⟩, (by (try simp (disch := omega) only [wI_at, wI_ne, wF_at, wF_ne, wI_f, wF_i, up_at, up_ne, uf_at, uf_ne, up_f, uf_i]) <;> first | assumption | rfl | exact a7.trans hw.1 | exact a8.trans hw.2)⟩
  · obtain ⟨a0, a1, a2, a3, a4, a5, a6⟩ := hD k' hk'
    exact ⟨(by (try simp (disch := omega) only [wI_at, wI_ne, wF_at, wF_ne, wI_f, wF_i, up_at, up_ne, uf_at, uf_ne, up_f, uf_i]) <;> first | assumption | rfl | exact a7.trans hw.1 | exact a8.trans hw.2), (by (try simp (disch := omega) only [wI_at, wI_ne, wF_at, wF_ne, wI_f, wF_i, up_at, up_ne, uf_at, uf_ne, up_f, uf_i]) <;> first | assumption | rfl | exact a7.trans hw.1 | exact a8.trans hw.2), (by (try simp (disch := omega) only [wI_at, wI_ne, wF_at, wF_ne, wI_f, wF_i, up_at, up_ne, uf_at, uf_ne, up_f, uf_i]) <;> first | assumption | rfl | exact a7.trans hw.1 | exact a8.trans hw.2), (by (try simp (disch := omega) only [wI_at, wI_ne, wF_at, wF_ne, wI_f, wF_i, up_at, up_ne, uf_at, uf_ne, up_f, uf_i]) <;> first | assumption | rfl | exact a7.trans hw.1 | exact a8.trans hw.2), (by (try simp (disch := omega) only [wI_at, wI_ne, wF_at, wF_ne, wI_f, wF_i, up_at, up_ne, uf_at, uf_ne, up_f, uf_i]) <;> first | assumption | rfl | exact a7.trans hw.1 | exact a8.trans hw.2), (by (try simp (disch := omega) only [wI_at, wI_ne, wF_at, wF_ne, wI_f, wF_i, up_at, up_ne, uf_at, uf_ne, up_f, uf_i]) <;> first | assumption | rfl | exact a7.trans hw.1 | exact a8.trans hw.2), (by (try simp (disch := omega) only [wI_at, wI_ne, wF_at, wF_ne, wI_f, wF_i, up_at, up_ne, uf_at, uf_ne, up_f, uf_i]) <;> first | assumption | rfl | exact a7.trans hw.1 | exact a8.trans hw.2)⟩
  · obtain ⟨⟨a0, a1, a2, a3⟩, ⟨a4, a5, a6, b6, a7⟩, a8, a9, a10, a11, a12⟩ := hJ j' hj'
    exact ⟨⟨(by (try simp (disch := omega) only [wI_at, wI_ne, wF_at, wF_ne, wI_f, wF_i, up_at, up_ne, uf_at, uf_ne, up_f, uf_i]) <;> first | assumption | rfl | exact a7.trans hw.1 | exact a8.trans hw.2), (by (try simp (disch := omega) only [wI_at, wI_ne, wF_at, wF_ne, wI_f, wF_i, up_at, up_ne, uf_at, uf_ne, up_f, uf_i]) <;> first | assumption | rfl | exact a7.trans hw.1 | exact a8.trans hw.2), (by (try simp (disch := omega) only [wI_at, wI_ne, wF_at, wF_ne, wI_f, wF_i, up_at, up_ne, uf_at, uf_ne, up_f, uf_i]) <;> first | assumption | rfl | exact a7.trans hw.1 | exact a8.trans hw.2), (by (try simp (disch := omega) only [wI_at, wI_ne, wF_at, wF_ne, wI_f, wF_i, up_at, up_ne, uf_at, uf_ne, up_f, uf_i]) <;> first | assumption | rfl | exact a7.trans hw.1 | exact a8.trans hw.2)⟩, ⟨(by (try simp (disch := omega) only [wI_at, wI_ne, wF_at, wF_ne, wI_f, wF_i, up_at, up_ne, uf_at, uf_ne, up_f, uf_i]) <;> first | assumption | rfl | exact a7.trans hw.1 | exact a8.trans hw.2), (by (try simp (disch := omega) only [wI_at, wI_ne, wF_at, wF_ne, wI_f, wF_i, up_at, up_ne, uf_at, uf_ne, up_f, uf_i]) <;> first | assumption | rfl | exact a7.trans hw.1 | exact a8.trans hw.2), (by intro z; (try simp (disch := omega) only [wI_at, wI_ne, wF_at, wF_ne, wI_f, wF_i, up_at, up_ne, uf_at, uf_ne, up_f, uf_i] at z) <;> (try simp (disch := omega) only [wI_at, wI_ne, wF_at, wF_ne, wI_f, wF_i, up_at, up_ne, uf_at, uf_ne, up_f, uf_i]) <;> first | exact a6 z | exact absurd z (by decide) | assumption | rfl | exact absurd (z.symm.trans h1) (by decide) | exact a12 (Or.inl h0) | exact a6 h0 | (rcases z with z | z <;> first | exact absurd z (by decide) | exact a6 (Or.inl z) | exact a6 (Or.inr z) | assumption | (simp_all; done))), (by intro z; (try simp (disch := omega) only [wI_at, wI_ne, wF_at, wF_ne, wI_f, wF_i, up_at, up_ne, uf_at, uf_ne, up_f, uf_i] at z) <;> (try simp (disch := omega) only [wI_at, wI_ne, wF_at, wF_ne, wI_f, wF_i, up_at, up_ne, uf_at, uf_ne, up_f, uf_i]) <;> first | exact b6 z | exact absurd z (by decide) | assumption | rfl | exact absurd (z.symm.trans h1) (by decide) | exact a12 (Or.inl h0) | exact a6 h0 | (rcases z with z | z <;> first | exact absurd z (by decide) | exact b6 (Or.inl z) | exact b6 (Or.inr z) | assumption | (simp_all; done))), (by (try simp (disch := omega) only [wI_at, wI_ne, wF_at, wF_ne, wI_f, wF_i, up_at, up_ne, uf_at, uf_ne, up_f, uf_i]) <;> first | assumption | rfl | exact a7.trans hw.1 | exact a8.trans hw.2)⟩, (by (try simp (disch := omega) only [wI_at, wI_ne, wF_at, wF_ne, wI_f, wF_i, up_at, up_ne, uf_at, uf_ne, up_f, uf_i]) <;> first | assumption | rfl | exact a7.trans hw.1 | exact a8.trans hw.2), (by (try simp (disch := omega) only [wI_at, wI_ne, wF_at, wF_ne, wI_f, wF_i, up_at, up_ne, uf_at, uf_ne, up_f, uf_i]) <;> first | assumption | rfl | exact a7.trans hw.1 | exact a8.trans hw.2), (by (try simp (disch := omega) only [wI_at, wI_ne, wF_at, wF_ne, wI_f, wF_i, up_at, up_ne, uf_at, uf_ne, up_f, uf_i]) <;> first | assumption | rfl | exact a7.trans hw.1 | exact a8.trans hw.2), (by (try simp (disch := omega) only [wI_at, wI_ne, wF_at, wF_ne, wI_f, wF_i, up_at, up_ne, uf_at, uf_ne, up_f, uf_i]) <;> first | assumption | rfl | exact a7.trans hw.1 | exact a8.trans hw.2), (by intro z; (try simp (disch := omega) only [wI_at, wI_ne, wF_at, wF_ne, wI_f, wF_i, up_at, up_ne, uf_at, uf_ne, up_f, uf_i] at z) <;> (try simp (disch := omega) only [wI_at, wI_ne, wF_at, wF_ne, wI_f, wF_i, up_at, up_ne, uf_at, uf_ne, up_f, uf_i]) <;> first | exact a12 z | exact absurd z (by decide) | assumption | rfl | exact absurd (z.symm.trans h1) (by decide) | exact a12 (Or.inl h0) | exact a6 h0 | (rcases z with z | z <;> first | exact absurd z (by decide) | exact a12 (Or.inl z) | exact a12 (Or.inr z) | assumption | (simp_all; done)))⟩
  · obtain ⟨w, w1, w2⟩ := hL
    exact ⟨w, w1, (by (try simp (disch := omega) only [wI_at, wI_ne, wF_at, wF_ne, wI_f, wF_i, up_at, up_ne, uf_at, uf_ne, up_f, uf_i]) <;> first | assumption | rfl | exact a7.trans hw.1 | exact a8.trans hw.2)⟩
  · obtain ⟨w, w1, w2⟩ := hH
    exact ⟨w, w1, (by (try simp (disch := omega) only [wI_at, wI_ne, wF_at, wF_ne, wI_f, wF_i, up_at, up_ne, uf_at, uf_ne, up_f, uf_i]) <;> first | assumption | rfl | exact a7.trans hw.1 | exact a8.trans hw.2)⟩
theorem rb_ordS (R : Rb h M ni nd nj) (hi : ni ≤ 8) (hd : nd ≤ 4) (hj : nj ≤ 10) (x y : Int32) (h6 : M.1 0 6 = x) (h7 : M.1 0 7 = y) : Rb h (mOrd M x y) ni nd nj := by
  have e : mOrd M x y = up M 0 8 (3 - x - y) := by
    unfold mOrd
    rw [← h6, up_same, ← h7, up_same]
  rw [e]
  exact rb_g8 R hi hd hj _
end P47r
section P47i
variable {M S : Mo} {ni nd nj T a : Nat} {x : UInt32}
theorem ifl_uf (h : Ifl M nd) (g : Gd x) : Ifl (uf M a x) nd := by
  have key : ∀ i, Gd (M.2 i) → Gd ((uf M a x).2 i) := fun i hi => by
    by_cases e : i = a
    · subst e; rw [uf_at]; exact g
    · rw [uf_ne e]; exact hi
  exact ⟨fun k hk => ⟨key _ (h.1 k hk).1, key _ (h.1 k hk).2⟩, key _ h.2.1, key _ h.2.2⟩
theorem inv_uf (hI : Inv M ni nd nj T) (g : Gd x) : Inv (uf M a x) ni nd nj T := ⟨⟨hI.1.1, hI.1.2.1, hI.1.2.2.1, hI.1.2.2.2.1, ifl_uf hI.1.2.2.2.2.1 g, hI.1.2.2.2.2.2⟩, hI.2⟩
theorem xt_uf (ha : a = 9 ∨ ∃ k, k < nd ∧ a = 2 * k + 1) (hX : Xn M ni nd nj) : Xn (uf M a x) ni nd nj := ⟨hX.1, hX.2.1.of (fun i _ => ⟨rfl, rfl⟩) (fun k hk _ => ⟨rfl, rfl, rfl, uf_ne (by rcases ha with e | ⟨w, hw, e⟩ <;> omega)⟩), hX.2.2⟩
theorem inv_set (hI : Inv M ni nd nj T) (hf : Ifl S nd) (h0 : ∀ a, a < 6 ∨ 8 < a → S.1 0 a = M.1 0 a) (h1 : ∀ i, S.1 1 (6 * i) = M.1 1 (6 * i)) (h11 : ∀ i, S.1 1 (6 * i + 1) = M.1 1 (6 * i + 1)) (h13 : ∀ i, i < ni → M.1 1 (6 * i) = 0 → S.1 1 (6 * i + 3) = M.1 1 (6 * i + 3)) (h2 : S.1 2 = M.1 2) (h3 : S.1 3 = M.1 3) (h4 : S.1 4 = M.1 4) (h5 : S.1 5 = M.1 5) : Inv S ni nd nj T := by
  obtain ⟨hIS, hSm, hJw, hAm, hNc, h00, hP⟩ := hI
  have hi8 := hIS.1.1
  have hp : Ip S := by unfold Ip pl; rw [h0 1 (by omega)]; exact hIS.2.1
  refine ⟨hIS.of hp hf (fun i _ => h11 i) (fun i _ => h1 i) (fun i => by rw [h3]; exact ⟨rfl, rfl, rfl⟩) (fun i => by rw [h2]), ?_, fun n hn => ?_, fun i hi z => ?_, ?_, (h0 0 (by omega)).trans h00, ?_⟩
  · unfold Sm; rw [h0 12 (by omega), h0 13 (by omega), h0 14 (by omega), h2]; exact hSm
  · rw [h3, h4, h5, h1]; exact hJw n hn
  · rw [h1] at z; rw [h13 i hi z]; exact hAm i hi z
  · unfold Nc; rw [h5]; exact hNc
  · rcases hP with ⟨p1, p2, p3⟩ | ⟨j, it, k, q, hO, p1, p2, p3⟩
    · exact Or.inl ⟨(h0 3 (by omega)).trans p1, pha_same (M := M) (h0 2 (by omega)) (fun k => by rw [h2]) p2, fun n hn => by rw [h3]; exact p3 n hn⟩
    · refine Or.inr ⟨j, it, k, q, ?_, fun z => ?_, fun z i hi y => ?_, fun n hn hnj => by rw [h3]; exact p3 n hn hnj⟩
      · obtain ⟨⟨b1, b2, b3, b4, b5, b6⟩, b7, b8, b9, b10⟩ := hO
        refine ⟨⟨b1, (h0 3 (by omega)).trans b2, by rw [h3]; exact b3, b4, by rw [h3]; exact b5, b6⟩, ?_, ph_same (M := M) (h0 2 (by omega)) (fun k => by rw [h2]) b8, by rw [h5]; exact b9, by rw [h4]; exact b10⟩
        rw [h3, h4]
        rcases b7 with ⟨z, z1, z2, z3, r, hr, z4⟩ | z | z
        · refine Or.inl ⟨z, z1, z2, z3, r, hr, (h13 it b4 ?_).trans z4⟩
          have y := (hJw j b1).2.2 z
          rw [z1, nI_clamp (by omega)] at y
          exact y
        · exact Or.inr (Or.inl z)
        · exact Or.inr (Or.inr z)
      · rw [h1]; rw [h3] at z; exact p1 z
      · rw [h3] at z; rw [h11, h3] at y; exact p2 z i hi y
theorem inv_refill {it : Nat} {v : Int32} (hI : Inv M ni nd nj T) (hc : M.1 1 (6 * it) = 1) : Inv (up M 1 (6 * it + 3) v) ni nd nj T := by
  refine inv_set hI hI.1.2.2.2.2.1 (fun a _ => up_ne (by omega)) (fun i => up_ne (by omega)) (fun i => up_ne (by omega)) (fun i hi z => ?_) (up_row (by omega)) (up_row (by omega)) (up_row (by omega)) (up_row (by omega))
  by_cases e : i = it
  · subst e; rw [hc] at z; exact absurd z (by decide)
  · exact up_ne (by omega)
theorem xt_refill {it : Nat} {v : Int32} (hX : Xn M ni nd nj) : Xn (up M 1 (6 * it + 3) v) ni nd nj := ⟨
  hX.1.of (fun a _ _ => up_ne (by omega)) (fun i _ => up_ne (by omega)) (fun j => up_ne (by omega)) (fun j _ => Or.inl (up_ne (by omega))) (fun j => up_ne (by omega)), hX.2.1.of (fun i hi => ⟨up_ne (by omega), up_ne (by omega)⟩) (fun k hk _ => ⟨up_ne (by omega), up_ne (by omega), up_ne (by omega), rfl⟩), hX.2.2.row (up_row (by omega))⟩
theorem inv_ord {x y : Int32} (hI : Inv M ni nd nj T) : Inv (mOrd M x y) ni nd nj T := by
  refine inv_set hI hI.1.2.2.2.2.1 (fun a ha => by simp (disch := omega) only [mOrd, up_ne]) (fun i => by simp (disch := omega) only [mOrd, up_ne]) (fun i => by simp (disch := omega) only [mOrd, up_ne]) (fun i hi z => by simp (disch := omega) only [mOrd, up_ne]) ?_ ?_ ?_ ?_ <;> exact ((up_row (by omega)).trans (up_row (by omega))).trans (up_row (by omega))
theorem xt_ord {x y : Int32} (hX : Xn M ni nd nj) : Xn (mOrd M x y) ni nd nj := ⟨
  hX.1.of (fun a ha _ => by simp (disch := omega) only [mOrd, up_ne]) (fun i _ => by simp (disch := omega) only [mOrd, up_ne]) (fun j => by simp (disch := omega) only [mOrd, up_ne]) (fun j _ => Or.inl (by simp (disch := omega) only [mOrd, up_ne])) (fun j => by simp (disch := omega) only [mOrd, up_ne]), nz_up0 _ _ (nz_up0 _ _ (nz_up0 _ _ hX.2.1)), hX.2.2.row (((up_row (by omega)).trans (up_row (by omega))).trans (up_row (by omega)))⟩
end P47i
section P47
variable {G : Gl} {h : Hp}
theorem c_setLimit_2 (y : Int32) (hy : ¬ (1065353216 ≤ y ∧ y ≤ 1148846080)) : Ct G mX9_setLimit [ga G 0, .int y] h 456 456 (dI (-2) h) := by
  refine Ct.of rfl (by simp [Value.category, ga]) (Nat.le_of_ble_eq_true rfl) (Nat.le_refl _) ?_
  show Go _ _ _ _ _ _ _ [some (ga G 0), some (.int y), none] []
  refine g_ild1 dX9_setLimit_0 ?_
  refine g_ldc mw_3_69 dX9_setLimit_1 ?_
  refine g_ldc mw_3_214 dX9_setLimit_3 ?_
  refine g_callS3 (c_isFrom (h := h) y 1065353216 1148846080) mw_2_133 ok_X9_isFrom ⟨by decide, by decide⟩ (by omega) (by omega) (Nat.le_of_ble_eq_true rfl) dX9_setLimit_5 (dI_K ?_)
  rw [if_neg hy]
  refine g_if_ne_f (tgt := 14) dX9_setLimit_8 (by decide) (by decide) ?_
  show Go _ _ _ _ _ _ 11 _ _
  refine g_bipush (v := -2) dX9_setLimit_11 (by decide +kernel) ?_
  exact g_iret rfl dX9_setLimit_13 ⟨rfl, rfl⟩
theorem c_setLimit_s (n : Nat) (hn : n < 256) (h8 : 8 ≤ n) (hS : Sh h) (he : h.2.1 1 4 = fval n) : Ct G mX9_setLimit [ga G 0, .int (bt n)] h 456 456 (dI (-5) h) := by
  have hb := bt_r ⟨n, hn⟩ h8
  refine Ct.of rfl (by simp [Value.category, ga]) (Nat.le_of_ble_eq_true rfl) (Nat.le_refl _) ?_
  show Go _ _ _ _ _ _ _ [some (ga G 0), some (.int (bt n)), none] []
  refine g_ild1 dX9_setLimit_0 ?_
  refine g_ldc mw_3_69 dX9_setLimit_1 ?_
  refine g_ldc mw_3_214 dX9_setLimit_3 ?_
  refine g_callS3 (c_isFrom (h := h) (bt n) 1065353216 1148846080) mw_2_133 ok_X9_isFrom ⟨by decide, by decide⟩ (by omega) (by omega) (Nat.le_of_ble_eq_true rfl) dX9_setLimit_5 (dI_K ?_)
  rw [if_pos ⟨hb.1, hb.2.2⟩]
  refine g_if_ne_t (tgt := 14) dX9_setLimit_8 (by decide) (by decide) ?_
  show Go _ _ _ _ _ _ 14 _ _
  refine g_ild1 dX9_setLimit_14 ?_
  refine g_callS1 (c_floatOf (h := h) n hn) mw_3_118 ok_X9_floatOf ⟨by decide, by decide⟩ (by omega) (by omega) (Nat.le_of_ble_eq_true rfl) dX9_setLimit_15 (dF_K ?_)
  refine g_fst2 (by decide) dX9_setLimit_18 ?_
  refine g_fld2 dX9_setLimit_19 ?_
  refine g_ald0 dX9_setLimit_20 ?_
  refine g_getQ fb_9_0 mw_2_95 (by first | assumption | exact lay_item (by omega) | exact lay_drive (by omega) | exact lay_job (by omega) | rfl) (by omega) (sh_now hS) dX9_setLimit_21 ?_
  show Go _ _ _ _ _ _ 24 _ _
  refine g_getF_a fb_6_4 mw_2_8 (by first | assumption | exact lay_item (by omega) | exact lay_drive (by omega) | exact lay_job (by omega) | rfl) (by omega) dX9_setLimit_24 (fun xx24 ee24 => ?_)
  obtain rfl : xx24 = (fval n) := ee24.symm.trans he
  refine g_fcmp dX9_setLimit_27 ?_
  refine g_if_ne_f (tgt := 34) dX9_setLimit_28 (by decide) ((cmp0 (fv_g hn) (fv_g hn)).mpr rfl) ?_
  refine g_bipush (v := -5) dX9_setLimit_31 (by decide +kernel) ?_
  exact g_iret rfl dX9_setLimit_33 ⟨rfl, rfl⟩
theorem c_setLimit (M : Mo) (ni nd nj n : Nat) (hn : n < 256) (h8 : 8 ≤ n) (hR : Rb h M ni nd nj) (hi : ni ≤ 8) (hd : nd ≤ 4) (hj : nj ≤ 10) (hC : Icl M ni) (hf : Ifl M nd) (he : ¬ M.2 9 = fval n) : Ct G mX9_setLimit [ga G 0, .int (bt n)] h 456 456 (rI (fun r h' => r = 1 ∧ Rb h' (uf M 9 (fval n)) ni nd nj ∧ KL h h')) := by
  obtain ⟨⟨-, -, -, -, -, -, -, -, s4⟩, -, -, -, -, -, hH, hS⟩ := id hR
  have hb := bt_r ⟨n, hn⟩ h8
  refine Ct.of rfl (by simp [Value.category, ga]) (Nat.le_of_ble_eq_true rfl) (Nat.le_refl _) ?_
  show Go _ _ _ _ _ _ _ [some (ga G 0), some (.int (bt n)), none] []
  refine g_ild1 dX9_setLimit_0 ?_
  refine g_ldc mw_3_69 dX9_setLimit_1 ?_
  refine g_ldc mw_3_214 dX9_setLimit_3 ?_
  refine g_callS3 (c_isFrom (h := h) (bt n) 1065353216 1148846080) mw_2_133 ok_X9_isFrom ⟨by decide, by decide⟩ (by omega) (by omega) (Nat.le_of_ble_eq_true rfl) dX9_setLimit_5 (dI_K ?_)
  rw [if_pos ⟨hb.1, hb.2.2⟩]
  refine g_if_ne_t (tgt := 14) dX9_setLimit_8 (by decide) (by decide) ?_
  show Go _ _ _ _ _ _ 14 _ _
  refine g_ild1 dX9_setLimit_14 ?_
  refine g_callS1 (c_floatOf (h := h) n hn) mw_3_118 ok_X9_floatOf ⟨by decide, by decide⟩ (by omega) (by omega) (Nat.le_of_ble_eq_true rfl) dX9_setLimit_15 (dF_K ?_)
  refine g_fst2 (by decide) dX9_setLimit_18 ?_
  refine g_fld2 dX9_setLimit_19 ?_
  refine g_ald0 dX9_setLimit_20 ?_
  refine g_getQ fb_9_0 mw_2_95 (by first | assumption | exact lay_item (by omega) | exact lay_drive (by omega) | exact lay_job (by omega) | rfl) (by omega) (sh_now hS) dX9_setLimit_21 ?_
  show Go _ _ _ _ _ _ 24 _ _
  refine g_getF_a fb_6_4 mw_2_8 (by first | assumption | exact lay_item (by omega) | exact lay_drive (by omega) | exact lay_job (by omega) | rfl) (by omega) dX9_setLimit_24 (fun xx24 ee24 => ?_)
  obtain rfl : xx24 = (M.2 9) := ee24.symm.trans s4
  refine g_fcmp dX9_setLimit_27 ?_
  refine g_if_ne_t (tgt := 34) dX9_setLimit_28 (by decide) (fun z => he ((cmp0 (fv_g hn) hf.2.2).mp z).symm) ?_
  refine g_ald0 dX9_setLimit_34 ?_
  refine g_getQ fb_9_1 mw_2_96 (by first | assumption | exact lay_item (by omega) | exact lay_drive (by omega) | exact lay_job (by omega) | rfl) (by omega) (sh_hist hS) dX9_setLimit_35 ?_
  refine g_ald0 dX9_setLimit_38 ?_
  show Go _ _ _ _ _ _ 39 _ _
  refine g_getQ fb_9_0 mw_2_95 (by first | assumption | exact lay_item (by omega) | exact lay_drive (by omega) | exact lay_job (by omega) | rfl) (by omega) (sh_now hS) dX9_setLimit_39 ?_
  refine g_callV1 (c_record (h := h) hS (hR.cn hi hd hj hC) hH) mw_3_79 ok_X1_record ⟨by decide, by decide⟩ (by first | assumption | exact lay_item (by omega) | exact lay_drive (by omega) | exact lay_job (by omega) | rfl) (by omega) rfl (by omega) (by omega) (Nat.le_of_ble_eq_true rfl) dX9_setLimit_42 (rV_K ?_)
  intro h1 k1
  have hS1 := k1.2.1
  refine g_ald0 dX9_setLimit_45 ?_
  refine g_getQ fb_9_0 mw_2_95 (by first | assumption | exact lay_item (by omega) | exact lay_drive (by omega) | exact lay_job (by omega) | rfl) (by omega) (sh_now hS1) dX9_setLimit_46 ?_
  refine g_fld2 dX9_setLimit_49 ?_
  refine g_putF fb_6_4 mw_2_8 (by first | assumption | exact lay_item (by omega) | exact lay_drive (by omega) | exact lay_job (by omega) | rfl) (by omega) dX9_setLimit_50 ?_
  show Go _ _ _ _ _ _ 53 _ _
  refine g_iconst (v := nI 1) dX9_setLimit_53 (by decide +kernel) ?_
  exact g_iret rfl dX9_setLimit_54 ⟨1, rfl, rfl, rb_limit (hR.kp hi hd hj k1) hi hd hj _, KL.wF (KL.kp k1)⟩
theorem c_setCeiling_n (x y : Int32) (n : Nat) (hS : Sh h) (hn : h.1 2 3 = nI n) (hx : x < 0 ∨ nI n ≤ x) : Ct G mX9_setCeiling [ga G 0, .int x, .int y] h 456 456 (dI (-1) h) := by
  refine Ct.of rfl (by simp [Value.category, ga]) (Nat.le_of_ble_eq_true rfl) (Nat.le_refl _) ?_
  show Go _ _ _ _ _ _ _ [some (ga G 0), some (.int x), some (.int y), none, none] []
  refine g_ald0 dX9_setCeiling_0 ?_
  refine g_getQ fb_9_0 mw_2_95 (by first | assumption | exact lay_item (by omega) | exact lay_drive (by omega) | exact lay_job (by omega) | rfl) (by omega) (sh_now hS) dX9_setCeiling_1 ?_
  refine g_getQ fb_6_0 mw_2_1 (by first | assumption | exact lay_item (by omega) | exact lay_drive (by omega) | exact lay_job (by omega) | rfl) (by omega) (sh_store hS) dX9_setCeiling_4 ?_
  refine g_ild1 dX9_setCeiling_7 ?_
  refine g_callV1 (c_driveAt_n (h := h) x n hn hx) mw_2_173 ok_X7_driveAt ⟨by decide, by decide⟩ (by first | assumption | exact lay_item (by omega) | exact lay_drive (by omega) | exact lay_job (by omega) | rfl) (by omega) rfl (by omega) (by omega) (Nat.le_of_ble_eq_true rfl) dX9_setCeiling_8 (dQ_Kn ?_)
  show Go _ _ _ _ _ _ 11 _ _
  refine g_zst3 (by decide) dX9_setCeiling_11 ?_
  refine g_zld3 dX9_setCeiling_12 ?_
  refine g_ifnonnullN dX9_setCeiling_13 ?_
  refine g_iconst (v := -1) dX9_setCeiling_16 (by decide +kernel) ?_
  exact g_iret rfl dX9_setCeiling_17 ⟨rfl, rfl⟩
theorem c_setCeiling_2 (k n : Nat) (y : Int32) (hS : Sh h) (hn : h.1 2 3 = nI n) (hn9 : n ≤ 4) (hk : k < n) (hy : ¬ (1065353216 ≤ y ∧ y ≤ 1140457472)) : Ct G mX9_setCeiling [ga G 0, .int (nI k), .int y] h 456 456 (dI (-2) h) := by
  refine Ct.of rfl (by simp [Value.category, ga]) (Nat.le_of_ble_eq_true rfl) (Nat.le_refl _) ?_
  show Go _ _ _ _ _ _ _ [some (ga G 0), some (.int (nI k)), some (.int y), none, none] []
  refine g_ald0 dX9_setCeiling_0 ?_
  refine g_getQ fb_9_0 mw_2_95 (by first | assumption | exact lay_item (by omega) | exact lay_drive (by omega) | exact lay_job (by omega) | rfl) (by omega) (sh_now hS) dX9_setCeiling_1 ?_
  refine g_getQ fb_6_0 mw_2_1 (by first | assumption | exact lay_item (by omega) | exact lay_drive (by omega) | exact lay_job (by omega) | rfl) (by omega) (sh_store hS) dX9_setCeiling_4 ?_
  refine g_ild1 dX9_setCeiling_7 ?_
  refine g_callV1 (c_driveAt (h := h) k n hS.1 hn hn9 hk) mw_2_173 ok_X7_driveAt ⟨by decide, by decide⟩ (by first | assumption | exact lay_item (by omega) | exact lay_drive (by omega) | exact lay_job (by omega) | rfl) (by omega) rfl (by omega) (by omega) (Nat.le_of_ble_eq_true rfl) dX9_setCeiling_8 (dQ_K ?_)
  show Go _ _ _ _ _ _ 11 _ _
  refine g_ast3 (by decide) dX9_setCeiling_11 ?_
  refine g_ald3 dX9_setCeiling_12 ?_
  refine g_ifnonnull (tgt := 18) dX9_setCeiling_13 (by decide) ?_
  refine g_ild2 dX9_setCeiling_18 ?_
  refine g_ldc mw_3_69 dX9_setCeiling_19 ?_
  refine g_ldc mw_3_219 dX9_setCeiling_21 ?_
  show Go _ _ _ _ _ _ 23 _ _
  refine g_callS3 (c_isFrom (h := h) y 1065353216 1140457472) mw_2_133 ok_X9_isFrom ⟨by decide, by decide⟩ (by omega) (by omega) (Nat.le_of_ble_eq_true rfl) dX9_setCeiling_23 (dI_K ?_)
  rw [if_neg hy]
  refine g_if_ne_f (tgt := 32) dX9_setCeiling_26 (by decide) (by decide) ?_
  refine g_bipush (v := -2) dX9_setCeiling_29 (by decide +kernel) ?_
  exact g_iret rfl dX9_setCeiling_31 ⟨rfl, rfl⟩
theorem c_setCeiling_s (k nd n : Nat) (hn : n < 256) (h8 : 8 ≤ n) (hS : Sh h) (h23 : h.1 2 3 = nI nd) (hd : nd ≤ 4) (hk : k < nd) (he : h.2.1 (23 + k) 2 = fval n) : Ct G mX9_setCeiling [ga G 0, .int (nI k), .int (bt n)] h 456 456 (dI (-5) h) := by
  have hb := bt_r ⟨n, hn⟩ h8
  refine Ct.of rfl (by simp [Value.category, ga]) (Nat.le_of_ble_eq_true rfl) (Nat.le_refl _) ?_
  show Go _ _ _ _ _ _ _ [some (ga G 0), some (.int (nI k)), some (.int (bt n)), none, none] []
  refine g_ald0 dX9_setCeiling_0 ?_
  refine g_getQ fb_9_0 mw_2_95 (by first | assumption | exact lay_item (by omega) | exact lay_drive (by omega) | exact lay_job (by omega) | rfl) (by omega) (sh_now hS) dX9_setCeiling_1 ?_
  refine g_getQ fb_6_0 mw_2_1 (by first | assumption | exact lay_item (by omega) | exact lay_drive (by omega) | exact lay_job (by omega) | rfl) (by omega) (sh_store hS) dX9_setCeiling_4 ?_
  refine g_ild1 dX9_setCeiling_7 ?_
  refine g_callV1 (c_driveAt (h := h) k nd hS.1 h23 hd hk) mw_2_173 ok_X7_driveAt ⟨by decide, by decide⟩ (by first | assumption | exact lay_item (by omega) | exact lay_drive (by omega) | exact lay_job (by omega) | rfl) (by omega) rfl (by omega) (by omega) (Nat.le_of_ble_eq_true rfl) dX9_setCeiling_8 (dQ_K ?_)
  show Go _ _ _ _ _ _ 11 _ _
  refine g_ast3 (by decide) dX9_setCeiling_11 ?_
  refine g_ald3 dX9_setCeiling_12 ?_
  refine g_ifnonnull (tgt := 18) dX9_setCeiling_13 (by decide) ?_
  refine g_ild2 dX9_setCeiling_18 ?_
  refine g_ldc mw_3_69 dX9_setCeiling_19 ?_
  refine g_ldc mw_3_219 dX9_setCeiling_21 ?_
  show Go _ _ _ _ _ _ 23 _ _
  refine g_callS3 (c_isFrom (h := h) (bt n) 1065353216 1140457472) mw_2_133 ok_X9_isFrom ⟨by decide, by decide⟩ (by omega) (by omega) (Nat.le_of_ble_eq_true rfl) dX9_setCeiling_23 (dI_K ?_)
  rw [if_pos ⟨hb.1, hb.2.1⟩]
  refine g_if_ne_t (tgt := 32) dX9_setCeiling_26 (by decide) (by decide) ?_
  refine g_ild2 dX9_setCeiling_32 ?_
  refine g_callS1 (c_floatOf (h := h) n hn) mw_3_118 ok_X9_floatOf ⟨by decide, by decide⟩ (by omega) (by omega) (Nat.le_of_ble_eq_true rfl) dX9_setCeiling_33 (dF_K ?_)
  refine g_fst4 (by decide) dX9_setCeiling_36 ?_
  refine g_fld4 dX9_setCeiling_38 ?_
  show Go _ _ _ _ _ _ 40 _ _
  refine g_ald3 dX9_setCeiling_40 ?_
  refine g_getF_a fb_0_2 mw_1_91 (by first | assumption | exact lay_item (by omega) | exact lay_drive (by omega) | exact lay_job (by omega) | rfl) (by omega) dX9_setCeiling_41 (fun xx41 ee41 => ?_)
  obtain rfl : xx41 = (fval n) := ee41.symm.trans he
  refine g_fcmp dX9_setCeiling_44 ?_
  refine g_if_ne_f (tgt := 51) dX9_setCeiling_45 (by decide) ((cmp0 (fv_g hn) (fv_g hn)).mpr rfl) ?_
  refine g_bipush (v := -5) dX9_setCeiling_48 (by decide +kernel) ?_
  exact g_iret rfl dX9_setCeiling_50 ⟨rfl, rfl⟩
theorem c_setCeiling (M : Mo) (ni nd nj k n : Nat) (hn : n < 256) (h8 : 8 ≤ n) (hR : Rb h M ni nd nj) (hi : ni ≤ 8) (hd : nd ≤ 4) (hj : nj ≤ 10) (hC : Icl M ni) (hf : Ifl M nd) (hk : k < nd) (he : ¬ M.2 (2 * k + 1) = fval n) : Ct G mX9_setCeiling [ga G 0, .int (nI k), .int (bt n)] h 456 456 (rI (fun r h' => r = 1 ∧ Rb h' (uf M (2 * k + 1) (fval n)) ni nd nj ∧ KL h h')) := by
  obtain ⟨-, ⟨-, h23, -⟩, -, hD, -, -, hH, hS⟩ := id hR
  obtain ⟨-, -, d2, -⟩ := hD k hk
  have hb := bt_r ⟨n, hn⟩ h8
  refine Ct.of rfl (by simp [Value.category, ga]) (Nat.le_of_ble_eq_true rfl) (Nat.le_refl _) ?_
  show Go _ _ _ _ _ _ _ [some (ga G 0), some (.int (nI k)), some (.int (bt n)), none, none] []
  refine g_ald0 dX9_setCeiling_0 ?_
  refine g_getQ fb_9_0 mw_2_95 (by first | assumption | exact lay_item (by omega) | exact lay_drive (by omega) | exact lay_job (by omega) | rfl) (by omega) (sh_now hS) dX9_setCeiling_1 ?_
  refine g_getQ fb_6_0 mw_2_1 (by first | assumption | exact lay_item (by omega) | exact lay_drive (by omega) | exact lay_job (by omega) | rfl) (by omega) (sh_store hS) dX9_setCeiling_4 ?_
  refine g_ild1 dX9_setCeiling_7 ?_
  refine g_callV1 (c_driveAt (h := h) k nd hS.1 h23 hd hk) mw_2_173 ok_X7_driveAt ⟨by decide, by decide⟩ (by first | assumption | exact lay_item (by omega) | exact lay_drive (by omega) | exact lay_job (by omega) | rfl) (by omega) rfl (by omega) (by omega) (Nat.le_of_ble_eq_true rfl) dX9_setCeiling_8 (dQ_K ?_)
  show Go _ _ _ _ _ _ 11 _ _
  refine g_ast3 (by decide) dX9_setCeiling_11 ?_
  refine g_ald3 dX9_setCeiling_12 ?_
  refine g_ifnonnull (tgt := 18) dX9_setCeiling_13 (by decide) ?_
  refine g_ild2 dX9_setCeiling_18 ?_
  refine g_ldc mw_3_69 dX9_setCeiling_19 ?_
  refine g_ldc mw_3_219 dX9_setCeiling_21 ?_
  show Go _ _ _ _ _ _ 23 _ _
  refine g_callS3 (c_isFrom (h := h) (bt n) 1065353216 1140457472) mw_2_133 ok_X9_isFrom ⟨by decide, by decide⟩ (by omega) (by omega) (Nat.le_of_ble_eq_true rfl) dX9_setCeiling_23 (dI_K ?_)
  rw [if_pos ⟨hb.1, hb.2.1⟩]
  refine g_if_ne_t (tgt := 32) dX9_setCeiling_26 (by decide) (by decide) ?_
  refine g_ild2 dX9_setCeiling_32 ?_
  refine g_callS1 (c_floatOf (h := h) n hn) mw_3_118 ok_X9_floatOf ⟨by decide, by decide⟩ (by omega) (by omega) (Nat.le_of_ble_eq_true rfl) dX9_setCeiling_33 (dF_K ?_)
  refine g_fst4 (by decide) dX9_setCeiling_36 ?_
  refine g_fld4 dX9_setCeiling_38 ?_
  show Go _ _ _ _ _ _ 40 _ _
  refine g_ald3 dX9_setCeiling_40 ?_
  refine g_getF_a fb_0_2 mw_1_91 (by first | assumption | exact lay_item (by omega) | exact lay_drive (by omega) | exact lay_job (by omega) | rfl) (by omega) dX9_setCeiling_41 (fun xx41 ee41 => ?_)
  obtain rfl : xx41 = (M.2 (2 * k + 1)) := ee41.symm.trans d2
  refine g_fcmp dX9_setCeiling_44 ?_
  refine g_if_ne_t (tgt := 51) dX9_setCeiling_45 (by decide) (fun z => he ((cmp0 (fv_g hn) (hf.1 k hk).2).mp z).symm) ?_
  refine g_ald0 dX9_setCeiling_51 ?_
  refine g_getQ fb_9_1 mw_2_96 (by first | assumption | exact lay_item (by omega) | exact lay_drive (by omega) | exact lay_job (by omega) | rfl) (by omega) (sh_hist hS) dX9_setCeiling_52 ?_
  show Go _ _ _ _ _ _ 55 _ _
  refine g_ald0 dX9_setCeiling_55 ?_
  refine g_getQ fb_9_0 mw_2_95 (by first | assumption | exact lay_item (by omega) | exact lay_drive (by omega) | exact lay_job (by omega) | rfl) (by omega) (sh_now hS) dX9_setCeiling_56 ?_
  refine g_callV1 (c_record (h := h) hS (hR.cn hi hd hj hC) hH) mw_3_79 ok_X1_record ⟨by decide, by decide⟩ (by first | assumption | exact lay_item (by omega) | exact lay_drive (by omega) | exact lay_job (by omega) | rfl) (by omega) rfl (by omega) (by omega) (Nat.le_of_ble_eq_true rfl) dX9_setCeiling_59 (rV_K ?_)
  intro h1 k1
  refine g_ald3 dX9_setCeiling_62 ?_
  refine g_fld4 dX9_setCeiling_63 ?_
  refine g_putF fb_0_2 mw_1_91 (by first | assumption | exact lay_item (by omega) | exact lay_drive (by omega) | exact lay_job (by omega) | rfl) (by omega) dX9_setCeiling_65 ?_
  show Go _ _ _ _ _ _ 68 _ _
  refine g_iconst (v := nI 1) dX9_setCeiling_68 (by decide +kernel) ?_
  exact g_iret rfl dX9_setCeiling_69 ⟨1, rfl, rfl, rb_ceil (hR.kp hi hd hj k1) hi hd hj k hk _, KL.wF (KL.kp k1)⟩
theorem c_refill_2 (i n : Nat) (y : Int32) (hS : Sh h) (hn : h.1 2 1 = nI n) (hn9 : n ≤ 18) (hi : i < n) (hy : ¬ (nI 1 ≤ y ∧ y ≤ nI 50)) : Ct G mX9_refill [ga G 0, .int (nI i), .int y] h 456 456 (dI (-2) h) := by
  refine Ct.of rfl (by simp [Value.category, ga]) (Nat.le_of_ble_eq_true rfl) (Nat.le_refl _) ?_
  show Go _ _ _ _ _ _ _ [some (ga G 0), some (.int (nI i)), some (.int y), none, none] []
  refine g_ald0 dX9_refill_0 ?_
  refine g_getQ fb_9_0 mw_2_95 (by first | assumption | exact lay_item (by omega) | exact lay_drive (by omega) | exact lay_job (by omega) | rfl) (by omega) (sh_now hS) dX9_refill_1 ?_
  refine g_getQ fb_6_0 mw_2_1 (by first | assumption | exact lay_item (by omega) | exact lay_drive (by omega) | exact lay_job (by omega) | rfl) (by omega) (sh_store hS) dX9_refill_4 ?_
  refine g_ild1 dX9_refill_7 ?_
  refine g_callV1 (c_itemAt (h := h) i n hS.1 hn hn9 hi) mw_2_129 ok_X7_itemAt ⟨by decide, by decide⟩ (by first | assumption | exact lay_item (by omega) | exact lay_drive (by omega) | exact lay_job (by omega) | rfl) (by omega) rfl (by omega) (by omega) (Nat.le_of_ble_eq_true rfl) dX9_refill_8 (dQ_K ?_)
  show Go _ _ _ _ _ _ 11 _ _
  refine g_ast3 (by decide) dX9_refill_11 ?_
  refine g_ald3 dX9_refill_12 ?_
  refine g_ifnonnull (tgt := 18) dX9_refill_13 (by decide) ?_
  refine g_ild2 dX9_refill_18 ?_
  refine g_iconst (v := nI 1) dX9_refill_19 (by decide +kernel) ?_
  refine g_bipush (v := nI 50) dX9_refill_20 (by decide +kernel) ?_
  show Go _ _ _ _ _ _ 22 _ _
  refine g_callS3 (c_isFrom (h := h) y (nI 1) (nI 50)) mw_2_133 ok_X9_isFrom ⟨by decide, by decide⟩ (by omega) (by omega) (Nat.le_of_ble_eq_true rfl) dX9_refill_22 (dI_K ?_)
  rw [if_neg hy]
  refine g_if_ne_f (tgt := 31) dX9_refill_25 (by decide) (by decide) ?_
  refine g_bipush (v := -2) dX9_refill_28 (by decide +kernel) ?_
  exact g_iret rfl dX9_refill_30 ⟨rfl, rfl⟩
theorem c_refill_4 (M : Mo) (ni nd nj i : Nat) (y : Int32) (hR : Rb h M ni nd nj) (hi8 : ni ≤ 8) (hi : i < ni) (hy : nI 1 ≤ y ∧ y ≤ nI 50) (hc : M.1 1 (6 * i) = 0) : Ct G mX9_refill [ga G 0, .int (nI i), .int y] h 456 456 (dI (-4) h) := by
  obtain ⟨-, ⟨h21, -⟩, hIt, -, -, -, -, hS⟩ := id hR
  refine Ct.of rfl (by simp [Value.category, ga]) (Nat.le_of_ble_eq_true rfl) (Nat.le_refl _) ?_
  show Go _ _ _ _ _ _ _ [some (ga G 0), some (.int (nI i)), some (.int y), none, none] []
  refine g_ald0 dX9_refill_0 ?_
  refine g_getQ fb_9_0 mw_2_95 (by first | assumption | exact lay_item (by omega) | exact lay_drive (by omega) | exact lay_job (by omega) | rfl) (by omega) (sh_now hS) dX9_refill_1 ?_
  refine g_getQ fb_6_0 mw_2_1 (by first | assumption | exact lay_item (by omega) | exact lay_drive (by omega) | exact lay_job (by omega) | rfl) (by omega) (sh_store hS) dX9_refill_4 ?_
  refine g_ild1 dX9_refill_7 ?_
  refine g_callV1 (c_itemAt (h := h) i ni hS.1 h21 (by omega) hi) mw_2_129 ok_X7_itemAt ⟨by decide, by decide⟩ (by first | assumption | exact lay_item (by omega) | exact lay_drive (by omega) | exact lay_job (by omega) | rfl) (by omega) rfl (by omega) (by omega) (Nat.le_of_ble_eq_true rfl) dX9_refill_8 (dQ_K ?_)
  show Go _ _ _ _ _ _ 11 _ _
  refine g_ast3 (by decide) dX9_refill_11 ?_
  refine g_ald3 dX9_refill_12 ?_
  refine g_ifnonnull (tgt := 18) dX9_refill_13 (by decide) ?_
  refine g_ild2 dX9_refill_18 ?_
  refine g_iconst (v := nI 1) dX9_refill_19 (by decide +kernel) ?_
  refine g_bipush (v := nI 50) dX9_refill_20 (by decide +kernel) ?_
  show Go _ _ _ _ _ _ 22 _ _
  refine g_callS3 (c_isFrom (h := h) y (nI 1) (nI 50)) mw_2_133 ok_X9_isFrom ⟨by decide, by decide⟩ (by omega) (by omega) (Nat.le_of_ble_eq_true rfl) dX9_refill_22 (dI_K ?_)
  rw [if_pos hy]
  refine g_if_ne_t (tgt := 31) dX9_refill_25 (by decide) (by decide) ?_
  refine g_ald3 dX9_refill_31 ?_
  refine g_getI_a fb_2_0 mw_1_42 (by first | assumption | exact lay_item (by omega) | exact lay_drive (by omega) | exact lay_job (by omega) | rfl) (by omega) dX9_refill_32 (fun xx32 ee32 => ?_)
  obtain rfl : xx32 = (0 : Int32) := ee32.symm.trans ((hIt i hi).1.trans hc)
  refine g_if_ne_f (tgt := 41) dX9_refill_35 (by decide) rfl ?_
  refine g_bipush (v := -4) dX9_refill_38 (by decide +kernel) ?_
  show Go _ _ _ _ _ _ 40 _ _
  exact g_iret rfl dX9_refill_40 ⟨rfl, rfl⟩
theorem c_refill_s (M : Mo) (ni nd nj i : Nat) (y : Int32) (hR : Rb h M ni nd nj) (hi8 : ni ≤ 8) (hi : i < ni) (hy : nI 1 ≤ y ∧ y ≤ nI 50) (hc : M.1 1 (6 * i) = 1) (hs : M.1 1 (6 * i + 3) = y) : Ct G mX9_refill [ga G 0, .int (nI i), .int y] h 456 456 (dI (-5) h) := by
  obtain ⟨-, ⟨h21, -⟩, hIt, -, -, -, -, hS⟩ := id hR
  refine Ct.of rfl (by simp [Value.category, ga]) (Nat.le_of_ble_eq_true rfl) (Nat.le_refl _) ?_
  show Go _ _ _ _ _ _ _ [some (ga G 0), some (.int (nI i)), some (.int y), none, none] []
  refine g_ald0 dX9_refill_0 ?_
  refine g_getQ fb_9_0 mw_2_95 (by first | assumption | exact lay_item (by omega) | exact lay_drive (by omega) | exact lay_job (by omega) | rfl) (by omega) (sh_now hS) dX9_refill_1 ?_
  refine g_getQ fb_6_0 mw_2_1 (by first | assumption | exact lay_item (by omega) | exact lay_drive (by omega) | exact lay_job (by omega) | rfl) (by omega) (sh_store hS) dX9_refill_4 ?_
  refine g_ild1 dX9_refill_7 ?_
  refine g_callV1 (c_itemAt (h := h) i ni hS.1 h21 (by omega) hi) mw_2_129 ok_X7_itemAt ⟨by decide, by decide⟩ (by first | assumption | exact lay_item (by omega) | exact lay_drive (by omega) | exact lay_job (by omega) | rfl) (by omega) rfl (by omega) (by omega) (Nat.le_of_ble_eq_true rfl) dX9_refill_8 (dQ_K ?_)
  show Go _ _ _ _ _ _ 11 _ _
  refine g_ast3 (by decide) dX9_refill_11 ?_
  refine g_ald3 dX9_refill_12 ?_
  refine g_ifnonnull (tgt := 18) dX9_refill_13 (by decide) ?_
  refine g_ild2 dX9_refill_18 ?_
  refine g_iconst (v := nI 1) dX9_refill_19 (by decide +kernel) ?_
  refine g_bipush (v := nI 50) dX9_refill_20 (by decide +kernel) ?_
  show Go _ _ _ _ _ _ 22 _ _
  refine g_callS3 (c_isFrom (h := h) y (nI 1) (nI 50)) mw_2_133 ok_X9_isFrom ⟨by decide, by decide⟩ (by omega) (by omega) (Nat.le_of_ble_eq_true rfl) dX9_refill_22 (dI_K ?_)
  rw [if_pos hy]
  refine g_if_ne_t (tgt := 31) dX9_refill_25 (by decide) (by decide) ?_
  refine g_ald3 dX9_refill_31 ?_
  refine g_getI_a fb_2_0 mw_1_42 (by first | assumption | exact lay_item (by omega) | exact lay_drive (by omega) | exact lay_job (by omega) | rfl) (by omega) dX9_refill_32 (fun xx32 ee32 => ?_)
  obtain rfl : xx32 = (1 : Int32) := ee32.symm.trans ((hIt i hi).1.trans hc)
  refine g_if_ne_t (tgt := 41) dX9_refill_35 (by decide) (by decide) ?_
  refine g_ald3 dX9_refill_41 ?_
  show Go _ _ _ _ _ _ 42 _ _
  refine g_getI_a fb_2_4 mw_1_53 (by first | assumption | exact lay_item (by omega) | exact lay_drive (by omega) | exact lay_job (by omega) | rfl) (by omega) dX9_refill_42 (fun xx42 ee42 => ?_)
  obtain rfl : xx42 = y := ee42.symm.trans ((hIt i hi).2.2.2.2.1.trans hs)
  refine g_ist4 (by decide) dX9_refill_45 ?_
  refine g_ild4 dX9_refill_47 ?_
  refine g_ild2 dX9_refill_49 ?_
  refine g_icmp_ne_f (tgt := 56) dX9_refill_50 (by decide) rfl ?_
  refine g_bipush (v := -5) dX9_refill_53 (by decide +kernel) ?_
  show Go _ _ _ _ _ _ 55 _ _
  exact g_iret rfl dX9_refill_55 ⟨rfl, rfl⟩
theorem c_refill (M : Mo) (ni nd nj i : Nat) (y : Int32) (hR : Rb h M ni nd nj) (hi8 : ni ≤ 8) (hd : nd ≤ 4) (hj : nj ≤ 10) (hC : Icl M ni) (hi : i < ni) (hy : nI 1 ≤ y ∧ y ≤ nI 50) (hc : M.1 1 (6 * i) = 1) (hs : ¬ M.1 1 (6 * i + 3) = y) : Ct G mX9_refill [ga G 0, .int (nI i), .int y] h 456 456 (rI (fun r h' => r = M.1 1 (6 * i + 3) ∧ Rb h' (up M 1 (6 * i + 3) y) ni nd nj ∧ KL h h')) := by
  obtain ⟨-, ⟨h21, -⟩, hIt, -, -, -, hH, hS⟩ := id hR
  refine Ct.of rfl (by simp [Value.category, ga]) (Nat.le_of_ble_eq_true rfl) (Nat.le_refl _) ?_
  show Go _ _ _ _ _ _ _ [some (ga G 0), some (.int (nI i)), some (.int y), none, none] []
  refine g_ald0 dX9_refill_0 ?_
  refine g_getQ fb_9_0 mw_2_95 (by first | assumption | exact lay_item (by omega) | exact lay_drive (by omega) | exact lay_job (by omega) | rfl) (by omega) (sh_now hS) dX9_refill_1 ?_
  refine g_getQ fb_6_0 mw_2_1 (by first | assumption | exact lay_item (by omega) | exact lay_drive (by omega) | exact lay_job (by omega) | rfl) (by omega) (sh_store hS) dX9_refill_4 ?_
  refine g_ild1 dX9_refill_7 ?_
  refine g_callV1 (c_itemAt (h := h) i ni hS.1 h21 (by omega) hi) mw_2_129 ok_X7_itemAt ⟨by decide, by decide⟩ (by first | assumption | exact lay_item (by omega) | exact lay_drive (by omega) | exact lay_job (by omega) | rfl) (by omega) rfl (by omega) (by omega) (Nat.le_of_ble_eq_true rfl) dX9_refill_8 (dQ_K ?_)
  show Go _ _ _ _ _ _ 11 _ _
  refine g_ast3 (by decide) dX9_refill_11 ?_
  refine g_ald3 dX9_refill_12 ?_
  refine g_ifnonnull (tgt := 18) dX9_refill_13 (by decide) ?_
  refine g_ild2 dX9_refill_18 ?_
  refine g_iconst (v := nI 1) dX9_refill_19 (by decide +kernel) ?_
  refine g_bipush (v := nI 50) dX9_refill_20 (by decide +kernel) ?_
  show Go _ _ _ _ _ _ 22 _ _
  refine g_callS3 (c_isFrom (h := h) y (nI 1) (nI 50)) mw_2_133 ok_X9_isFrom ⟨by decide, by decide⟩ (by omega) (by omega) (Nat.le_of_ble_eq_true rfl) dX9_refill_22 (dI_K ?_)
  rw [if_pos hy]
  refine g_if_ne_t (tgt := 31) dX9_refill_25 (by decide) (by decide) ?_
  refine g_ald3 dX9_refill_31 ?_
  refine g_getI_a fb_2_0 mw_1_42 (by first | assumption | exact lay_item (by omega) | exact lay_drive (by omega) | exact lay_job (by omega) | rfl) (by omega) dX9_refill_32 (fun xx32 ee32 => ?_)
  obtain rfl : xx32 = (1 : Int32) := ee32.symm.trans ((hIt i hi).1.trans hc)
  refine g_if_ne_t (tgt := 41) dX9_refill_35 (by decide) (by decide) ?_
  refine g_ald3 dX9_refill_41 ?_
  show Go _ _ _ _ _ _ 42 _ _
  refine g_getI_a fb_2_4 mw_1_53 (by first | assumption | exact lay_item (by omega) | exact lay_drive (by omega) | exact lay_job (by omega) | rfl) (by omega) dX9_refill_42 (fun xx42 ee42 => ?_)
  obtain rfl : xx42 = (M.1 1 (6 * i + 3)) := ee42.symm.trans (hIt i hi).2.2.2.2.1
  refine g_ist4 (by decide) dX9_refill_45 ?_
  refine g_ild4 dX9_refill_47 ?_
  refine g_ild2 dX9_refill_49 ?_
  refine g_icmp_ne_t (tgt := 56) dX9_refill_50 (by decide) hs ?_
  refine g_ald0 dX9_refill_56 ?_
  show Go _ _ _ _ _ _ 57 _ _
  refine g_getQ fb_9_1 mw_2_96 (by first | assumption | exact lay_item (by omega) | exact lay_drive (by omega) | exact lay_job (by omega) | rfl) (by omega) (sh_hist hS) dX9_refill_57 ?_
  refine g_ald0 dX9_refill_60 ?_
  refine g_getQ fb_9_0 mw_2_95 (by first | assumption | exact lay_item (by omega) | exact lay_drive (by omega) | exact lay_job (by omega) | rfl) (by omega) (sh_now hS) dX9_refill_61 ?_
  refine g_callV1 (c_record (h := h) hS (hR.cn hi8 hd hj hC) hH) mw_3_79 ok_X1_record ⟨by decide, by decide⟩ (by first | assumption | exact lay_item (by omega) | exact lay_drive (by omega) | exact lay_job (by omega) | rfl) (by omega) rfl (by omega) (by omega) (Nat.le_of_ble_eq_true rfl) dX9_refill_64 (rV_K ?_)
  intro h1 k1
  refine g_ald3 dX9_refill_67 ?_
  refine g_ild2 dX9_refill_68 ?_
  show Go _ _ _ _ _ _ 69 _ _
  refine g_putI fb_2_4 mw_1_53 (by first | assumption | exact lay_item (by omega) | exact lay_drive (by omega) | exact lay_job (by omega) | rfl) (by omega) rfl rfl dX9_refill_69 ?_
  refine g_ild4 dX9_refill_72 ?_
  exact g_iret rfl dX9_refill_74 ⟨_, rfl, rfl, rb_refill (hR.kp hi8 hd hj k1) hi8 hd hj i hi _, KL.wI (by omega) (KL.kp k1)⟩
theorem c_setOrder_2 (p : Nat) (hp : p < 3) : Ct G mX9_setOrder [ga G 0, .int (nI p), .int (nI p)] h 456 456 (dI (-2) h) := by
  have hb : nI 0 ≤ nI p ∧ nI p ≤ nI 2 := ⟨nI_le (by omega) (by omega), nI_le (by omega) (by omega)⟩
  refine Ct.of rfl (by simp [Value.category, ga]) (Nat.le_of_ble_eq_true rfl) (Nat.le_refl _) ?_
  show Go _ _ _ _ _ _ _ [some (ga G 0), some (.int (nI p)), some (.int (nI p))] []
  refine g_ild1 dX9_setOrder_0 ?_
  refine g_iconst (v := nI 0) dX9_setOrder_1 (by decide +kernel) ?_
  refine g_iconst (v := nI 2) dX9_setOrder_2 (by decide +kernel) ?_
  refine g_callS3 (c_isFrom (h := h) (nI p) (nI 0) (nI 2)) mw_2_133 ok_X9_isFrom ⟨by decide, by decide⟩ (by omega) (by omega) (Nat.le_of_ble_eq_true rfl) dX9_setOrder_3 (dI_K ?_)
  rw [if_pos hb]
  refine g_if_eq_f (tgt := 23) dX9_setOrder_6 (by decide) (by decide) ?_
  show Go _ _ _ _ _ _ 9 _ _
  refine g_ild2 dX9_setOrder_9 ?_
  refine g_iconst (v := nI 0) dX9_setOrder_10 (by decide +kernel) ?_
  refine g_iconst (v := nI 2) dX9_setOrder_11 (by decide +kernel) ?_
  refine g_callS3 (c_isFrom (h := h) (nI p) (nI 0) (nI 2)) mw_2_133 ok_X9_isFrom ⟨by decide, by decide⟩ (by omega) (by omega) (Nat.le_of_ble_eq_true rfl) dX9_setOrder_12 (dI_K ?_)
  rw [if_pos hb]
  refine g_if_eq_f (tgt := 23) dX9_setOrder_15 (by decide) (by decide) ?_
  refine g_ild1 dX9_setOrder_18 ?_
  show Go _ _ _ _ _ _ 19 _ _
  refine g_ild2 dX9_setOrder_19 ?_
  refine g_icmp_ne_f (tgt := 26) dX9_setOrder_20 (by decide) rfl ?_
  refine g_bipush (v := -2) dX9_setOrder_23 (by decide +kernel) ?_
  exact g_iret rfl dX9_setOrder_25 ⟨rfl, rfl⟩
theorem c_setOrder_s (M : Mo) (ni nd nj p q : Nat) (hp : p < 3) (hq : q < 3) (hpq : p ≠ q) (hR : Rb h M ni nd nj) (e6 : M.1 0 6 = nI p) (e7 : M.1 0 7 = nI q) : Ct G mX9_setOrder [ga G 0, .int (nI p), .int (nI q)] h 456 456 (dI (-5) h) := by
  have hb : ∀ p, p < 3 → nI 0 ≤ nI p ∧ nI p ≤ nI 2 := fun p hp => ⟨nI_le (by omega) (by omega), nI_le (by omega) (by omega)⟩
  obtain ⟨-, ⟨-, -, -, n6, n7⟩, -, -, -, -, -, hS⟩ := id hR
  have hne : ∀ a b, a < 3 → b < 3 → a ≠ b → ¬ nI a = nI b := fun a b ha hb hab z => hab ((nI_eq (a := a) (b := b) (by omega) (by omega)).mp z)
  have r1 : rk M (nI p) = 0 := by unfold rk; rw [e6, if_pos rfl]
  have r2 : rk M (nI q) = 1 := by unfold rk; rw [e6, e7, if_neg (hne q p hq hp hpq.symm), if_pos rfl]
  refine Ct.of rfl (by simp [Value.category, ga]) (Nat.le_of_ble_eq_true rfl) (Nat.le_refl _) ?_
  show Go _ _ _ _ _ _ _ [some (ga G 0), some (.int (nI p)), some (.int (nI q))] []
  refine g_ild1 dX9_setOrder_0 ?_
  refine g_iconst (v := nI 0) dX9_setOrder_1 (by decide +kernel) ?_
  refine g_iconst (v := nI 2) dX9_setOrder_2 (by decide +kernel) ?_
  refine g_callS3 (c_isFrom (h := h) (nI p) (nI 0) (nI 2)) mw_2_133 ok_X9_isFrom ⟨by decide, by decide⟩ (by omega) (by omega) (Nat.le_of_ble_eq_true rfl) dX9_setOrder_3 (dI_K ?_)
  rw [if_pos (hb p hp)]
  refine g_if_eq_f (tgt := 23) dX9_setOrder_6 (by decide) (by decide) ?_
  show Go _ _ _ _ _ _ 9 _ _
  refine g_ild2 dX9_setOrder_9 ?_
  refine g_iconst (v := nI 0) dX9_setOrder_10 (by decide +kernel) ?_
  refine g_iconst (v := nI 2) dX9_setOrder_11 (by decide +kernel) ?_
  refine g_callS3 (c_isFrom (h := h) (nI q) (nI 0) (nI 2)) mw_2_133 ok_X9_isFrom ⟨by decide, by decide⟩ (by omega) (by omega) (Nat.le_of_ble_eq_true rfl) dX9_setOrder_12 (dI_K ?_)
  rw [if_pos (hb q hq)]
  refine g_if_eq_f (tgt := 23) dX9_setOrder_15 (by decide) (by decide) ?_
  refine g_ild1 dX9_setOrder_18 ?_
  show Go _ _ _ _ _ _ 19 _ _
  refine g_ild2 dX9_setOrder_19 ?_
  refine g_icmp_ne_t (tgt := 26) dX9_setOrder_20 (by decide) (hne p q hp hq hpq) ?_
  refine g_ald0 dX9_setOrder_26 ?_
  refine g_getQ fb_9_0 mw_2_95 (by first | assumption | exact lay_item (by omega) | exact lay_drive (by omega) | exact lay_job (by omega) | rfl) (by omega) (sh_now hS) dX9_setOrder_27 ?_
  refine g_getQ fb_6_1 mw_2_3 (by first | assumption | exact lay_item (by omega) | exact lay_drive (by omega) | exact lay_job (by omega) | rfl) (by omega) (sh_queue hS) dX9_setOrder_30 ?_
  refine g_ild1 dX9_setOrder_33 ?_
  show Go _ _ _ _ _ _ 34 _ _
  refine g_callV1 (c_rankOf (h := h) M (nI p) n6 n7) mw_3_229 ok_X5_rankOf ⟨by decide, by decide⟩ (by first | assumption | exact lay_item (by omega) | exact lay_drive (by omega) | exact lay_job (by omega) | rfl) (by omega) rfl (by omega) (by omega) (Nat.le_of_ble_eq_true rfl) dX9_setOrder_34 (dI_K ?_)
  rw [r1]
  refine g_if_ne_f (tgt := 58) dX9_setOrder_37 (by decide) rfl ?_
  refine g_ald0 dX9_setOrder_40 ?_
  refine g_getQ fb_9_0 mw_2_95 (by first | assumption | exact lay_item (by omega) | exact lay_drive (by omega) | exact lay_job (by omega) | rfl) (by omega) (sh_now hS) dX9_setOrder_41 ?_
  refine g_getQ fb_6_1 mw_2_3 (by first | assumption | exact lay_item (by omega) | exact lay_drive (by omega) | exact lay_job (by omega) | rfl) (by omega) (sh_queue hS) dX9_setOrder_44 ?_
  refine g_ild2 dX9_setOrder_47 ?_
  show Go _ _ _ _ _ _ 48 _ _
  refine g_callV1 (c_rankOf (h := h) M (nI q) n6 n7) mw_3_229 ok_X5_rankOf ⟨by decide, by decide⟩ (by first | assumption | exact lay_item (by omega) | exact lay_drive (by omega) | exact lay_job (by omega) | rfl) (by omega) rfl (by omega) (by omega) (Nat.le_of_ble_eq_true rfl) dX9_setOrder_48 (dI_K ?_)
  rw [r2]
  refine g_iconst (v := nI 1) dX9_setOrder_51 (by decide +kernel) ?_
  refine g_icmp_ne_f (tgt := 58) dX9_setOrder_52 (by decide) rfl ?_
  refine g_bipush (v := -5) dX9_setOrder_55 (by decide +kernel) ?_
  exact g_iret rfl dX9_setOrder_57 ⟨rfl, rfl⟩
theorem c_setOrder (M : Mo) (ni nd nj p q : Nat) (hp : p < 3) (hq : q < 3) (hpq : p ≠ q) (hR : Rb h M ni nd nj) (hi : ni ≤ 8) (hd : nd ≤ 4) (hj : nj ≤ 10) (hC : Icl M ni) (he : ¬ (M.1 0 6 = nI p ∧ M.1 0 7 = nI q)) : Ct G mX9_setOrder [ga G 0, .int (nI p), .int (nI q)] h 456 456 (rI (fun r h' => r = 3 - nI p - nI q ∧ Rb h' (mOrd M (nI p) (nI q)) ni nd nj ∧ KL h h')) := by
  have hb : ∀ p, p < 3 → nI 0 ≤ nI p ∧ nI p ≤ nI 2 := fun p hp => ⟨nI_le (by omega) (by omega), nI_le (by omega) (by omega)⟩
  obtain ⟨-, ⟨-, -, -, n6, n7⟩, -, -, -, -, hH, hS⟩ := id hR
  have hne : ∀ a b, a < 3 → b < 3 → a ≠ b → ¬ nI a = nI b := fun a b ha hb hab z => hab ((nI_eq (a := a) (b := b) (by omega) (by omega)).mp z)
  refine Ct.of rfl (by simp [Value.category, ga]) (Nat.le_of_ble_eq_true rfl) (Nat.le_refl _) ?_
  show Go _ _ _ _ _ _ _ [some (ga G 0), some (.int (nI p)), some (.int (nI q))] []
  have tail : Go G mX9_setOrder 456 (rI (fun r h' => r = 3 - nI p - nI q ∧ Rb h' (mOrd M (nI p) (nI q)) ni nd nj ∧ KL h h')) h 456 58 [some (ga G 0), some (.int (nI p)), some (.int (nI q))] [] := by
    refine g_ald0 dX9_setOrder_58 ?_
    refine g_getQ fb_9_1 mw_2_96 (by first | assumption | exact lay_item (by omega) | exact lay_drive (by omega) | exact lay_job (by omega) | rfl) (by omega) (sh_hist hS) dX9_setOrder_59 ?_
    refine g_ald0 dX9_setOrder_62 ?_
    refine g_getQ fb_9_0 mw_2_95 (by first | assumption | exact lay_item (by omega) | exact lay_drive (by omega) | exact lay_job (by omega) | rfl) (by omega) (sh_now hS) dX9_setOrder_63 ?_
    refine g_callV1 (c_record (h := h) hS (hR.cn hi hd hj hC) hH) mw_3_79 ok_X1_record ⟨by decide, by decide⟩ (by first | assumption | exact lay_item (by omega) | exact lay_drive (by omega) | exact lay_job (by omega) | rfl) (by omega) rfl (by omega) (by omega) (Nat.le_of_ble_eq_true rfl) dX9_setOrder_66 (rV_K ?_)
    intro h1 k1
    have hS1 := k1.2.1
    show Go _ _ _ _ _ _ 69 _ _
    refine g_ald0 dX9_setOrder_69 ?_
    refine g_getQ fb_9_0 mw_2_95 (by first | assumption | exact lay_item (by omega) | exact lay_drive (by omega) | exact lay_job (by omega) | rfl) (by omega) (sh_now hS1) dX9_setOrder_70 ?_
    refine g_getQ fb_6_1 mw_2_3 (by first | assumption | exact lay_item (by omega) | exact lay_drive (by omega) | exact lay_job (by omega) | rfl) (by omega) (sh_queue hS1) dX9_setOrder_73 ?_
    refine g_ild1 dX9_setOrder_76 ?_
    refine g_ild2 dX9_setOrder_77 ?_
    refine g_callV2 (c_rankKinds (h := h1) (nI p) (nI q)) mw_3_230 ok_X5_rankKinds ⟨by decide, by decide⟩ (by first | assumption | exact lay_item (by omega) | exact lay_drive (by omega) | exact lay_job (by omega) | rfl) (by omega) rfl (by omega) (by omega) (Nat.le_of_ble_eq_true rfl) dX9_setOrder_78 (dI_K ?_)
    show Go _ _ _ _ _ _ 81 _ _
    exact g_iret rfl dX9_setOrder_81 ⟨_, rfl, rfl, rb_order (hR.kp hi hd hj k1) hi hd hj _ _, KL.wI (by omega) (KL.wI (by omega) (KL.kp k1))⟩
  by_cases e6 : M.1 0 6 = nI p
  · have r1 : rk M (nI p) = 0 := by unfold rk; rw [e6, if_pos rfl]
    have r2 : ¬ rk M (nI q) = 1 := by
      intro z
      unfold rk at z
      rw [e6, if_neg (hne q p hq hp hpq.symm)] at z
      by_cases e7 : nI q = M.1 0 7
      · exact he ⟨e6, e7.symm⟩
      · rw [if_neg e7] at z; omega
    refine g_ild1 dX9_setOrder_0 ?_
    refine g_iconst (v := nI 0) dX9_setOrder_1 (by decide +kernel) ?_
    refine g_iconst (v := nI 2) dX9_setOrder_2 (by decide +kernel) ?_
    refine g_callS3 (c_isFrom (h := h) (nI p) (nI 0) (nI 2)) mw_2_133 ok_X9_isFrom ⟨by decide, by decide⟩ (by omega) (by omega) (Nat.le_of_ble_eq_true rfl) dX9_setOrder_3 (dI_K ?_)
    rw [if_pos (hb p hp)]
    refine g_if_eq_f (tgt := 23) dX9_setOrder_6 (by decide) (by decide) ?_
    show Go _ _ _ _ _ _ 9 _ _
    refine g_ild2 dX9_setOrder_9 ?_
    refine g_iconst (v := nI 0) dX9_setOrder_10 (by decide +kernel) ?_
    refine g_iconst (v := nI 2) dX9_setOrder_11 (by decide +kernel) ?_
    refine g_callS3 (c_isFrom (h := h) (nI q) (nI 0) (nI 2)) mw_2_133 ok_X9_isFrom ⟨by decide, by decide⟩ (by omega) (by omega) (Nat.le_of_ble_eq_true rfl) dX9_setOrder_12 (dI_K ?_)
    rw [if_pos (hb q hq)]
    refine g_if_eq_f (tgt := 23) dX9_setOrder_15 (by decide) (by decide) ?_
    refine g_ild1 dX9_setOrder_18 ?_
    show Go _ _ _ _ _ _ 19 _ _
    refine g_ild2 dX9_setOrder_19 ?_
    refine g_icmp_ne_t (tgt := 26) dX9_setOrder_20 (by decide) (hne p q hp hq hpq) ?_
    refine g_ald0 dX9_setOrder_26 ?_
    refine g_getQ fb_9_0 mw_2_95 (by first | assumption | exact lay_item (by omega) | exact lay_drive (by omega) | exact lay_job (by omega) | rfl) (by omega) (sh_now hS) dX9_setOrder_27 ?_
    refine g_getQ fb_6_1 mw_2_3 (by first | assumption | exact lay_item (by omega) | exact lay_drive (by omega) | exact lay_job (by omega) | rfl) (by omega) (sh_queue hS) dX9_setOrder_30 ?_
    refine g_ild1 dX9_setOrder_33 ?_
    show Go _ _ _ _ _ _ 34 _ _
    refine g_callV1 (c_rankOf (h := h) M (nI p) n6 n7) mw_3_229 ok_X5_rankOf ⟨by decide, by decide⟩ (by first | assumption | exact lay_item (by omega) | exact lay_drive (by omega) | exact lay_job (by omega) | rfl) (by omega) rfl (by omega) (by omega) (Nat.le_of_ble_eq_true rfl) dX9_setOrder_34 (dI_K ?_)
    rw [r1]
    refine g_if_ne_f (tgt := 58) dX9_setOrder_37 (by decide) rfl ?_
    refine g_ald0 dX9_setOrder_40 ?_
    refine g_getQ fb_9_0 mw_2_95 (by first | assumption | exact lay_item (by omega) | exact lay_drive (by omega) | exact lay_job (by omega) | rfl) (by omega) (sh_now hS) dX9_setOrder_41 ?_
    refine g_getQ fb_6_1 mw_2_3 (by first | assumption | exact lay_item (by omega) | exact lay_drive (by omega) | exact lay_job (by omega) | rfl) (by omega) (sh_queue hS) dX9_setOrder_44 ?_
    refine g_ild2 dX9_setOrder_47 ?_
    show Go _ _ _ _ _ _ 48 _ _
    refine g_callV1 (c_rankOf (h := h) M (nI q) n6 n7) mw_3_229 ok_X5_rankOf ⟨by decide, by decide⟩ (by first | assumption | exact lay_item (by omega) | exact lay_drive (by omega) | exact lay_job (by omega) | rfl) (by omega) rfl (by omega) (by omega) (Nat.le_of_ble_eq_true rfl) dX9_setOrder_48 (dI_K ?_)
    refine g_iconst (v := nI 1) dX9_setOrder_51 (by decide +kernel) ?_
    refine g_icmp_ne_t (tgt := 58) dX9_setOrder_52 (by decide) (fun z => r2 ((nI_eq (a := rk M (nI q)) (b := 1) (by have := rk_le M (nI q); omega) (by omega)).mp z)) ?_
    exact tail
  · have r1 : ¬ rk M (nI p) = 0 := by
      intro z
      unfold rk at z
      rw [if_neg (fun y => e6 y.symm)] at z
      by_cases e7 : nI p = M.1 0 7
      · rw [if_pos e7] at z; omega
      · rw [if_neg e7] at z; omega
    refine g_ild1 dX9_setOrder_0 ?_
    refine g_iconst (v := nI 0) dX9_setOrder_1 (by decide +kernel) ?_
    refine g_iconst (v := nI 2) dX9_setOrder_2 (by decide +kernel) ?_
    refine g_callS3 (c_isFrom (h := h) (nI p) (nI 0) (nI 2)) mw_2_133 ok_X9_isFrom ⟨by decide, by decide⟩ (by omega) (by omega) (Nat.le_of_ble_eq_true rfl) dX9_setOrder_3 (dI_K ?_)
    rw [if_pos (hb p hp)]
    refine g_if_eq_f (tgt := 23) dX9_setOrder_6 (by decide) (by decide) ?_
    show Go _ _ _ _ _ _ 9 _ _
    refine g_ild2 dX9_setOrder_9 ?_
    refine g_iconst (v := nI 0) dX9_setOrder_10 (by decide +kernel) ?_
    refine g_iconst (v := nI 2) dX9_setOrder_11 (by decide +kernel) ?_
    refine g_callS3 (c_isFrom (h := h) (nI q) (nI 0) (nI 2)) mw_2_133 ok_X9_isFrom ⟨by decide, by decide⟩ (by omega) (by omega) (Nat.le_of_ble_eq_true rfl) dX9_setOrder_12 (dI_K ?_)
    rw [if_pos (hb q hq)]
    refine g_if_eq_f (tgt := 23) dX9_setOrder_15 (by decide) (by decide) ?_
    refine g_ild1 dX9_setOrder_18 ?_
    show Go _ _ _ _ _ _ 19 _ _
    refine g_ild2 dX9_setOrder_19 ?_
    refine g_icmp_ne_t (tgt := 26) dX9_setOrder_20 (by decide) (hne p q hp hq hpq) ?_
    refine g_ald0 dX9_setOrder_26 ?_
    refine g_getQ fb_9_0 mw_2_95 (by first | assumption | exact lay_item (by omega) | exact lay_drive (by omega) | exact lay_job (by omega) | rfl) (by omega) (sh_now hS) dX9_setOrder_27 ?_
    refine g_getQ fb_6_1 mw_2_3 (by first | assumption | exact lay_item (by omega) | exact lay_drive (by omega) | exact lay_job (by omega) | rfl) (by omega) (sh_queue hS) dX9_setOrder_30 ?_
    refine g_ild1 dX9_setOrder_33 ?_
    show Go _ _ _ _ _ _ 34 _ _
    refine g_callV1 (c_rankOf (h := h) M (nI p) n6 n7) mw_3_229 ok_X5_rankOf ⟨by decide, by decide⟩ (by first | assumption | exact lay_item (by omega) | exact lay_drive (by omega) | exact lay_job (by omega) | rfl) (by omega) rfl (by omega) (by omega) (Nat.le_of_ble_eq_true rfl) dX9_setOrder_34 (dI_K ?_)
    refine g_if_ne_t (tgt := 58) dX9_setOrder_37 (by decide) (nI_ne0 (by omega) (by have := rk_le M (nI p); omega)) ?_
    exact tail
end P47
