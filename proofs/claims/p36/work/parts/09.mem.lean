/-! ===== MEMORY AND CALLS (written by gen/mem.py) ===== -/
/-- what the tables say of a class -/
def cb (ci : Nat) (C : String) (T : u_T) (N : Nat) : Prop := vwCl[ci]? = some (C, T, N) ∧ (∀ w ∈ u_ws C T N, w ∈ Wt) ∧ (∃ ty0 : Nat → FieldType, (∀ k, k < N → parseFieldDescriptor (T k).2.2.1 = some (ty0 k)) ∧ ∀ G j, j < N → defaultValue (ty0 j) = vp_V (flr G ci (fun _ => 0) (fun _ => 0) (fun _ => none)) j) ∧ (∀ a, a < N → ∀ b, b < N → a ≠ b → (T a).2.1 ≠ (T b).2.1) ∧ (∀ k, Lay k = .inl ci → csz k = N)
theorem cb0 : cb 0 RX0 TX0 7 := by
  refine ⟨rfl, inW0, ⟨tyX0, tyX0_ok, fun G j hj => ?_⟩, nmX0, fun k hL => by simp only [csz, hL]⟩
  match j, hj with
  | 0, _ => rfl
  | 1, _ => rfl
  | 2, _ => rfl
  | 3, _ => rfl
  | 4, _ => rfl
  | 5, _ => rfl
  | 6, _ => rfl
theorem cb1 : cb 1 RX1 TX1 2 := by
  refine ⟨rfl, inW1, ⟨tyX1, tyX1_ok, fun G j hj => ?_⟩, nmX1, fun k hL => by simp only [csz, hL]⟩
  match j, hj with
  | 0, _ => rfl
  | 1, _ => rfl
theorem cb2 : cb 2 RX2 TX2 8 := by
  refine ⟨rfl, inW2, ⟨tyX2, tyX2_ok, fun G j hj => ?_⟩, nmX2, fun k hL => by simp only [csz, hL]⟩
  match j, hj with
  | 0, _ => rfl
  | 1, _ => rfl
  | 2, _ => rfl
  | 3, _ => rfl
  | 4, _ => rfl
  | 5, _ => rfl
  | 6, _ => rfl
  | 7, _ => rfl
theorem cb3 : cb 3 RX3 TX3 13 := by
  refine ⟨rfl, inW3, ⟨tyX3, tyX3_ok, fun G j hj => ?_⟩, nmX3, fun k hL => by simp only [csz, hL]⟩
  match j, hj with
  | 0, _ => rfl
  | 1, _ => rfl
  | 2, _ => rfl
  | 3, _ => rfl
  | 4, _ => rfl
  | 5, _ => rfl
  | 6, _ => rfl
  | 7, _ => rfl
  | 8, _ => rfl
  | 9, _ => rfl
  | 10, _ => rfl
  | 11, _ => rfl
  | 12, _ => rfl
theorem cb4 : cb 4 RX4 TX4 6 := by
  refine ⟨rfl, inW4, ⟨tyX4, tyX4_ok, fun G j hj => ?_⟩, nmX4, fun k hL => by simp only [csz, hL]⟩
  match j, hj with
  | 0, _ => rfl
  | 1, _ => rfl
  | 2, _ => rfl
  | 3, _ => rfl
  | 4, _ => rfl
  | 5, _ => rfl
theorem cb5 : cb 5 RX5 TX5 4 := by
  refine ⟨rfl, inW5, ⟨tyX5, tyX5_ok, fun G j hj => ?_⟩, nmX5, fun k hL => by simp only [csz, hL]⟩
  match j, hj with
  | 0, _ => rfl
  | 1, _ => rfl
  | 2, _ => rfl
  | 3, _ => rfl
theorem cb6 : cb 6 RX6 TX6 12 := by
  refine ⟨rfl, inW6, ⟨tyX6, tyX6_ok, fun G j hj => ?_⟩, nmX6, fun k hL => by simp only [csz, hL]⟩
  match j, hj with
  | 0, _ => rfl
  | 1, _ => rfl
  | 2, _ => rfl
  | 3, _ => rfl
  | 4, _ => rfl
  | 5, _ => rfl
  | 6, _ => rfl
  | 7, _ => rfl
  | 8, _ => rfl
  | 9, _ => rfl
  | 10, _ => rfl
  | 11, _ => rfl
theorem cb7 : cb 7 RX7 TX7 4 := by
  refine ⟨rfl, inW7, ⟨tyX7, tyX7_ok, fun G j hj => ?_⟩, nmX7, fun k hL => by simp only [csz, hL]⟩
  match j, hj with
  | 0, _ => rfl
  | 1, _ => rfl
  | 2, _ => rfl
  | 3, _ => rfl
theorem cb8 : cb 8 RX8 TX8 7 := by
  refine ⟨rfl, inW8, ⟨tyX8, tyX8_ok, fun G j hj => ?_⟩, nmX8, fun k hL => by simp only [csz, hL]⟩
  match j, hj with
  | 0, _ => rfl
  | 1, _ => rfl
  | 2, _ => rfl
  | 3, _ => rfl
  | 4, _ => rfl
  | 5, _ => rfl
  | 6, _ => rfl
theorem cb9 : cb 9 RX9 TX9 6 := by
  refine ⟨rfl, inW9, ⟨tyX9, tyX9_ok, fun G j hj => ?_⟩, nmX9, fun k hL => by simp only [csz, hL]⟩
  match j, hj with
  | 0, _ => rfl
  | 1, _ => rfl
  | 2, _ => rfl
  | 3, _ => rfl
  | 4, _ => rfl
  | 5, _ => rfl
def fbI (ci j : Nat) (C : String) (T : u_T) (N : Nat) (ty : FieldType) : Prop := cb ci C T N ∧ j < N ∧ (T j).2.2.2 = false ∧ parseFieldDescriptor (T j).2.2.1 = some ty ∧ (∀ G ri rf rq, (flr G ci ri rf rq)[j]? = some (.int (ri j))) ∧ (∀ G ri rf rq v, flr G ci (upd ri j v) rf rq = (flr G ci ri rf rq).set j (.int v))
def fbF (ci j : Nat) (C : String) (T : u_T) (N : Nat) : Prop := cb ci C T N ∧ j < N ∧ (T j).2.2.2 = false ∧ parseFieldDescriptor (T j).2.2.1 = some .float ∧ (∀ G ri rf rq, (flr G ci ri rf rq)[j]? = some (.float (rf j))) ∧ (∀ G ri rf rq v, flr G ci ri (va_up rf j v) rq = (flr G ci ri rf rq).set j (.float v))
def fbQ (ci j : Nat) (C : String) (T : u_T) (N : Nat) (ty : FieldType) : Prop := cb ci C T N ∧ j < N ∧ (T j).2.2.2 = true ∧ parseFieldDescriptor (T j).2.2.1 = some ty ∧ (∀ G ri rf rq, (flr G ci ri rf rq)[j]? = some (gr G (rq j))) ∧ (∀ G ri rf rq v, flr G ci ri rf (va_up rq j v) = (flr G ci ri rf rq).set j (gr G v)) ∧ (∀ a : Nat, narrow ty (.ref a) = .ref a ∧ fits ty (.ref a) = true) ∧ (T j).1 = C
theorem fb_0_0 : fbI 0 0 RX0 TX0 7 .int := ⟨cb0, by decide, rfl, tyX0_ok 0 (by decide), fun _ _ _ _ => rfl, fun _ _ _ _ _ => rfl⟩
theorem fb_0_1 : fbF 0 1 RX0 TX0 7 := ⟨cb0, by decide, rfl, tyX0_ok 1 (by decide), fun _ _ _ _ => rfl, fun _ _ _ _ _ => rfl⟩
theorem fb_0_2 : fbF 0 2 RX0 TX0 7 := ⟨cb0, by decide, rfl, tyX0_ok 2 (by decide), fun _ _ _ _ => rfl, fun _ _ _ _ _ => rfl⟩
theorem fb_0_3 : fbI 0 3 RX0 TX0 7 .int := ⟨cb0, by decide, rfl, tyX0_ok 3 (by decide), fun _ _ _ _ => rfl, fun _ _ _ _ _ => rfl⟩
theorem fb_0_4 : fbI 0 4 RX0 TX0 7 .int := ⟨cb0, by decide, rfl, tyX0_ok 4 (by decide), fun _ _ _ _ => rfl, fun _ _ _ _ _ => rfl⟩
theorem fb_0_5 : fbI 0 5 RX0 TX0 7 .int := ⟨cb0, by decide, rfl, tyX0_ok 5 (by decide), fun _ _ _ _ => rfl, fun _ _ _ _ _ => rfl⟩
theorem fb_0_6 : fbI 0 6 RX0 TX0 7 .int := ⟨cb0, by decide, rfl, tyX0_ok 6 (by decide), fun _ _ _ _ => rfl, fun _ _ _ _ _ => rfl⟩
theorem fb_1_0 : fbQ 1 0 RX1 TX1 2 (tyX1 0) := ⟨cb1, by decide, rfl, tyX1_ok 0 (by decide), fun _ _ _ _ => rfl, fun _ _ _ _ _ => rfl, fun _ => ⟨rfl, rfl⟩, rfl⟩
theorem fb_1_1 : fbI 1 1 RX1 TX1 2 .int := ⟨cb1, by decide, rfl, tyX1_ok 1 (by decide), fun _ _ _ _ => rfl, fun _ _ _ _ _ => rfl⟩
theorem fb_2_0 : fbI 2 0 RX2 TX2 8 .boolean := ⟨cb2, by decide, rfl, tyX2_ok 0 (by decide), fun _ _ _ _ => rfl, fun _ _ _ _ _ => rfl⟩
theorem fb_2_1 : fbI 2 1 RX2 TX2 8 .int := ⟨cb2, by decide, rfl, tyX2_ok 1 (by decide), fun _ _ _ _ => rfl, fun _ _ _ _ _ => rfl⟩
theorem fb_2_2 : fbI 2 2 RX2 TX2 8 .int := ⟨cb2, by decide, rfl, tyX2_ok 2 (by decide), fun _ _ _ _ => rfl, fun _ _ _ _ _ => rfl⟩
theorem fb_2_3 : fbI 2 3 RX2 TX2 8 .int := ⟨cb2, by decide, rfl, tyX2_ok 3 (by decide), fun _ _ _ _ => rfl, fun _ _ _ _ _ => rfl⟩
theorem fb_2_4 : fbI 2 4 RX2 TX2 8 .int := ⟨cb2, by decide, rfl, tyX2_ok 4 (by decide), fun _ _ _ _ => rfl, fun _ _ _ _ _ => rfl⟩
theorem fb_2_5 : fbI 2 5 RX2 TX2 8 .int := ⟨cb2, by decide, rfl, tyX2_ok 5 (by decide), fun _ _ _ _ => rfl, fun _ _ _ _ _ => rfl⟩
theorem fb_2_6 : fbF 2 6 RX2 TX2 8 := ⟨cb2, by decide, rfl, tyX2_ok 6 (by decide), fun _ _ _ _ => rfl, fun _ _ _ _ _ => rfl⟩
theorem fb_2_7 : fbI 2 7 RX2 TX2 8 .int := ⟨cb2, by decide, rfl, tyX2_ok 7 (by decide), fun _ _ _ _ => rfl, fun _ _ _ _ _ => rfl⟩
theorem fb_3_0 : fbI 3 0 RX3 TX3 13 .int := ⟨cb3, by decide, rfl, tyX3_ok 0 (by decide), fun _ _ _ _ => rfl, fun _ _ _ _ _ => rfl⟩
theorem fb_3_1 : fbI 3 1 RX3 TX3 13 .int := ⟨cb3, by decide, rfl, tyX3_ok 1 (by decide), fun _ _ _ _ => rfl, fun _ _ _ _ _ => rfl⟩
theorem fb_3_2 : fbI 3 2 RX3 TX3 13 .int := ⟨cb3, by decide, rfl, tyX3_ok 2 (by decide), fun _ _ _ _ => rfl, fun _ _ _ _ _ => rfl⟩
theorem fb_3_3 : fbI 3 3 RX3 TX3 13 .int := ⟨cb3, by decide, rfl, tyX3_ok 3 (by decide), fun _ _ _ _ => rfl, fun _ _ _ _ _ => rfl⟩
theorem fb_3_4 : fbI 3 4 RX3 TX3 13 .int := ⟨cb3, by decide, rfl, tyX3_ok 4 (by decide), fun _ _ _ _ => rfl, fun _ _ _ _ _ => rfl⟩
theorem fb_3_5 : fbI 3 5 RX3 TX3 13 .int := ⟨cb3, by decide, rfl, tyX3_ok 5 (by decide), fun _ _ _ _ => rfl, fun _ _ _ _ _ => rfl⟩
theorem fb_3_6 : fbI 3 6 RX3 TX3 13 .int := ⟨cb3, by decide, rfl, tyX3_ok 6 (by decide), fun _ _ _ _ => rfl, fun _ _ _ _ _ => rfl⟩
theorem fb_3_7 : fbI 3 7 RX3 TX3 13 .int := ⟨cb3, by decide, rfl, tyX3_ok 7 (by decide), fun _ _ _ _ => rfl, fun _ _ _ _ _ => rfl⟩
theorem fb_3_8 : fbI 3 8 RX3 TX3 13 .int := ⟨cb3, by decide, rfl, tyX3_ok 8 (by decide), fun _ _ _ _ => rfl, fun _ _ _ _ _ => rfl⟩
theorem fb_3_9 : fbI 3 9 RX3 TX3 13 .int := ⟨cb3, by decide, rfl, tyX3_ok 9 (by decide), fun _ _ _ _ => rfl, fun _ _ _ _ _ => rfl⟩
theorem fb_3_10 : fbI 3 10 RX3 TX3 13 .int := ⟨cb3, by decide, rfl, tyX3_ok 10 (by decide), fun _ _ _ _ => rfl, fun _ _ _ _ _ => rfl⟩
theorem fb_3_11 : fbI 3 11 RX3 TX3 13 .int := ⟨cb3, by decide, rfl, tyX3_ok 11 (by decide), fun _ _ _ _ => rfl, fun _ _ _ _ _ => rfl⟩
theorem fb_3_12 : fbI 3 12 RX3 TX3 13 .int := ⟨cb3, by decide, rfl, tyX3_ok 12 (by decide), fun _ _ _ _ => rfl, fun _ _ _ _ _ => rfl⟩
theorem fb_4_0 : fbQ 4 0 RX4 TX4 6 (tyX4 0) := ⟨cb4, by decide, rfl, tyX4_ok 0 (by decide), fun _ _ _ _ => rfl, fun _ _ _ _ _ => rfl, fun _ => ⟨rfl, rfl⟩, rfl⟩
theorem fb_4_1 : fbQ 4 1 RX4 TX4 6 (tyX4 1) := ⟨cb4, by decide, rfl, tyX4_ok 1 (by decide), fun _ _ _ _ => rfl, fun _ _ _ _ _ => rfl, fun _ => ⟨rfl, rfl⟩, rfl⟩
theorem fb_4_2 : fbQ 4 2 RX4 TX4 6 (tyX4 2) := ⟨cb4, by decide, rfl, tyX4_ok 2 (by decide), fun _ _ _ _ => rfl, fun _ _ _ _ _ => rfl, fun _ => ⟨rfl, rfl⟩, rfl⟩
theorem fb_4_3 : fbQ 4 3 RX4 TX4 6 (tyX4 3) := ⟨cb4, by decide, rfl, tyX4_ok 3 (by decide), fun _ _ _ _ => rfl, fun _ _ _ _ _ => rfl, fun _ => ⟨rfl, rfl⟩, rfl⟩
theorem fb_4_4 : fbI 4 4 RX4 TX4 6 .int := ⟨cb4, by decide, rfl, tyX4_ok 4 (by decide), fun _ _ _ _ => rfl, fun _ _ _ _ _ => rfl⟩
theorem fb_4_5 : fbI 4 5 RX4 TX4 6 .int := ⟨cb4, by decide, rfl, tyX4_ok 5 (by decide), fun _ _ _ _ => rfl, fun _ _ _ _ _ => rfl⟩
theorem fb_5_0 : fbQ 5 0 RX5 TX5 4 (tyX5 0) := ⟨cb5, by decide, rfl, tyX5_ok 0 (by decide), fun _ _ _ _ => rfl, fun _ _ _ _ _ => rfl, fun _ => ⟨rfl, rfl⟩, rfl⟩
theorem fb_5_1 : fbI 5 1 RX5 TX5 4 .int := ⟨cb5, by decide, rfl, tyX5_ok 1 (by decide), fun _ _ _ _ => rfl, fun _ _ _ _ _ => rfl⟩
theorem fb_5_2 : fbI 5 2 RX5 TX5 4 .int := ⟨cb5, by decide, rfl, tyX5_ok 2 (by decide), fun _ _ _ _ => rfl, fun _ _ _ _ _ => rfl⟩
theorem fb_5_3 : fbI 5 3 RX5 TX5 4 .int := ⟨cb5, by decide, rfl, tyX5_ok 3 (by decide), fun _ _ _ _ => rfl, fun _ _ _ _ _ => rfl⟩
theorem fb_6_0 : fbQ 6 0 RX6 TX6 12 (tyX6 0) := ⟨cb6, by decide, rfl, tyX6_ok 0 (by decide), fun _ _ _ _ => rfl, fun _ _ _ _ _ => rfl, fun _ => ⟨rfl, rfl⟩, rfl⟩
theorem fb_6_1 : fbQ 6 1 RX6 TX6 12 (tyX6 1) := ⟨cb6, by decide, rfl, tyX6_ok 1 (by decide), fun _ _ _ _ => rfl, fun _ _ _ _ _ => rfl, fun _ => ⟨rfl, rfl⟩, rfl⟩
theorem fb_6_2 : fbQ 6 2 RX6 TX6 12 (tyX6 2) := ⟨cb6, by decide, rfl, tyX6_ok 2 (by decide), fun _ _ _ _ => rfl, fun _ _ _ _ _ => rfl, fun _ => ⟨rfl, rfl⟩, rfl⟩
theorem fb_6_3 : fbF 6 3 RX6 TX6 12 := ⟨cb6, by decide, rfl, tyX6_ok 3 (by decide), fun _ _ _ _ => rfl, fun _ _ _ _ _ => rfl⟩
theorem fb_6_4 : fbF 6 4 RX6 TX6 12 := ⟨cb6, by decide, rfl, tyX6_ok 4 (by decide), fun _ _ _ _ => rfl, fun _ _ _ _ _ => rfl⟩
theorem fb_6_5 : fbI 6 5 RX6 TX6 12 .int := ⟨cb6, by decide, rfl, tyX6_ok 5 (by decide), fun _ _ _ _ => rfl, fun _ _ _ _ _ => rfl⟩
theorem fb_6_6 : fbI 6 6 RX6 TX6 12 .int := ⟨cb6, by decide, rfl, tyX6_ok 6 (by decide), fun _ _ _ _ => rfl, fun _ _ _ _ _ => rfl⟩
theorem fb_6_7 : fbI 6 7 RX6 TX6 12 .int := ⟨cb6, by decide, rfl, tyX6_ok 7 (by decide), fun _ _ _ _ => rfl, fun _ _ _ _ _ => rfl⟩
theorem fb_6_8 : fbI 6 8 RX6 TX6 12 .int := ⟨cb6, by decide, rfl, tyX6_ok 8 (by decide), fun _ _ _ _ => rfl, fun _ _ _ _ _ => rfl⟩
theorem fb_6_9 : fbI 6 9 RX6 TX6 12 .int := ⟨cb6, by decide, rfl, tyX6_ok 9 (by decide), fun _ _ _ _ => rfl, fun _ _ _ _ _ => rfl⟩
theorem fb_6_10 : fbI 6 10 RX6 TX6 12 .int := ⟨cb6, by decide, rfl, tyX6_ok 10 (by decide), fun _ _ _ _ => rfl, fun _ _ _ _ _ => rfl⟩
theorem fb_6_11 : fbI 6 11 RX6 TX6 12 .int := ⟨cb6, by decide, rfl, tyX6_ok 11 (by decide), fun _ _ _ _ => rfl, fun _ _ _ _ _ => rfl⟩
theorem fb_7_0 : fbQ 7 0 RX7 TX7 4 (tyX7 0) := ⟨cb7, by decide, rfl, tyX7_ok 0 (by decide), fun _ _ _ _ => rfl, fun _ _ _ _ _ => rfl, fun _ => ⟨rfl, rfl⟩, rfl⟩
theorem fb_7_1 : fbI 7 1 RX7 TX7 4 .int := ⟨cb7, by decide, rfl, tyX7_ok 1 (by decide), fun _ _ _ _ => rfl, fun _ _ _ _ _ => rfl⟩
theorem fb_7_2 : fbQ 7 2 RX7 TX7 4 (tyX7 2) := ⟨cb7, by decide, rfl, tyX7_ok 2 (by decide), fun _ _ _ _ => rfl, fun _ _ _ _ _ => rfl, fun _ => ⟨rfl, rfl⟩, rfl⟩
theorem fb_7_3 : fbI 7 3 RX7 TX7 4 .int := ⟨cb7, by decide, rfl, tyX7_ok 3 (by decide), fun _ _ _ _ => rfl, fun _ _ _ _ _ => rfl⟩
theorem fb_8_0 : fbQ 8 0 RX8 TX8 7 (tyX8 0) := ⟨cb8, by decide, rfl, tyX8_ok 0 (by decide), fun _ _ _ _ => rfl, fun _ _ _ _ _ => rfl, fun _ => ⟨rfl, rfl⟩, rfl⟩
theorem fb_8_1 : fbI 8 1 RX8 TX8 7 .int := ⟨cb8, by decide, rfl, tyX8_ok 1 (by decide), fun _ _ _ _ => rfl, fun _ _ _ _ _ => rfl⟩
theorem fb_8_2 : fbI 8 2 RX8 TX8 7 .int := ⟨cb8, by decide, rfl, tyX8_ok 2 (by decide), fun _ _ _ _ => rfl, fun _ _ _ _ _ => rfl⟩
theorem fb_8_3 : fbQ 8 3 RX8 TX8 7 (tyX8 3) := ⟨cb8, by decide, rfl, tyX8_ok 3 (by decide), fun _ _ _ _ => rfl, fun _ _ _ _ _ => rfl, fun _ => ⟨rfl, rfl⟩, rfl⟩
theorem fb_8_4 : fbQ 8 4 RX8 TX8 7 (tyX8 4) := ⟨cb8, by decide, rfl, tyX8_ok 4 (by decide), fun _ _ _ _ => rfl, fun _ _ _ _ _ => rfl, fun _ => ⟨rfl, rfl⟩, rfl⟩
theorem fb_8_5 : fbQ 8 5 RX8 TX8 7 (tyX8 5) := ⟨cb8, by decide, rfl, tyX8_ok 5 (by decide), fun _ _ _ _ => rfl, fun _ _ _ _ _ => rfl, fun _ => ⟨rfl, rfl⟩, rfl⟩
theorem fb_8_6 : fbI 8 6 RX8 TX8 7 .int := ⟨cb8, by decide, rfl, tyX8_ok 6 (by decide), fun _ _ _ _ => rfl, fun _ _ _ _ _ => rfl⟩
theorem fb_9_0 : fbQ 9 0 RX9 TX9 6 (tyX9 0) := ⟨cb9, by decide, rfl, tyX9_ok 0 (by decide), fun _ _ _ _ => rfl, fun _ _ _ _ _ => rfl, fun _ => ⟨rfl, rfl⟩, rfl⟩
theorem fb_9_1 : fbQ 9 1 RX9 TX9 6 (tyX9 1) := ⟨cb9, by decide, rfl, tyX9_ok 1 (by decide), fun _ _ _ _ => rfl, fun _ _ _ _ _ => rfl, fun _ => ⟨rfl, rfl⟩, rfl⟩
theorem fb_9_2 : fbQ 9 2 RX9 TX9 6 (tyX9 2) := ⟨cb9, by decide, rfl, tyX9_ok 2 (by decide), fun _ _ _ _ => rfl, fun _ _ _ _ _ => rfl, fun _ => ⟨rfl, rfl⟩, rfl⟩
theorem fb_9_3 : fbI 9 3 RX9 TX9 6 .boolean := ⟨cb9, by decide, rfl, tyX9_ok 3 (by decide), fun _ _ _ _ => rfl, fun _ _ _ _ _ => rfl⟩
theorem fb_9_4 : fbQ 9 4 RX9 TX9 6 (tyX9 4) := ⟨cb9, by decide, rfl, tyX9_ok 4 (by decide), fun _ _ _ _ => rfl, fun _ _ _ _ _ => rfl, fun _ => ⟨rfl, rfl⟩, rfl⟩
theorem fb_9_5 : fbQ 9 5 RX9 TX9 6 (tyX9 5) := ⟨cb9, by decide, rfl, tyX9_ok 5 (by decide), fun _ _ _ _ => rfl, fun _ _ _ _ _ => rfl, fun _ => ⟨rfl, rfl⟩, rfl⟩
theorem mOI : Cond.instanceMethod objectInit ∈ Wt := mw_1_19
theorem mOC : Cond.code objectInit ⟨#[0xb1]⟩ 1 none ∈ Wt := mw_1_20
theorem mSysI : Cond.initialized "java/lang/System" ∈ Wt := mw_1_11
theorem mMathI : Cond.initialized "java/lang/Math" ∈ Wt := mw_1_12
theorem mCpN : Cond.native arraycopyName ∈ Wt := mw_3_117
theorem mCpS : Cond.static arraycopyName ∈ Wt := mw_3_116
theorem mMinS : Cond.static Lib.Math.min.name ∈ Wt := mw_4_35
theorem mMinC : Cond.code Lib.Math.min.name Lib.Math.min.code 2 (some .int) ∈ Wt := mw_4_36
theorem mAbsS : Cond.static Lib.Math.abs.name ∈ Wt := mw_3_35
theorem mAbsC : Cond.code Lib.Math.abs.name Lib.Math.abs.code 1 (some .int) ∈ Wt := mw_3_36
theorem flr_len {G : Gl} {ci : Nat} {ri : Nat → Int32} {rf : Nat → UInt32} {rq : Nat → Option Nat} {j : Nat} {v : Value} (h : (flr G ci ri rf rq)[j]? = some v) : j < (flr G ci ri rf rq).length := (List.getElem?_eq_some_iff.mp h).1
section GM
variable {G : Gl} {M : Mt} {n1 : Nat} {R : Option Value → Hp → Prop} {h : Hp} {n pc : Nat} {ls : List (Option Value)} {st : List Value}
theorem wp_size {p : Program} {e : Env} {Rm : Room} {s : State} {m : MethodId} {args : Array Value} {below : List Frame} {meth : Method} {c : Code} {T : State} {locs : List Loc} {n0 cells slots : Nat} {H : Heap} {d0 : Drawn} (X : Stand p G.1 e Rm (s.setDrawn d0) m args below meth c T locs cells slots) (hT : T.heap = H) (hz : s.heap.size = G.2.1 + n0) (hn : n0 ≤ n) (hc : cells = n - n0) (hP : va_P G.2.2.1 vwCl (wl G h n) H) (hS : va_S (gA G) s.heap H locs) : H.size = G.2.1 + n := by
  have h1 : T.heap.size ≤ s.heap.size + cells := X.same.2.2.1
  rw [hT] at h1
  have h2 : G.2.1 + n ≤ H.size := by
    cases n with
    | zero => have := hS.1; omega
    | succ k =>
      have := (hP k _ (wl_at (Nat.lt_succ_self k))).lt
      have h3 : G.2.1 + k < H.size := this
      omega
  omega
theorem wp_low {s : State} {H H1 : Heap} {locs locs1 : List Loc} {n0 : Nat} (hz : s.heap.size = G.2.1 + n0) (hS : va_S (gA G) s.heap H locs) (hS1 : va_S (gA G) s.heap H1 locs1) : ∀ q, q < G.2.1 → H1[q]? = H[q]? := fun q hq => (hS1.2.1 q (by omega) (Nat.not_le.mpr hq)).trans (hS.2.1 q (by omega) (Nat.not_le.mpr hq)).symm
theorem g_getI_a {ci k j i N : Nat} {C0 : String} {T : u_T} {ty : FieldType} (F : fbI ci j C0 T N ty) (hm : Cond.fieldLink M.1.cls i (T j).1 (T j).2.1 (T j).2.2.1 ∈ Wt) (hL : Lay k = .inl ci) (hk : k < n) (d : decode M.2.1 pc = .ok (.getfield i, 3)) (K : ∀ x : Int32, (h.1 k j) = x → Go G M n1 R h n (pc + 3) ls (.int x :: st)) : Go G M n1 R h n (pc) ls (ga G k :: st) := by
  intro n0 p e s m args below meth c H A locs cells slots d0 C hd hl hw hS ha hb hc hs
  exact va_get C.1 C.2.1 (C.ws d0) F.1.2.1 C.2.2.2.2.1 hw.2.2.1 hw.2.1 k (wl_o hk hL) F.1.1 j F.2.1 (C.w d0 hm) (fun _ q => q) (F.2.2.2.2.1 G _ _ _) d (K _ rfl n0 p e s m args below meth c H A locs cells slots d0 C hd hl hw hS ha hb hc hs)
theorem g_getI {ci k j i N : Nat} {C0 : String} {T : u_T} {ty : FieldType} (F : fbI ci j C0 T N ty) (hm : Cond.fieldLink M.1.cls i (T j).1 (T j).2.1 (T j).2.2.1 ∈ Wt) (hL : Lay k = .inl ci) (hk : k < n) (d : decode M.2.1 pc = .ok (.getfield i, 3)) (K : Go G M n1 R h n (pc + 3) ls (.int (h.1 k j) :: st)) : Go G M n1 R h n (pc) ls (ga G k :: st) := by
  intro n0 p e s m args below meth c H A locs cells slots d0 C hd hl hw hS ha hb hc hs
  exact va_get C.1 C.2.1 (C.ws d0) F.1.2.1 C.2.2.2.2.1 hw.2.2.1 hw.2.1 k (wl_o hk hL) F.1.1 j F.2.1 (C.w d0 hm) (fun _ q => q) (F.2.2.2.2.1 G _ _ _) d (K n0 p e s m args below meth c H A locs cells slots d0 C hd hl hw hS ha hb hc hs)
theorem g_getF_a {ci k j i N : Nat} {C0 : String} {T : u_T} (F : fbF ci j C0 T N) (hm : Cond.fieldLink M.1.cls i (T j).1 (T j).2.1 (T j).2.2.1 ∈ Wt) (hL : Lay k = .inl ci) (hk : k < n) (d : decode M.2.1 pc = .ok (.getfield i, 3)) (K : ∀ x : UInt32, (h.2.1 k j) = x → Go G M n1 R h n (pc + 3) ls (.float x :: st)) : Go G M n1 R h n (pc) ls (ga G k :: st) := by
  intro n0 p e s m args below meth c H A locs cells slots d0 C hd hl hw hS ha hb hc hs
  exact va_get C.1 C.2.1 (C.ws d0) F.1.2.1 C.2.2.2.2.1 hw.2.2.1 hw.2.1 k (wl_o hk hL) F.1.1 j F.2.1 (C.w d0 hm) (fun _ q => q) (F.2.2.2.2.1 G _ _ _) d (K _ rfl n0 p e s m args below meth c H A locs cells slots d0 C hd hl hw hS ha hb hc hs)
theorem g_getF {ci k j i N : Nat} {C0 : String} {T : u_T} (F : fbF ci j C0 T N) (hm : Cond.fieldLink M.1.cls i (T j).1 (T j).2.1 (T j).2.2.1 ∈ Wt) (hL : Lay k = .inl ci) (hk : k < n) (d : decode M.2.1 pc = .ok (.getfield i, 3)) (K : Go G M n1 R h n (pc + 3) ls (.float (h.2.1 k j) :: st)) : Go G M n1 R h n (pc) ls (ga G k :: st) := by
  intro n0 p e s m args below meth c H A locs cells slots d0 C hd hl hw hS ha hb hc hs
  exact va_get C.1 C.2.1 (C.ws d0) F.1.2.1 C.2.2.2.2.1 hw.2.2.1 hw.2.1 k (wl_o hk hL) F.1.1 j F.2.1 (C.w d0 hm) (fun _ q => q) (F.2.2.2.2.1 G _ _ _) d (K n0 p e s m args below meth c H A locs cells slots d0 C hd hl hw hS ha hb hc hs)
theorem g_getQ {ci k j i N q : Nat} {C0 : String} {T : u_T} {ty : FieldType} (F : fbQ ci j C0 T N ty) (hm : Cond.fieldLink M.1.cls i (T j).1 (T j).2.1 (T j).2.2.1 ∈ Wt) (hL : Lay k = .inl ci) (hk : k < n) (hq : h.2.2.2 k j = some q) (d : decode M.2.1 pc = .ok (.getfield i, 3)) (K : Go G M n1 R h n (pc + 3) ls (ga G q :: st)) : Go G M n1 R h n (pc) ls (ga G k :: st) := by
  intro n0 p e s m args below meth c H A locs cells slots d0 C hd hl hw hS ha hb hc hs
  exact va_get C.1 C.2.1 (C.ws d0) F.1.2.1 C.2.2.2.2.1 hw.2.2.1 hw.2.1 k (wl_o hk hL) F.1.1 j F.2.1 (C.w d0 hm) (fun _ q => q) ((F.2.2.2.2.1 G _ _ _).trans (by rw [hq]; rfl)) d (K n0 p e s m args below meth c H A locs cells slots d0 C hd hl hw hS ha hb hc hs)
theorem g_putI {ci k j i N : Nat} {C0 : String} {T : u_T} {ty : FieldType} {x : Int32} (F : fbI ci j C0 T N ty) (hm : Cond.fieldLink M.1.cls i (T j).1 (T j).2.1 (T j).2.2.1 ∈ Wt) (hL : Lay k = .inl ci) (hk : k < n) (hx : narrow ty (.int x) = .int x) (hx2 : fits ty (.int x) = true) (d : decode M.2.1 pc = .ok (.putfield i, 3)) (K : Go G M n1 R (wI h k j x) n (pc + 3) ls (st)) : Go G M n1 R h n (pc) ls (.int x :: ga G k :: st) := by
  intro n0 p e s m args below meth c H A locs cells slots d0 C hd hl hw hS ha hb hc hs
  obtain ⟨ty0, hty, -⟩ := F.1.2.2.1
  refine va_put C.1 C.2.1 (C.ws d0) F.1.2.1 ty0 hty F.1.2.2.2.1 C.2.2.2.2.1 hw.2.2.1 hw.2.1 wl_D hS k (wl_o hk hL) F.1.1 j F.2.1 (C.w d0 hm) (fun _ q => q) F.2.2.1 F.2.2.2.1 hx hx2 (flr_len (F.2.2.2.2.1 G _ _ _)) d (fun H1 locs1 hP1 hD1 hS1 => ?_)
  rw [wl_set (h' := wI h k j x) hk (by rw [ent_o hL, wI_s, F.2.2.2.2.2]; rfl) (fun _ q => wI_o q)] at hP1
  intro T1 hT1 X
  exact K n0 p e s m args below meth c H1 A locs1 cells slots d0 C hd hl (hw.put (wp_size X hT1 C.2.2.2.2.2.2.2.2 ha hc hP1 hS1) hP1 (wp_low C.2.2.2.2.2.2.2.2 hS hS1)) hS1 ha hb hc hs T1 hT1 X
theorem g_putF {ci k j i N : Nat} {C0 : String} {T : u_T} {x : UInt32} (F : fbF ci j C0 T N) (hm : Cond.fieldLink M.1.cls i (T j).1 (T j).2.1 (T j).2.2.1 ∈ Wt) (hL : Lay k = .inl ci) (hk : k < n) (d : decode M.2.1 pc = .ok (.putfield i, 3)) (K : Go G M n1 R (wF h k j x) n (pc + 3) ls (st)) : Go G M n1 R h n (pc) ls (.float x :: ga G k :: st) := by
  intro n0 p e s m args below meth c H A locs cells slots d0 C hd hl hw hS ha hb hc hs
  obtain ⟨ty0, hty, -⟩ := F.1.2.2.1
  refine va_put C.1 C.2.1 (C.ws d0) F.1.2.1 ty0 hty F.1.2.2.2.1 C.2.2.2.2.1 hw.2.2.1 hw.2.1 wl_D hS k (wl_o hk hL) F.1.1 j F.2.1 (C.w d0 hm) (fun _ q => q) F.2.2.1 F.2.2.2.1 rfl rfl (flr_len (F.2.2.2.2.1 G _ _ _)) d (fun H1 locs1 hP1 hD1 hS1 => ?_)
  rw [wl_set (h' := wF h k j x) hk (by rw [ent_o hL, wF_s, F.2.2.2.2.2]; rfl) (fun _ q => wF_o q)] at hP1
  intro T1 hT1 X
  exact K n0 p e s m args below meth c H1 A locs1 cells slots d0 C hd hl (hw.put (wp_size X hT1 C.2.2.2.2.2.2.2.2 ha hc hP1 hS1) hP1 (wp_low C.2.2.2.2.2.2.2.2 hS hS1)) hS1 ha hb hc hs T1 hT1 X
theorem g_putQ {ci k j i N x : Nat} {C0 : String} {T : u_T} {ty : FieldType} (F : fbQ ci j C0 T N ty) (hini : M.1.name = "<init>") (hcls : C0 = M.1.cls) (hm : Cond.fieldLink M.1.cls i (T j).1 (T j).2.1 (T j).2.2.1 ∈ Wt) (hL : Lay k = .inl ci) (hk : k < n) (d : decode M.2.1 pc = .ok (.putfield i, 3)) (K : Go G M n1 R (wQ h k j (some x)) n (pc + 3) ls (st)) : Go G M n1 R h n (pc) ls (ga G x :: ga G k :: st) := by
  intro n0 p e s m args below meth c H A locs cells slots d0 C hd hl hw hS ha hb hc hs
  obtain ⟨ty0, hty, -⟩ := F.1.2.2.1
  refine va_putF C.1 C.2.1 (C.ws d0) F.1.2.1 ty0 hty F.1.2.2.2.1 C.2.2.2.2.1 hw.2.2.1 hw.2.1 wl_D hS k (wl_o hk hL) F.1.1 j F.2.1 (C.w d0 hm) (fun _ q => q) F.2.2.1 (C.2.2.2.2.2.2.2.1.trans hini) (F.2.2.2.2.2.2.2.trans hcls) F.2.2.2.1 (F.2.2.2.2.2.2.1 _).1 (F.2.2.2.2.2.2.1 _).2 (flr_len (F.2.2.2.2.1 G _ _ _)) d (fun H1 locs1 hP1 hD1 hS1 => ?_)
  rw [wl_set (h' := wQ h k j (some x)) hk (by rw [ent_o hL, wQ_s, F.2.2.2.2.2.1]; rfl) (fun _ q => wQ_o q)] at hP1
  intro T1 hT1 X
  exact K n0 p e s m args below meth c H1 A locs1 cells slots d0 C hd hl (hw.put (wp_size X hT1 C.2.2.2.2.2.2.2.2 ha hc hP1 hS1) hP1 (wp_low C.2.2.2.2.2.2.2.2 hS hS1)) hS1 ha hb hc hs T1 hT1 X
theorem vin {x : Int32} {j w : Nat} (hx : x = nI j) (hj : j < w) (hw : w < 100000) : vp_in x w ∧ x.toNatClampNeg = j := by
  subst hx
  exact ⟨vp_in_nI hj (by omega), nI_clamp (by omega)⟩
def lpr (x : Nat ⊕ (Nat × Nat)) : Prop := ∀ t w, x = .inr (t, w) → w < 100000
theorem lpr_if {c : Prop} [Decidable c] {a b : Nat ⊕ (Nat × Nat)} (ha : lpr a) (hb : lpr b) : lpr (if c then a else b) := by
  by_cases h : c
  · rw [if_pos h]; exact ha
  · rw [if_neg h]; exact hb
theorem lpr_l (i : Nat) : lpr (.inl i) := fun _ _ h => by cases h
theorem lpr_r (t w : Nat) (hw : w < 100000) : lpr (.inr (t, w)) := fun _ _ h => by cases h; exact hw
theorem lpr_SL (o : Nat) : lpr (SL o) := lpr_if (lpr_l _) (lpr_if (lpr_l _) (lpr_if (lpr_r _ _ (by decide)) (lpr_if (lpr_l _) (lpr_if (lpr_r _ _ (by decide)) (lpr_if (lpr_l _) (lpr_if (lpr_l _) (lpr_if (lpr_r _ _ (by decide)) (lpr_if (lpr_l _) (lpr_if (lpr_l _) (lpr_r _ _ (by decide)))))))))))
theorem lpr_Lay (a : Nat) : lpr (Lay a) := lpr_if (lpr_l _) (lpr_if (lpr_SL _) (lpr_if (lpr_l _) (lpr_if (lpr_r _ _ (by decide)) (lpr_if (lpr_SL _) (lpr_if (lpr_l _) (lpr_if (lpr_r _ _ (by decide)) (lpr_if (lpr_r _ _ (by decide)) (lpr_if (lpr_r _ _ (by decide)) (lpr_if (lpr_r _ _ (by decide)) (lpr_if (lpr_r _ _ (by decide)) (lpr_if (lpr_r _ _ (by decide)) (lpr_if (lpr_r _ _ (by decide)) (lpr_r _ _ (by decide))))))))))))))
theorem lay_lt {k t w : Nat} (hL : Lay k = .inr (t, w)) : w < 100000 := lpr_Lay k t w hL
theorem g_iald {k j w : Nat} {x : Int32} (hL : Lay k = .inr (0, w)) (hk : k < n) (hx : x = nI j) (hj : j < w) (d : decode M.2.1 pc = .ok (.iaload, 1)) (K : Go G M n1 R h n (pc + 1) ls (.int (h.1 k j) :: st)) : Go G M n1 R h n (pc) ls (.int x :: ga G k :: st) := by
  intro n0 p e s m args below meth c H A locs cells slots d0 C hd hl hw hS ha hb hc hs
  obtain ⟨v1, v2⟩ := vin hx hj (lay_lt hL)
  refine va_iald (s := s.setDrawn d0) C.1 C.2.1 hw.2.2.1 hw.2.1 k 0 (wl_a hk hL) rfl v1 d ?_
  rw [v2]
  exact K n0 p e s m args below meth c H A locs cells slots d0 C hd hl hw hS ha hb hc hs
theorem g_dald {k j w : Nat} {x : Int32} (hL : Lay k = .inr (2, w)) (hk : k < n) (hx : x = nI j) (hj : j < w) (d : decode M.2.1 pc = .ok (.daload, 1)) (K : Go G M n1 R h n (pc + 1) ls (.double (h.2.2.1 k j) :: st)) : Go G M n1 R h n (pc) ls (.int x :: ga G k :: st) := by
  intro n0 p e s m args below meth c H A locs cells slots d0 C hd hl hw hS ha hb hc hs
  obtain ⟨v1, v2⟩ := vin hx hj (lay_lt hL)
  refine va_dald (s := s.setDrawn d0) C.1 C.2.1 hw.2.2.1 hw.2.1 k 2 (wl_a hk hL) rfl v1 d ?_
  rw [v2]
  exact K n0 p e s m args below meth c H A locs cells slots d0 C hd hl hw hS ha hb hc hs
theorem g_qald3 {k j w q : Nat} {x : Int32} (hL : Lay k = .inr (3, w)) (hk : k < n) (hx : x = nI j) (hj : j < w) (hq : h.2.2.2 k j = some q) (d : decode M.2.1 pc = .ok (.aaload, 1)) (K : Go G M n1 R h n (pc + 1) ls (ga G q :: st)) : Go G M n1 R h n (pc) ls (.int x :: ga G k :: st) := by
  intro n0 p e s m args below meth c H A locs cells slots d0 C hd hl hw hS ha hb hc hs
  obtain ⟨v1, v2⟩ := vin hx hj (lay_lt hL)
  refine va_aldq (s := s.setDrawn d0) C.1 C.2.1 hw.2.2.1 hw.2.1 k 3 (wl_a hk hL) rfl v1 d ?_
  rw [v2, hq]
  exact K n0 p e s m args below meth c H A locs cells slots d0 C hd hl hw hS ha hb hc hs
theorem g_qald4 {k j w q : Nat} {x : Int32} (hL : Lay k = .inr (4, w)) (hk : k < n) (hx : x = nI j) (hj : j < w) (hq : h.2.2.2 k j = some q) (d : decode M.2.1 pc = .ok (.aaload, 1)) (K : Go G M n1 R h n (pc + 1) ls (ga G q :: st)) : Go G M n1 R h n (pc) ls (.int x :: ga G k :: st) := by
  intro n0 p e s m args below meth c H A locs cells slots d0 C hd hl hw hS ha hb hc hs
  obtain ⟨v1, v2⟩ := vin hx hj (lay_lt hL)
  refine va_aldq (s := s.setDrawn d0) C.1 C.2.1 hw.2.2.1 hw.2.1 k 4 (wl_a hk hL) rfl v1 d ?_
  rw [v2, hq]
  exact K n0 p e s m args below meth c H A locs cells slots d0 C hd hl hw hS ha hb hc hs
theorem g_qald5 {k j w q : Nat} {x : Int32} (hL : Lay k = .inr (5, w)) (hk : k < n) (hx : x = nI j) (hj : j < w) (hq : h.2.2.2 k j = some q) (d : decode M.2.1 pc = .ok (.aaload, 1)) (K : Go G M n1 R h n (pc + 1) ls (ga G q :: st)) : Go G M n1 R h n (pc) ls (.int x :: ga G k :: st) := by
  intro n0 p e s m args below meth c H A locs cells slots d0 C hd hl hw hS ha hb hc hs
  obtain ⟨v1, v2⟩ := vin hx hj (lay_lt hL)
  refine va_aldq (s := s.setDrawn d0) C.1 C.2.1 hw.2.2.1 hw.2.1 k 5 (wl_a hk hL) rfl v1 d ?_
  rw [v2, hq]
  exact K n0 p e s m args below meth c H A locs cells slots d0 C hd hl hw hS ha hb hc hs
theorem g_qald6 {k j w q : Nat} {x : Int32} (hL : Lay k = .inr (6, w)) (hk : k < n) (hx : x = nI j) (hj : j < w) (hq : h.2.2.2 k j = some q) (d : decode M.2.1 pc = .ok (.aaload, 1)) (K : Go G M n1 R h n (pc + 1) ls (ga G q :: st)) : Go G M n1 R h n (pc) ls (.int x :: ga G k :: st) := by
  intro n0 p e s m args below meth c H A locs cells slots d0 C hd hl hw hS ha hb hc hs
  obtain ⟨v1, v2⟩ := vin hx hj (lay_lt hL)
  refine va_aldq (s := s.setDrawn d0) C.1 C.2.1 hw.2.2.1 hw.2.1 k 6 (wl_a hk hL) rfl v1 d ?_
  rw [v2, hq]
  exact K n0 p e s m args below meth c H A locs cells slots d0 C hd hl hw hS ha hb hc hs
theorem g_iast {k j w : Nat} {x v : Int32} (hL : Lay k = .inr (0, w)) (hk : k < n) (hx : x = nI j) (hj : j < w) (d : decode M.2.1 pc = .ok (.iastore, 1)) (K : Go G M n1 R (wI h k j v) n (pc + 1) ls (st)) : Go G M n1 R h n (pc) ls (.int v :: .int x :: ga G k :: st) := by
  intro n0 p e s m args below meth c H A locs cells slots d0 C hd hl hw hS ha hb hc hs
  obtain ⟨v1, v2⟩ := vin hx hj (lay_lt hL)
  refine va_iast (s := s.setDrawn d0) C.1 C.2.1 hw.2.2.1 hw.2.1 wl_D hS k 0 (wl_a hk hL) rfl v1 d (fun H1 locs1 hP1 hD1 hS1 => ?_)
  rw [v2, wl_set (h' := wI h k j v) hk (by rw [ent_a hL, wI_s]; rfl) (fun _ q => wI_o q)] at hP1
  intro T1 hT1 X
  exact K n0 p e s m args below meth c H1 A locs1 cells slots d0 C hd hl (hw.put (wp_size X hT1 C.2.2.2.2.2.2.2.2 ha hc hP1 hS1) hP1 (wp_low C.2.2.2.2.2.2.2.2 hS hS1)) hS1 ha hb hc hs T1 hT1 X
theorem g_dast {k j w : Nat} {x : Int32} {v : UInt64} (hL : Lay k = .inr (2, w)) (hk : k < n) (hx : x = nI j) (hj : j < w) (d : decode M.2.1 pc = .ok (.dastore, 1)) (K : Go G M n1 R (wD h k j v) n (pc + 1) ls (st)) : Go G M n1 R h n (pc) ls (.double v :: .int x :: ga G k :: st) := by
  intro n0 p e s m args below meth c H A locs cells slots d0 C hd hl hw hS ha hb hc hs
  obtain ⟨v1, v2⟩ := vin hx hj (lay_lt hL)
  refine va_dast (s := s.setDrawn d0) C.1 C.2.1 hw.2.2.1 hw.2.1 wl_D hS k 2 (wl_a hk hL) rfl v1 d (fun H1 locs1 hP1 hD1 hS1 => ?_)
  rw [v2, wl_set (h' := wD h k j v) hk (by rw [ent_a hL, wD_s]; rfl) (fun _ q => wD_o q)] at hP1
  intro T1 hT1 X
  exact K n0 p e s m args below meth c H1 A locs1 cells slots d0 C hd hl (hw.put (wp_size X hT1 C.2.2.2.2.2.2.2.2 ha hc hP1 hS1) hP1 (wp_low C.2.2.2.2.2.2.2.2 hS hS1)) hS1 ha hb hc hs T1 hT1 X
theorem g_qast3 {k j w q : Nat} {x : Int32} (hL : Lay k = .inr (3, w)) (hk : k < n) (hx : x = nI j) (hj : j < w) (hq : Lay q = .inl 2) (hqn : q < n) (d : decode M.2.1 pc = .ok (.aastore, 1)) (K : Go G M n1 R (wQ h k j (some q)) n (pc + 1) ls (st)) : Go G M n1 R h n (pc) ls (ga G q :: .int x :: ga G k :: st) := by
  intro n0 p e s m args below meth c H A locs cells slots d0 C hd hl hw hS ha hb hc hs
  obtain ⟨v1, v2⟩ := vin hx hj (lay_lt hL)
  refine va_astq (r := (RX2, TX2, 8)) (s := s.setDrawn d0) C.1 C.2.1 hw.2.2.1 hw.2.1 wl_D hS k 3 q 2 (wl_a hk hL) rfl (wl_o hqn hq) rfl v1 d (fun H1 locs1 hP1 hD1 hS1 => ?_)
  rw [v2, wl_set (h' := wQ h k j (some q)) hk (by rw [ent_a hL, wQ_s]; exact congrArg (fun f => Sum.inl (_, _, f)) (congrArg (fun f => Sum.inr (Sum.inr (Sum.inr (Sum.inr f)))) (funext fun i => by unfold va_up; split <;> rfl))) (fun _ q => wQ_o q)] at hP1
  intro T1 hT1 X
  exact K n0 p e s m args below meth c H1 A locs1 cells slots d0 C hd hl (hw.put (wp_size X hT1 C.2.2.2.2.2.2.2.2 ha hc hP1 hS1) hP1 (wp_low C.2.2.2.2.2.2.2.2 hS hS1)) hS1 ha hb hc hs T1 hT1 X
theorem g_qast4 {k j w q : Nat} {x : Int32} (hL : Lay k = .inr (4, w)) (hk : k < n) (hx : x = nI j) (hj : j < w) (hq : Lay q = .inl 0) (hqn : q < n) (d : decode M.2.1 pc = .ok (.aastore, 1)) (K : Go G M n1 R (wQ h k j (some q)) n (pc + 1) ls (st)) : Go G M n1 R h n (pc) ls (ga G q :: .int x :: ga G k :: st) := by
  intro n0 p e s m args below meth c H A locs cells slots d0 C hd hl hw hS ha hb hc hs
  obtain ⟨v1, v2⟩ := vin hx hj (lay_lt hL)
  refine va_astq (r := (RX0, TX0, 7)) (s := s.setDrawn d0) C.1 C.2.1 hw.2.2.1 hw.2.1 wl_D hS k 4 q 0 (wl_a hk hL) rfl (wl_o hqn hq) rfl v1 d (fun H1 locs1 hP1 hD1 hS1 => ?_)
  rw [v2, wl_set (h' := wQ h k j (some q)) hk (by rw [ent_a hL, wQ_s]; exact congrArg (fun f => Sum.inl (_, _, f)) (congrArg (fun f => Sum.inr (Sum.inr (Sum.inr (Sum.inr f)))) (funext fun i => by unfold va_up; split <;> rfl))) (fun _ q => wQ_o q)] at hP1
  intro T1 hT1 X
  exact K n0 p e s m args below meth c H1 A locs1 cells slots d0 C hd hl (hw.put (wp_size X hT1 C.2.2.2.2.2.2.2.2 ha hc hP1 hS1) hP1 (wp_low C.2.2.2.2.2.2.2.2 hS hS1)) hS1 ha hb hc hs T1 hT1 X
theorem g_qast5 {k j w q : Nat} {x : Int32} (hL : Lay k = .inr (5, w)) (hk : k < n) (hx : x = nI j) (hj : j < w) (hq : Lay q = .inl 3) (hqn : q < n) (d : decode M.2.1 pc = .ok (.aastore, 1)) (K : Go G M n1 R (wQ h k j (some q)) n (pc + 1) ls (st)) : Go G M n1 R h n (pc) ls (ga G q :: .int x :: ga G k :: st) := by
  intro n0 p e s m args below meth c H A locs cells slots d0 C hd hl hw hS ha hb hc hs
  obtain ⟨v1, v2⟩ := vin hx hj (lay_lt hL)
  refine va_astq (r := (RX3, TX3, 13)) (s := s.setDrawn d0) C.1 C.2.1 hw.2.2.1 hw.2.1 wl_D hS k 5 q 3 (wl_a hk hL) rfl (wl_o hqn hq) rfl v1 d (fun H1 locs1 hP1 hD1 hS1 => ?_)
  rw [v2, wl_set (h' := wQ h k j (some q)) hk (by rw [ent_a hL, wQ_s]; exact congrArg (fun f => Sum.inl (_, _, f)) (congrArg (fun f => Sum.inr (Sum.inr (Sum.inr (Sum.inr f)))) (funext fun i => by unfold va_up; split <;> rfl))) (fun _ q => wQ_o q)] at hP1
  intro T1 hT1 X
  exact K n0 p e s m args below meth c H1 A locs1 cells slots d0 C hd hl (hw.put (wp_size X hT1 C.2.2.2.2.2.2.2.2 ha hc hP1 hS1) hP1 (wp_low C.2.2.2.2.2.2.2.2 hS hS1)) hS1 ha hb hc hs T1 hT1 X
theorem g_qast6 {k j w q : Nat} {x : Int32} (hL : Lay k = .inr (6, w)) (hk : k < n) (hx : x = nI j) (hj : j < w) (hq : Lay q = .inl 6) (hqn : q < n) (d : decode M.2.1 pc = .ok (.aastore, 1)) (K : Go G M n1 R (wQ h k j (some q)) n (pc + 1) ls (st)) : Go G M n1 R h n (pc) ls (ga G q :: .int x :: ga G k :: st) := by
  intro n0 p e s m args below meth c H A locs cells slots d0 C hd hl hw hS ha hb hc hs
  obtain ⟨v1, v2⟩ := vin hx hj (lay_lt hL)
  refine va_astq (r := (RX6, TX6, 12)) (s := s.setDrawn d0) C.1 C.2.1 hw.2.2.1 hw.2.1 wl_D hS k 6 q 6 (wl_a hk hL) rfl (wl_o hqn hq) rfl v1 d (fun H1 locs1 hP1 hD1 hS1 => ?_)
  rw [v2, wl_set (h' := wQ h k j (some q)) hk (by rw [ent_a hL, wQ_s]; exact congrArg (fun f => Sum.inl (_, _, f)) (congrArg (fun f => Sum.inr (Sum.inr (Sum.inr (Sum.inr f)))) (funext fun i => by unfold va_up; split <;> rfl))) (fun _ q => wQ_o q)] at hP1
  intro T1 hT1 X
  exact K n0 p e s m args below meth c H1 A locs1 cells slots d0 C hd hl (hw.put (wp_size X hT1 C.2.2.2.2.2.2.2.2 ha hc hP1 hS1) hP1 (wp_low C.2.2.2.2.2.2.2.2 hS hS1)) hS1 ha hb hc hs T1 hT1 X
theorem g_alen {k t w : Nat} {v : Int32} (hL : Lay k = .inr (t, w)) (hk : k < n) (ht : t < 7) (hv : nI w = v) (d : decode M.2.1 pc = .ok (.arraylength, 1)) (K : Go G M n1 R h n (pc + 1) ls (.int v :: st)) : Go G M n1 R h n (pc) ls (ga G k :: st) := by
  intro n0 p e s m args below meth c H A locs cells slots d0 C hd hl hw hS ha hb hc hs
  obtain ⟨q, hq⟩ : ∃ q, (gtys G)[t]? = some (G.2.2.2.1 t, q) := by
    match t, ht with
    | 0, _ => exact ⟨_, rfl⟩
    | 1, _ => exact ⟨_, rfl⟩
    | 2, _ => exact ⟨_, rfl⟩
    | 3, _ => exact ⟨_, rfl⟩
    | 4, _ => exact ⟨_, rfl⟩
    | 5, _ => exact ⟨_, rfl⟩
    | 6, _ => exact ⟨_, rfl⟩
  exact va_alen (s := s.setDrawn d0) C.1 C.2.1 hw.2.2.1 hw.2.1 k t (wl_a hk hL) hq hv d (K n0 p e s m args below meth c H A locs cells slots d0 C hd hl hw hS ha hb hc hs)
theorem g_sld {j : Nat} {x : Int32} (hx : x = nI j) (hj : j < G.2.2.2.2.2.1) (hw9 : G.2.2.2.2.2.1 < 100000) (d : decode M.2.1 pc = .ok (.iaload, 1)) (K : Go G M n1 R h n (pc + 1) ls (.int (G.2.2.2.2.2.2 j) :: st)) : Go G M n1 R h n (pc) ls (.int x :: .ref G.2.2.2.2.1 :: st) := by
  intro n0 p e s m args below meth c H A locs cells slots d0 C hd hl hw hS ha hb hc hs
  obtain ⟨v1, v2⟩ := vin hx hj hw9
  refine va_sld (s := s.setDrawn d0) (A := gA G) (H0 := H) (locs := locs) C.1 C.2.1 hw.2.2.2.2.1 (by have := hw.1; have := hw.2.2.2.2.2; omega) (Nat.not_le.mpr hw.2.2.2.2.2) ⟨Nat.le_refl _, fun _ _ _ => rfl, hS.2.2⟩ v1 d ?_
  rw [v2]
  exact K n0 p e s m args below meth c H A locs cells slots d0 C hd hl hw hS ha hb hc hs
theorem g_slen (d : decode M.2.1 pc = .ok (.arraylength, 1)) (K : Go G M n1 R h n (pc + 1) ls (.int (nI G.2.2.2.2.2.1) :: st)) : Go G M n1 R h n (pc) ls (.ref G.2.2.2.2.1 :: st) := by
  intro n0 p e s m args below meth c H A locs cells slots d0 C hd hl hw hS ha hb hc hs
  exact va_slen (s := s.setDrawn d0) (A := gA G) (H0 := H) (locs := locs) C.1 C.2.1 hw.2.2.2.2.1 (by have := hw.1; have := hw.2.2.2.2.2; omega) (Nat.not_le.mpr hw.2.2.2.2.2) ⟨Nat.le_refl _, fun _ _ _ => rfl, hS.2.2⟩ d (K n0 p e s m args below meth c H A locs cells slots d0 C hd hl hw hS ha hb hc hs)
theorem new_at {ws : va_W} {n : Nat} {q : Nat} {e : va_E} {H1 : Heap} (hws : ws = wl G h n) (hP1 : va_P G.2.2.1 vwCl (ws ++ [(q, e)]) H1) (hD1 : va_D (gA G) (ws ++ [(q, e)])) (hz : H1.size ≤ G.2.1 + (n + 1)) : q = G.2.1 + n := by
  subst hws
  have hlen : (wl G h n).length = n := by simp [wl]
  have hq : (wl G h n ++ [(q, e)])[n]? = some (q, e) := by rw [List.getElem?_append_right (by omega), hlen, Nat.sub_self]; rfl
  have h1 : G.2.1 ≤ q := hD1.2 n _ hq
  have h2 : q < H1.size := (hP1 n _ hq).lt
  rcases Nat.lt_or_ge q (G.2.1 + n) with h3 | h3
  · exfalso
    have hk : q - G.2.1 < n := by omega
    have hk2 : (wl G h n ++ [(q, e)])[q - G.2.1]? = some (G.2.1 + (q - G.2.1), ent G h (q - G.2.1)) := by rw [List.getElem?_append_left (by omega)]; exact wl_at hk
    have := hD1.1 n (q - G.2.1) _ _ hq hk2 (by show q = G.2.1 + (q - G.2.1); omega)
    omega
  · omega
theorem stand_up {p : Program} {e : Env} {Rm : Room} {s : State} {m : MethodId} {args : Array Value} {below : List Frame} {meth : Method} {c : Code} {T : State} {locs : List Loc} {n0 cells slots : Nat} {H : Heap} {d0 : Drawn} (X : Stand p G.1 e Rm (s.setDrawn d0) m args below meth c T locs cells slots) (hT : T.heap = H) (hz : s.heap.size = G.2.1 + n0) (hn : n0 ≤ n) (hc : cells = n - n0) : H.size ≤ G.2.1 + n := by
  have h1 : T.heap.size ≤ s.heap.size + cells := X.same.2.2.1
  rw [hT] at h1
  omega
theorem g_new {ci i N : Nat} {C0 : String} {T : u_T} (F : cb ci C0 T N) (hm : Cond.classLink M.1.cls i C0 ∈ Wt) (hm2 : Cond.instantiable C0 N ∈ Wt) (hm3 : Cond.initialized C0 ∈ Wt) (hL : Lay n = .inl ci) (hn : n + 1 ≤ n1) (d : decode M.2.1 pc = .ok (.new i, 3)) (K : Go G M n1 R (wN h n) (n + 1) (pc + 3) ls (ga G n :: st)) : Go G M n1 R h n (pc) ls (st) := by
  intro n0 p e s m args below meth c H A locs cells slots d0 C hd hl hw hS ha hb hc hs
  obtain ⟨ty0, hty, hdf⟩ := F.2.2.1
  have hcs := F.2.2.2.2 n hL
  have hsl : sl (n + 1) = sl n + N := by show sl n + csz n = _; rw [hcs]
  have m1 := sl_mono (show n + 1 ≤ n1 from hn)
  have m2 := sl_mono (show n0 ≤ n from ha)
  refine va_new (s := s.setDrawn d0) C.1 C.2.1 (C.ws d0) F.2.1 ty0 hty C.2.2.2.2.1 (C.w d0 hm) (C.w d0 hm2) (C.w d0 hm3) hw.2.2.1 hw.2.1 wl_D hS (fun q hq => by show G.2.1 ≤ q; have : (s.setDrawn d0).heap.size = G.2.1 + n0 := C.2.2.2.2.2.2.2.2; have hq2 : s.heap.size ≤ q := hq; have := C.2.2.2.2.2.2.2.2; omega) F.1 (fun j hj => hdf G j hj) (by show cells + 1 ≤ n1 - n0; omega) (by show slots + N ≤ sl n1 - sl n0; omega) d (fun q H1 hP1 hD1 hS1 => ?_)
  intro T1 hT1 X
  have hq := new_at (G := G) (h := h) rfl hP1 hD1 (stand_up X hT1 C.2.2.2.2.2.2.2.2 (n := n + 1) (by omega) (by omega))
  subst hq
  rw [wl_push (h' := wN h n) (by rw [ent_o hL]; obtain ⟨a1, a2, a3, a4⟩ := wN_s (h := h) (a := n); rw [a1, a2, a4]) (fun q hq => wN_o (Nat.ne_of_lt hq))] at hP1
  exact K n0 p e s m args below meth c H1 A locs (cells + 1) (slots + N) d0 C hd hl (hw.put (wp_size X hT1 C.2.2.2.2.2.2.2.2 (by omega) (by omega) hP1 hS1) hP1 (wp_low C.2.2.2.2.2.2.2.2 hS hS1)) hS1 (by omega) hn (by omega) (by omega) T1 hT1 X
theorem g_newa_int {w : Nat} {x : Int32} (hm : Cond.arrayClass .int ∈ Wt) (hL : Lay n = .inr (0, w)) (hx : x = nI w) (hn : n + 1 ≤ n1) (d : decode M.2.1 pc = .ok (.newarray .int, 2)) (K : Go G M n1 R (wN h n) (n + 1) (pc + 2) ls (ga G n :: st)) : Go G M n1 R h n (pc) ls (.int x :: st) := by
  intro n0 p e s m args below meth c H A locs cells slots d0 C hd hl hw hS ha hb hc hs
  have hw9 := lay_lt hL
  have hsl : sl (n + 1) = sl n + w := by show sl n + csz n = _; simp only [csz, hL]
  have m1 := sl_mono (show n + 1 ≤ n1 from hn)
  have m2 := sl_mono (show n0 ≤ n from ha)
  refine va_newa (s := s.setDrawn d0) (atype := .int) C.1 C.2.1 (C.w d0 hm) (ty := .int) rfl hw.2.2.1 hw.2.1 wl_D hS (fun q hq => by show G.2.1 ≤ q; have hq2 : s.heap.size ≤ q := hq; have := C.2.2.2.2.2.2.2.2; omega) (N' := w) (a0 := (w, .inl (fun _ => 0))) (fun _ => rfl) (by rw [hx]; exact nI_pos (by omega)) (by rw [hx]; exact nI_clamp (by omega)) (by show w * 4 ≤ _; omega) (by show cells + 1 ≤ n1 - n0; omega) (by show slots + w ≤ sl n1 - sl n0; omega) d (fun q cA H1 hK1 hP1 hD1 hS1 => ?_)
  intro T1 hT1 X
  have hq := new_at (G := G) (h := h) rfl hP1 hD1 (stand_up X hT1 C.2.2.2.2.2.2.2.2 (n := n + 1) (by omega) (by omega))
  subst hq
  have hcA : cA = G.2.2.2.1 0 := Option.some.inj ((show s.vm.findClass _ = some cA from (hK1.2 7 (cA, .int) rfl).2).symm.trans (show s.vm.findClass _ = some (G.2.2.2.1 0) from (hw.2.2.1.2 0 (G.2.2.2.1 0, .int) rfl).2))
  subst hcA
  rw [wl_push (h' := wN h n) (by rw [ent_a hL]; obtain ⟨a1, a2, a3, a4⟩ := wN_s (h := h) (a := n); rw [a1, a3, a4]; rfl) (fun q hq => wN_o (Nat.ne_of_lt hq))] at hP1
  exact K n0 p e s m args below meth c H1 A locs (cells + 1) (slots + w) d0 C hd hl (hw.put (wp_size X hT1 C.2.2.2.2.2.2.2.2 (by omega) (by omega) hP1 hS1) hP1 (wp_low C.2.2.2.2.2.2.2.2 hS hS1)) hS1 (by omega) hn (by omega) (by omega) T1 hT1 X
theorem g_newa_char {w : Nat} {x : Int32} (hm : Cond.arrayClass .char ∈ Wt) (hL : Lay n = .inr (1, w)) (hx : x = nI w) (hn : n + 1 ≤ n1) (d : decode M.2.1 pc = .ok (.newarray .char, 2)) (K : Go G M n1 R (wN h n) (n + 1) (pc + 2) ls (ga G n :: st)) : Go G M n1 R h n (pc) ls (.int x :: st) := by
  intro n0 p e s m args below meth c H A locs cells slots d0 C hd hl hw hS ha hb hc hs
  have hw9 := lay_lt hL
  have hsl : sl (n + 1) = sl n + w := by show sl n + csz n = _; simp only [csz, hL]
  have m1 := sl_mono (show n + 1 ≤ n1 from hn)
  have m2 := sl_mono (show n0 ≤ n from ha)
  refine va_newa (s := s.setDrawn d0) (atype := .char) C.1 C.2.1 (C.w d0 hm) (ty := .char) rfl hw.2.2.1 hw.2.1 wl_D hS (fun q hq => by show G.2.1 ≤ q; have hq2 : s.heap.size ≤ q := hq; have := C.2.2.2.2.2.2.2.2; omega) (N' := w) (a0 := (w, .inl (fun _ => 0))) (fun _ => rfl) (by rw [hx]; exact nI_pos (by omega)) (by rw [hx]; exact nI_clamp (by omega)) (by show w * 2 ≤ _; omega) (by show cells + 1 ≤ n1 - n0; omega) (by show slots + w ≤ sl n1 - sl n0; omega) d (fun q cA H1 hK1 hP1 hD1 hS1 => ?_)
  intro T1 hT1 X
  have hq := new_at (G := G) (h := h) rfl hP1 hD1 (stand_up X hT1 C.2.2.2.2.2.2.2.2 (n := n + 1) (by omega) (by omega))
  subst hq
  have hcA : cA = G.2.2.2.1 1 := Option.some.inj ((show s.vm.findClass _ = some cA from (hK1.2 7 (cA, .char) rfl).2).symm.trans (show s.vm.findClass _ = some (G.2.2.2.1 1) from (hw.2.2.1.2 1 (G.2.2.2.1 1, .char) rfl).2))
  subst hcA
  rw [wl_push (h' := wN h n) (by rw [ent_a hL]; obtain ⟨a1, a2, a3, a4⟩ := wN_s (h := h) (a := n); rw [a1, a3, a4]; rfl) (fun q hq => wN_o (Nat.ne_of_lt hq))] at hP1
  exact K n0 p e s m args below meth c H1 A locs (cells + 1) (slots + w) d0 C hd hl (hw.put (wp_size X hT1 C.2.2.2.2.2.2.2.2 (by omega) (by omega) hP1 hS1) hP1 (wp_low C.2.2.2.2.2.2.2.2 hS hS1)) hS1 (by omega) hn (by omega) (by omega) T1 hT1 X
theorem g_newa_double {w : Nat} {x : Int32} (hm : Cond.arrayClass .double ∈ Wt) (hL : Lay n = .inr (2, w)) (hx : x = nI w) (hn : n + 1 ≤ n1) (d : decode M.2.1 pc = .ok (.newarray .double, 2)) (K : Go G M n1 R (wN h n) (n + 1) (pc + 2) ls (ga G n :: st)) : Go G M n1 R h n (pc) ls (.int x :: st) := by
  intro n0 p e s m args below meth c H A locs cells slots d0 C hd hl hw hS ha hb hc hs
  have hw9 := lay_lt hL
  have hsl : sl (n + 1) = sl n + w := by show sl n + csz n = _; simp only [csz, hL]
  have m1 := sl_mono (show n + 1 ≤ n1 from hn)
  have m2 := sl_mono (show n0 ≤ n from ha)
  refine va_newa (s := s.setDrawn d0) (atype := .double) C.1 C.2.1 (C.w d0 hm) (ty := .double) rfl hw.2.2.1 hw.2.1 wl_D hS (fun q hq => by show G.2.1 ≤ q; have hq2 : s.heap.size ≤ q := hq; have := C.2.2.2.2.2.2.2.2; omega) (N' := w) (a0 := (w, .inr (.inr (.inr (.inl (fun _ => 0)))))) (fun _ => rfl) (by rw [hx]; exact nI_pos (by omega)) (by rw [hx]; exact nI_clamp (by omega)) (by show w * 8 ≤ _; omega) (by show cells + 1 ≤ n1 - n0; omega) (by show slots + w ≤ sl n1 - sl n0; omega) d (fun q cA H1 hK1 hP1 hD1 hS1 => ?_)
  intro T1 hT1 X
  have hq := new_at (G := G) (h := h) rfl hP1 hD1 (stand_up X hT1 C.2.2.2.2.2.2.2.2 (n := n + 1) (by omega) (by omega))
  subst hq
  have hcA : cA = G.2.2.2.1 2 := Option.some.inj ((show s.vm.findClass _ = some cA from (hK1.2 7 (cA, .double) rfl).2).symm.trans (show s.vm.findClass _ = some (G.2.2.2.1 2) from (hw.2.2.1.2 2 (G.2.2.2.1 2, .double) rfl).2))
  subst hcA
  rw [wl_push (h' := wN h n) (by rw [ent_a hL]; obtain ⟨a1, a2, a3, a4⟩ := wN_s (h := h) (a := n); rw [a1, a3, a4]; rfl) (fun q hq => wN_o (Nat.ne_of_lt hq))] at hP1
  exact K n0 p e s m args below meth c H1 A locs (cells + 1) (slots + w) d0 C hd hl (hw.put (wp_size X hT1 C.2.2.2.2.2.2.2.2 (by omega) (by omega) hP1 hS1) hP1 (wp_low C.2.2.2.2.2.2.2.2 hS hS1)) hS1 (by omega) hn (by omega) (by omega) T1 hT1 X
theorem g_newq3 {w i : Nat} {x : Int32} (hm : Cond.classLink M.1.cls i RX2 ∈ Wt) (hL : Lay n = .inr (3, w)) (hx : x = nI w) (hn : n + 1 ≤ n1) (d : decode M.2.1 pc = .ok (.anewarray i, 3)) (K : Go G M n1 R (wN h n) (n + 1) (pc + 3) ls (ga G n :: st)) : Go G M n1 R h n (pc) ls (.int x :: st) := by
  intro n0 p e s m args below meth c H A locs cells slots d0 C hd hl hw hS ha hb hc hs
  have hw9 := lay_lt hL
  have hsl : sl (n + 1) = sl n + w := by show sl n + csz n = _; simp only [csz, hL]
  have m1 := sl_mono (show n + 1 ≤ n1 from hn)
  have m2 := sl_mono (show n0 ≤ n from ha)
  refine va_newq (s := s.setDrawn d0) C.1 C.2.1 C.2.2.2.2.1 (C.w d0 hm) (va_AO.moved (Vm.Alike.refl _) hw.2.2.2.1.1) hw.2.2.1 hw.2.1 wl_D hS (fun q hq => by show G.2.1 ≤ q; have hq2 : s.heap.size ≤ q := hq; have := C.2.2.2.2.2.2.2.2; omega) (N' := w) (by rw [hx]; exact nI_pos (by omega)) (by rw [hx]; exact nI_clamp (by omega)) (by omega) (by show cells + 1 ≤ n1 - n0; omega) (by show slots + w ≤ sl n1 - sl n0; omega) d (fun q cA H1 hK1 hP1 hD1 hS1 => ?_)
  intro T1 hT1 X
  have hq := new_at (G := G) (h := h) rfl hP1 hD1 (stand_up X hT1 C.2.2.2.2.2.2.2.2 (n := n + 1) (by omega) (by omega))
  subst hq
  have hcA : cA = G.2.2.2.1 3 := by
    obtain ⟨_, _, _, _, _, b1⟩ := (hK1.2 7 (cA, .object RX2) rfl).2
    obtain ⟨_, _, _, _, _, b2⟩ := (hw.2.2.1.2 3 (G.2.2.2.1 3, .object RX2) rfl).2
    exact Option.some.inj (b1.symm.trans b2)
  subst hcA
  rw [wl_push (h' := wN h n) (by rw [ent_a hL]; obtain ⟨a1, a2, a3, a4⟩ := wN_s (h := h) (a := n); rw [a4]; rfl) (fun q hq => wN_o (Nat.ne_of_lt hq))] at hP1
  exact K n0 p e s m args below meth c H1 A locs (cells + 1) (slots + w) d0 C hd hl (hw.put (wp_size X hT1 C.2.2.2.2.2.2.2.2 (by omega) (by omega) hP1 hS1) hP1 (wp_low C.2.2.2.2.2.2.2.2 hS hS1)) hS1 (by omega) hn (by omega) (by omega) T1 hT1 X
theorem g_newq4 {w i : Nat} {x : Int32} (hm : Cond.classLink M.1.cls i RX0 ∈ Wt) (hL : Lay n = .inr (4, w)) (hx : x = nI w) (hn : n + 1 ≤ n1) (d : decode M.2.1 pc = .ok (.anewarray i, 3)) (K : Go G M n1 R (wN h n) (n + 1) (pc + 3) ls (ga G n :: st)) : Go G M n1 R h n (pc) ls (.int x :: st) := by
  intro n0 p e s m args below meth c H A locs cells slots d0 C hd hl hw hS ha hb hc hs
  have hw9 := lay_lt hL
  have hsl : sl (n + 1) = sl n + w := by show sl n + csz n = _; simp only [csz, hL]
  have m1 := sl_mono (show n + 1 ≤ n1 from hn)
  have m2 := sl_mono (show n0 ≤ n from ha)
  refine va_newq (s := s.setDrawn d0) C.1 C.2.1 C.2.2.2.2.1 (C.w d0 hm) (va_AO.moved (Vm.Alike.refl _) hw.2.2.2.1.2.1) hw.2.2.1 hw.2.1 wl_D hS (fun q hq => by show G.2.1 ≤ q; have hq2 : s.heap.size ≤ q := hq; have := C.2.2.2.2.2.2.2.2; omega) (N' := w) (by rw [hx]; exact nI_pos (by omega)) (by rw [hx]; exact nI_clamp (by omega)) (by omega) (by show cells + 1 ≤ n1 - n0; omega) (by show slots + w ≤ sl n1 - sl n0; omega) d (fun q cA H1 hK1 hP1 hD1 hS1 => ?_)
  intro T1 hT1 X
  have hq := new_at (G := G) (h := h) rfl hP1 hD1 (stand_up X hT1 C.2.2.2.2.2.2.2.2 (n := n + 1) (by omega) (by omega))
  subst hq
  have hcA : cA = G.2.2.2.1 4 := by
    obtain ⟨_, _, _, _, _, b1⟩ := (hK1.2 7 (cA, .object RX0) rfl).2
    obtain ⟨_, _, _, _, _, b2⟩ := (hw.2.2.1.2 4 (G.2.2.2.1 4, .object RX0) rfl).2
    exact Option.some.inj (b1.symm.trans b2)
  subst hcA
  rw [wl_push (h' := wN h n) (by rw [ent_a hL]; obtain ⟨a1, a2, a3, a4⟩ := wN_s (h := h) (a := n); rw [a4]; rfl) (fun q hq => wN_o (Nat.ne_of_lt hq))] at hP1
  exact K n0 p e s m args below meth c H1 A locs (cells + 1) (slots + w) d0 C hd hl (hw.put (wp_size X hT1 C.2.2.2.2.2.2.2.2 (by omega) (by omega) hP1 hS1) hP1 (wp_low C.2.2.2.2.2.2.2.2 hS hS1)) hS1 (by omega) hn (by omega) (by omega) T1 hT1 X
theorem g_newq5 {w i : Nat} {x : Int32} (hm : Cond.classLink M.1.cls i RX3 ∈ Wt) (hL : Lay n = .inr (5, w)) (hx : x = nI w) (hn : n + 1 ≤ n1) (d : decode M.2.1 pc = .ok (.anewarray i, 3)) (K : Go G M n1 R (wN h n) (n + 1) (pc + 3) ls (ga G n :: st)) : Go G M n1 R h n (pc) ls (.int x :: st) := by
  intro n0 p e s m args below meth c H A locs cells slots d0 C hd hl hw hS ha hb hc hs
  have hw9 := lay_lt hL
  have hsl : sl (n + 1) = sl n + w := by show sl n + csz n = _; simp only [csz, hL]
  have m1 := sl_mono (show n + 1 ≤ n1 from hn)
  have m2 := sl_mono (show n0 ≤ n from ha)
  refine va_newq (s := s.setDrawn d0) C.1 C.2.1 C.2.2.2.2.1 (C.w d0 hm) (va_AO.moved (Vm.Alike.refl _) hw.2.2.2.1.2.2.1) hw.2.2.1 hw.2.1 wl_D hS (fun q hq => by show G.2.1 ≤ q; have hq2 : s.heap.size ≤ q := hq; have := C.2.2.2.2.2.2.2.2; omega) (N' := w) (by rw [hx]; exact nI_pos (by omega)) (by rw [hx]; exact nI_clamp (by omega)) (by omega) (by show cells + 1 ≤ n1 - n0; omega) (by show slots + w ≤ sl n1 - sl n0; omega) d (fun q cA H1 hK1 hP1 hD1 hS1 => ?_)
  intro T1 hT1 X
  have hq := new_at (G := G) (h := h) rfl hP1 hD1 (stand_up X hT1 C.2.2.2.2.2.2.2.2 (n := n + 1) (by omega) (by omega))
  subst hq
  have hcA : cA = G.2.2.2.1 5 := by
    obtain ⟨_, _, _, _, _, b1⟩ := (hK1.2 7 (cA, .object RX3) rfl).2
    obtain ⟨_, _, _, _, _, b2⟩ := (hw.2.2.1.2 5 (G.2.2.2.1 5, .object RX3) rfl).2
    exact Option.some.inj (b1.symm.trans b2)
  subst hcA
  rw [wl_push (h' := wN h n) (by rw [ent_a hL]; obtain ⟨a1, a2, a3, a4⟩ := wN_s (h := h) (a := n); rw [a4]; rfl) (fun q hq => wN_o (Nat.ne_of_lt hq))] at hP1
  exact K n0 p e s m args below meth c H1 A locs (cells + 1) (slots + w) d0 C hd hl (hw.put (wp_size X hT1 C.2.2.2.2.2.2.2.2 (by omega) (by omega) hP1 hS1) hP1 (wp_low C.2.2.2.2.2.2.2.2 hS hS1)) hS1 (by omega) hn (by omega) (by omega) T1 hT1 X
theorem g_newq6 {w i : Nat} {x : Int32} (hm : Cond.classLink M.1.cls i RX6 ∈ Wt) (hL : Lay n = .inr (6, w)) (hx : x = nI w) (hn : n + 1 ≤ n1) (d : decode M.2.1 pc = .ok (.anewarray i, 3)) (K : Go G M n1 R (wN h n) (n + 1) (pc + 3) ls (ga G n :: st)) : Go G M n1 R h n (pc) ls (.int x :: st) := by
  intro n0 p e s m args below meth c H A locs cells slots d0 C hd hl hw hS ha hb hc hs
  have hw9 := lay_lt hL
  have hsl : sl (n + 1) = sl n + w := by show sl n + csz n = _; simp only [csz, hL]
  have m1 := sl_mono (show n + 1 ≤ n1 from hn)
  have m2 := sl_mono (show n0 ≤ n from ha)
  refine va_newq (s := s.setDrawn d0) C.1 C.2.1 C.2.2.2.2.1 (C.w d0 hm) (va_AO.moved (Vm.Alike.refl _) hw.2.2.2.1.2.2.2) hw.2.2.1 hw.2.1 wl_D hS (fun q hq => by show G.2.1 ≤ q; have hq2 : s.heap.size ≤ q := hq; have := C.2.2.2.2.2.2.2.2; omega) (N' := w) (by rw [hx]; exact nI_pos (by omega)) (by rw [hx]; exact nI_clamp (by omega)) (by omega) (by show cells + 1 ≤ n1 - n0; omega) (by show slots + w ≤ sl n1 - sl n0; omega) d (fun q cA H1 hK1 hP1 hD1 hS1 => ?_)
  intro T1 hT1 X
  have hq := new_at (G := G) (h := h) rfl hP1 hD1 (stand_up X hT1 C.2.2.2.2.2.2.2.2 (n := n + 1) (by omega) (by omega))
  subst hq
  have hcA : cA = G.2.2.2.1 6 := by
    obtain ⟨_, _, _, _, _, b1⟩ := (hK1.2 7 (cA, .object RX6) rfl).2
    obtain ⟨_, _, _, _, _, b2⟩ := (hw.2.2.1.2 6 (G.2.2.2.1 6, .object RX6) rfl).2
    exact Option.some.inj (b1.symm.trans b2)
  subst hcA
  rw [wl_push (h' := wN h n) (by rw [ent_a hL]; obtain ⟨a1, a2, a3, a4⟩ := wN_s (h := h) (a := n); rw [a4]; rfl) (fun q hq => wN_o (Nat.ne_of_lt hq))] at hP1
  exact K n0 p e s m args below meth c H1 A locs (cells + 1) (slots + w) d0 C hd hl (hw.put (wp_size X hT1 C.2.2.2.2.2.2.2.2 (by omega) (by omega) hP1 hS1) hP1 (wp_low C.2.2.2.2.2.2.2.2 hS hS1)) hS1 (by omega) hn (by omega) (by omega) T1 hT1 X
theorem g_iret {v : Int32} (hr : M.2.2.2.1 = some .int) (d : decode M.2.1 pc = .ok (.ireturn, 1)) (hR : R (some (.int v)) h) : Go G M n R h n pc ls [.int v] := by
  intro n0 p e s m args below meth c H A locs cells slots d0 C hd hl hw hS ha hb hc hs
  subst hc; subst hs
  refine W.endD hd ?_
  exact W.iret (s := s.setDrawn d0) C.1 C.2.1 (C.2.2.1.trans hr) (fun t ht hW => ⟨⟨_, h, rfl, hR, by rw [ht]; exact (hw.moved (show s.vm.Alike t.vm from hW.alike))⟩, hS.F ht⟩) hS.2.2 d C.2.2.2.2.2.2.1
theorem g_zret {v : Int32} (hv : narrow .boolean (.int v) = .int v) (hr : M.2.2.2.1 = some .boolean) (d : decode M.2.1 pc = .ok (.ireturn, 1)) (hR : R (some (.int v)) h) : Go G M n R h n pc ls [.int v] := by
  intro n0 p e s m args below meth c H A locs cells slots d0 C hd hl hw hS ha hb hc hs
  subst hc; subst hs
  refine W.endD hd ?_
  exact W.zret (s := s.setDrawn d0) C.1 C.2.1 (C.2.2.1.trans hr) hv (fun t ht hW => ⟨⟨_, h, rfl, hR, by rw [ht]; exact (hw.moved (show s.vm.Alike t.vm from hW.alike))⟩, hS.F ht⟩) hS.2.2 d C.2.2.2.2.2.2.1
theorem g_fret {v : UInt32} (hr : M.2.2.2.1 = some .float) (d : decode M.2.1 pc = .ok (.freturn, 1)) (hR : R (some (.float v)) h) : Go G M n R h n pc ls [.float v] := by
  intro n0 p e s m args below meth c H A locs cells slots d0 C hd hl hw hS ha hb hc hs
  subst hc; subst hs
  refine W.endD hd ?_
  exact W.fret (s := s.setDrawn d0) C.1 C.2.1 (C.2.2.1.trans hr) (fun t ht hW => ⟨⟨_, h, rfl, hR, by rw [ht]; exact (hw.moved (show s.vm.Alike t.vm from hW.alike))⟩, hS.F ht⟩) hS.2.2 d C.2.2.2.2.2.2.1
theorem g_vret  (hr : M.2.2.2.1 = none) (d : decode M.2.1 pc = .ok (.return_, 1)) (hR : R (none) h) : Go G M n R h n pc ls [] := by
  intro n0 p e s m args below meth c H A locs cells slots d0 C hd hl hw hS ha hb hc hs
  subst hc; subst hs
  refine W.endD hd ?_
  exact W.vret (s := s.setDrawn d0) C.1 C.2.1 (C.2.2.1.trans hr) (fun t ht hW => ⟨⟨_, h, rfl, hR, by rw [ht]; exact (hw.moved (show s.vm.Alike t.vm from hW.alike))⟩, hS.F ht⟩) hS.2.2 d C.2.2.2.2.2.2.1
theorem g_aret {v : Value} {nm : String} (hv : v = .null ∨ ∃ a, v = .ref a) (hr : M.2.2.2.1 = some (.object nm)) (d : decode M.2.1 pc = .ok (.areturn, 1)) (hR : R (some (v)) h) : Go G M n R h n pc ls [v] := by
  intro n0 p e s m args below meth c H A locs cells slots d0 C hd hl hw hS ha hb hc hs
  subst hc; subst hs
  refine W.endD hd ?_
  exact W.aret (s := s.setDrawn d0) C.1 C.2.1 (C.2.2.1.trans hr) (Or.inl ⟨_, rfl⟩) hv (fun t ht hW => ⟨⟨_, h, rfl, hR, by rw [ht]; exact (hw.moved (show s.vm.Alike t.vm from hW.alike))⟩, hS.F ht⟩) hS.2.2 d C.2.2.2.2.2.2.1
theorem g_objInit {k i : Nat} (hm : Cond.methodLink M.1.cls i objectInit ∈ Wt) (hrm : 1 ≤ M.2.2.2.2.1 ∧ 20 ≤ M.2.2.2.2.2) (hst : (st.map fun v => v.category).sum ≤ 8) (d : decode M.2.1 pc = .ok (.invokespecial i, 3)) (K : Go G M n1 R h n (pc + 3) ls (st)) : Go G M n1 R h n (pc) ls (ga G k :: st) := by
  intro n0 p e s m args below meth c H A locs cells slots d0 C hd hl hw hS ha hb hc hs
  refine W.objInit (s := s.setDrawn d0) C.1 C.2.1 C.2.2.2.2.1 (C.w d0 hm) (C.w d0 (mOI)) (C.w d0 mOC) (g := F0 m pc A (ga G k :: st)) rfl (hl.2.1.trans C.2.2.2.1.symm) rfl d hrm.1 (by show 2 * 0 + _ + 12 ≤ M.2.2.2.2.2; omega) ?_
  exact K n0 p e s m args below meth c H A locs cells slots d0 C hd hl hw hS ha hb hc hs
theorem g_min {i : Nat} {x y : Int32} (hm : Cond.methodLink M.1.cls i Lib.Math.min.name ∈ Wt) (hrm : 1 ≤ M.2.2.2.2.1 ∧ 21 ≤ M.2.2.2.2.2) (hst : (st.map fun v => v.category).sum ≤ 8) (d : decode M.2.1 pc = .ok (.invokestatic i, 3)) (K : Go G M n1 R h n (pc + 3) ls (.int (if y < x then y else x) :: st)) : Go G M n1 R h n (pc) ls (.int y :: .int x :: st) := by
  intro n0 p e s m args below meth c H A locs cells slots d0 C hd hl hw hS ha hb hc hs
  have q1 := sl_mono hb
  have q2 := sl_mono ha
  refine va_mmin (s := s.setDrawn d0) C.1 C.2.1 (C.2.2.2.1.trans hl.2.1.symm) C.2.2.2.2.1 (C.w d0 hm) (C.w d0 mMinS) (C.w d0 mMathI) (C.w d0 mMinC) hrm.1 (by show _ + 13 ≤ M.2.2.2.2.2; omega) (by show cells ≤ n1 - n0; omega) (by show slots ≤ sl n1 - sl n0; omega) d ?_
  exact K n0 p e s m args below meth c H A locs cells slots d0 C hd hl hw hS ha hb hc hs
theorem g_abs {i : Nat} {x : Int32} (hm : Cond.methodLink M.1.cls i Lib.Math.abs.name ∈ Wt) (hrm : 1 ≤ M.2.2.2.2.1 ∧ 21 ≤ M.2.2.2.2.2) (hst : (st.map fun v => v.category).sum ≤ 8) (d : decode M.2.1 pc = .ok (.invokestatic i, 3)) (K : Go G M n1 R h n (pc + 3) ls (.int (if 0 ≤ x then x else 0 - x) :: st)) : Go G M n1 R h n (pc) ls (.int x :: st) := by
  intro n0 p e s m args below meth c H A locs cells slots d0 C hd hl hw hS ha hb hc hs
  have q1 := sl_mono hb
  have q2 := sl_mono ha
  refine va_mabs (s := s.setDrawn d0) C.1 C.2.1 (C.2.2.2.1.trans hl.2.1.symm) C.2.2.2.2.1 (C.w d0 hm) (C.w d0 mAbsS) (C.w d0 mMathI) (C.w d0 mAbsC) hrm.1 (by show _ + 13 ≤ M.2.2.2.2.2; omega) (by show cells ≤ n1 - n0; omega) (by show slots ≤ sl n1 - sl n0; omega) d ?_
  exact K n0 p e s m args below meth c H A locs cells slots d0 C hd hl hw hS ha hb hc hs
theorem g_copy {i k0 k1 w0 w1 w : Nat} (hm : Cond.methodLink M.1.cls i arraycopyName ∈ Wt) (hL0 : Lay k0 = .inr (0, w0)) (hk0 : k0 < n) (hL1 : Lay k1 = .inr (0, w1)) (hk1 : k1 < n) (h0 : w ≤ w0) (h1 : w ≤ w1) (hw1 : w < 100000) (hrm : 1 ≤ M.2.2.2.2.1 ∧ 8 + (nativeFrameWords "java/lang/System" "arraycopy" 5 + 11) ≤ M.2.2.2.2.2) (hst : (st.map fun v => v.category).sum ≤ 8) (d : decode M.2.1 pc = .ok (.invokestatic i, 3)) (K : Go G M n1 R (wR h k1 (va_cpy (h.1 k0) (h.1 k1) 0 0 w)) n (pc + 3) ls (st)) : Go G M n1 R h n (pc) ls (.int (nI w) :: .int 0 :: ga G k1 :: .int 0 :: ga G k0 :: st) := by
  intro n0 p e s m args below meth c H A locs cells slots d0 C hd hl hw hS ha hb hc hs
  have e1 : (nI w).toNatClampNeg = w := nI_clamp (by omega)
  have e0 : (0 : Int32).toNatClampNeg = 0 := rfl
  refine va_copyi (s := s.setDrawn d0) C.1 C.2.1 (C.2.2.2.1.trans hl.2.1.symm) C.2.2.2.2.1 (C.w d0 hm) (C.w d0 mCpN) (C.w d0 mCpS) (C.w d0 mSysI) hw.2.2.1 hw.2.1 wl_D hS k0 k1 0 0 (wl_a hk0 hL0) (wl_a hk1 hL1) (ty := .int) rfl rfl rfl (by decide) (by decide) (nI_pos (by omega)) (by rw [e0, e1]; omega) (by rw [e0, e1]; omega) (fun _ _ => rfl) hrm.1 (by show _ + _ ≤ M.2.2.2.2.2; omega) d (fun H1 locs1 hP1 hD1 hS1 => ?_)
  rw [e0, e1, wl_set (h' := wR h k1 (va_cpy (h.1 k0) (h.1 k1) 0 0 w)) hk1 (by rw [ent_a hL1, wR_s]; rfl) (fun _ q => wR_o q)] at hP1
  intro T1 hT1 X
  exact K n0 p e s m args below meth c H1 A locs1 cells slots d0 C hd hl (hw.put (wp_size X hT1 C.2.2.2.2.2.2.2.2 ha hc hP1 hS1) hP1 (wp_low C.2.2.2.2.2.2.2.2 hS hS1)) hS1 ha hb hc hs T1 hT1 X
end GM
