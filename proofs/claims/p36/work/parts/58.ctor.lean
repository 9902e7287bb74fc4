/-! ===== THE CONSTRUCTORS: cells made in the layout's order ===== -/
theorem wQ_at {h : Hp} {a k : Nat} {v : Option Nat} : (wQ h a k v).2.2.2 a k = v := if_pos ⟨rfl, rfl⟩
theorem wQ_ne {h : Hp} {a k b j : Nat} {v : Option Nat} (q : ¬ (b = a ∧ j = k)) : (wQ h a k v).2.2.2 b j = h.2.2.2 b j := if_neg q
theorem wQ_i {h : Hp} {a k b j : Nat} {v : Option Nat} : (wQ h a k v).1 b j = h.1 b j := rfl
theorem wQ_f {h : Hp} {a k b j : Nat} {v : Option Nat} : (wQ h a k v).2.1 b j = h.2.1 b j := rfl
theorem wI_q {h : Hp} {a k b j : Nat} {v : Int32} : (wI h a k v).2.2.2 b j = h.2.2.2 b j := rfl
theorem wF_q {h : Hp} {a k b j : Nat} {v : UInt32} : (wF h a k v).2.2.2 b j = h.2.2.2 b j := rfl
theorem wN_i {h : Hp} {a b j : Nat} (q : b ≠ a) : (wN h a).1 b j = h.1 b j := if_neg q
theorem wN_f {h : Hp} {a b j : Nat} (q : b ≠ a) : (wN h a).2.1 b j = h.2.1 b j := if_neg q
theorem wN_q {h : Hp} {a b j : Nat} (q : b ≠ a) : (wN h a).2.2.2 b j = h.2.2.2 b j := if_neg q
/-- below b nothing changes -/
def Lo (h h' : Hp) (b : Nat) : Prop := ∀ a, a < b → h'.1 a = h.1 a ∧ h'.2.1 a = h.2.1 a ∧ h'.2.2.1 a = h.2.2.1 a ∧ h'.2.2.2 a = h.2.2.2 a
theorem Lo.rf (h : Hp) (b : Nat) : Lo h h b := fun _ _ => ⟨rfl, rfl, rfl, rfl⟩
theorem Lo.tr {h h1 h2 : Hp} {b b2 : Nat} (c : Lo h h1 b) (c2 : Lo h1 h2 b2) (hb : b ≤ b2) : Lo h h2 b := fun a ha => by
  obtain ⟨x1, x2, x3, x4⟩ := c a ha
  obtain ⟨y1, y2, y3, y4⟩ := c2 a (by omega)
  exact ⟨y1.trans x1, y2.trans x2, y3.trans x3, y4.trans x4⟩
theorem Lo.wI {h h1 : Hp} {b a k : Nat} {v : Int32} (ha : b ≤ a) (c : Lo h h1 b) : Lo h (wI h1 a k v) b := fun x hx => by
  obtain ⟨x1, x2, x3, x4⟩ := c x hx
  exact ⟨(funext fun j => if_neg (fun z => by omega)).trans x1, x2, x3, x4⟩
theorem Lo.wF {h h1 : Hp} {b a k : Nat} {v : UInt32} (ha : b ≤ a) (c : Lo h h1 b) : Lo h (wF h1 a k v) b := fun x hx => by
  obtain ⟨x1, x2, x3, x4⟩ := c x hx
  exact ⟨x1, (funext fun j => if_neg (fun z => by omega)).trans x2, x3, x4⟩
theorem Lo.wQ {h h1 : Hp} {b a k : Nat} {v : Option Nat} (ha : b ≤ a) (c : Lo h h1 b) : Lo h (wQ h1 a k v) b := fun x hx => by
  obtain ⟨x1, x2, x3, x4⟩ := c x hx
  exact ⟨x1, x2, x3, (funext fun j => if_neg (fun z => by omega)).trans x4⟩
theorem Lo.wN {h h1 : Hp} {b a : Nat} (ha : b ≤ a) (c : Lo h h1 b) : Lo h (wN h1 a) b := fun x hx => by
  obtain ⟨x1, x2, x3, x4⟩ := c x hx
  exact ⟨(funext fun j => if_neg (fun z => by omega)).trans x1, (funext fun j => if_neg (fun z => by omega)).trans x2, (funext fun j => if_neg (fun z => by omega)).trans x3, (funext fun j => if_neg (fun z => by omega)).trans x4⟩
/-- a state's 63 cells begin there -/
def Bz (b : Nat) : Prop := b = 1 ∨ ∃ j, j < 6 ∧ b = 66 + 63 * j
theorem lay_z {b o : Nat} (hb : Bz b) (ho : o < 63) : Lay (b + o) = SL o := by
  rcases hb with rfl | ⟨j, hj, rfl⟩
  · unfold Lay
    rw [if_neg (by omega), if_pos (by omega)]
    congr 1
    omega
  · unfold Lay
    rw [if_neg (by omega), if_neg (by omega), if_neg (by omega), if_neg (by omega), if_pos (by omega)]
    congr 1
    omega
theorem lz0 {b : Nat} (hb : Bz b) : Lay b = .inl 6 := (lay_z (o := 0) hb (by omega)).trans rfl
theorem lz1 {b : Nat} (hb : Bz b) : Lay (b + 1) = .inl 7 := (lay_z hb (by omega)).trans rfl
theorem lz2 {b : Nat} (hb : Bz b) : Lay (b + 2) = .inr (3, 18) := (lay_z hb (by omega)).trans rfl
theorem lz21 {b : Nat} (hb : Bz b) : Lay (b + 21) = .inr (4, 4) := (lay_z hb (by omega)).trans rfl
theorem lz26 {b : Nat} (hb : Bz b) : Lay (b + 26) = .inl 5 := (lay_z hb (by omega)).trans rfl
theorem lz27 {b : Nat} (hb : Bz b) : Lay (b + 27) = .inr (5, 30) := (lay_z hb (by omega)).trans rfl
theorem lz58 {b : Nat} (hb : Bz b) : Lay (b + 58) = .inl 4 := (lay_z hb (by omega)).trans rfl
theorem lz59 {b : Nat} (hb : Bz b) : Lay (b + 59) = .inr (0, 10) := (lay_z hb (by omega)).trans rfl
theorem lz60 {b : Nat} (hb : Bz b) : Lay (b + 60) = .inr (0, 10) := (lay_z hb (by omega)).trans rfl
theorem lz61 {b : Nat} (hb : Bz b) : Lay (b + 61) = .inr (0, 10) := (lay_z hb (by omega)).trans rfl
theorem lz62 {b : Nat} (hb : Bz b) : Lay (b + 62) = .inr (0, 10) := (lay_z hb (by omega)).trans rfl
theorem lzi {b i : Nat} (hb : Bz b) (hi : i < 18) : Lay (b + 3 + i) = .inl 2 := by
  rw [show b + 3 + i = b + (3 + i) by omega, lay_z hb (by omega)]
  unfold SL
  rw [if_neg (by omega), if_neg (by omega), if_neg (by omega), if_pos (by omega)]
theorem lzd {b i : Nat} (hb : Bz b) (hi : i < 4) : Lay (b + 22 + i) = .inl 0 := by
  rw [show b + 22 + i = b + (22 + i) by omega, lay_z hb (by omega)]
  unfold SL
  rw [if_neg (by omega), if_neg (by omega), if_neg (by omega), if_neg (by omega), if_neg (by omega), if_pos (by omega)]
theorem lzj {b i : Nat} (hb : Bz b) (hi : i < 30) : Lay (b + 28 + i) = .inl 3 := by
  rw [show b + 28 + i = b + (28 + i) by omega, lay_z hb (by omega)]
  unfold SL
  rw [if_neg (by omega), if_neg (by omega), if_neg (by omega), if_neg (by omega), if_neg (by omega), if_neg (by omega), if_neg (by omega), if_neg (by omega), if_pos (by omega)]
def SI (h h' : Hp) (b : Nat) : Prop := Lo h h' (b + 1) ∧ h'.2.2.2 (b + 1) 0 = some (b + 2) ∧ h'.2.2.2 (b + 1) 2 = some (b + 21) ∧ (∀ i, i < 18 → h'.2.2.2 (b + 2) i = some (b + 3 + i)) ∧ (∀ i, i < 4 → h'.2.2.2 (b + 21) i = some (b + 22 + i)) ∧ h'.1 (b + 1) 1 = 0 ∧ h'.1 (b + 1) 3 = 0
def QI (h h' : Hp) (b : Nat) : Prop := Lo h h' (b + 26) ∧ h'.2.2.2 (b + 26) 0 = some (b + 27) ∧ (∀ i, i < 30 → h'.2.2.2 (b + 27) i = some (b + 28 + i)) ∧ h'.1 (b + 26) 1 = 0 ∧ h'.1 (b + 26) 2 = 0 ∧ h'.1 (b + 26) 3 = 1
def LI (h h' : Hp) (b : Nat) : Prop := Lo h h' (b + 58) ∧ h'.2.2.2 (b + 58) 0 = some (b + 59) ∧ h'.2.2.2 (b + 58) 1 = some (b + 60) ∧ h'.2.2.2 (b + 58) 2 = some (b + 61) ∧ h'.2.2.2 (b + 58) 3 = some (b + 62) ∧ h'.1 (b + 58) 5 = nI 9
/-- a state's numbers as they begin -/
def N0 (h : Hp) (b : Nat) : Prop := (h.1 b 5 = 0 ∧ h.1 b 6 = 0 ∧ h.1 b 7 = -5 ∧ h.1 b 8 = -5 ∧ h.1 b 9 = 0 ∧ h.1 b 10 = 0 ∧ h.1 b 11 = 0 ∧ h.2.1 b 3 = 0 ∧ h.2.1 b 4 = 1101004800) ∧ (h.1 (b + 1) 1 = 0 ∧ h.1 (b + 1) 3 = 0) ∧ (h.1 (b + 26) 1 = 0 ∧ h.1 (b + 26) 2 = 0 ∧ h.1 (b + 26) 3 = 1) ∧ h.1 (b + 58) 5 = nI 9
section P58
variable {G : Gl} {h : Hp}
theorem c_ini_0 (k n : Nat) : Ct G mX0_init [ga G k] h n n (dV h) := by
  refine Ct.of rfl (by simp [Value.category, ga]) (Nat.le_of_ble_eq_true rfl) (Nat.le_refl _) ?_
  show Go _ _ _ _ _ _ _ [some (ga G k)] []
  refine g_ald0 dX0_init_0 ?_
  refine g_objInit mw_1_83 (by decide) (Nat.le_of_ble_eq_true rfl) dX0_init_1 ?_
  exact g_vret rfl dX0_init_4 ⟨rfl, rfl⟩
theorem c_ini_2 (k n : Nat) : Ct G mX2_init [ga G k] h n n (dV h) := by
  refine Ct.of rfl (by simp [Value.category, ga]) (Nat.le_of_ble_eq_true rfl) (Nat.le_refl _) ?_
  show Go _ _ _ _ _ _ _ [some (ga G k)] []
  refine g_ald0 dX2_init_0 ?_
  refine g_objInit mw_1_39 (by decide) (Nat.le_of_ble_eq_true rfl) dX2_init_1 ?_
  exact g_vret rfl dX2_init_4 ⟨rfl, rfl⟩
theorem c_ini_3 (k n : Nat) : Ct G mX3_init [ga G k] h n n (dV h) := by
  refine Ct.of rfl (by simp [Value.category, ga]) (Nat.le_of_ble_eq_true rfl) (Nat.le_refl _) ?_
  show Go _ _ _ _ _ _ _ [some (ga G k)] []
  refine g_ald0 dX3_init_0 ?_
  refine g_objInit mw_1_139 (by decide) (Nat.le_of_ble_eq_true rfl) dX3_init_1 ?_
  exact g_vret rfl dX3_init_4 ⟨rfl, rfl⟩
theorem c_storeInit (b : Nat) (hb : Bz b) : Ct G mX7_init [ga G (b + 1)] h (b + 2) (b + 26) (rV (fun h' => SI h h' b)) := by
  refine Ct.of rfl (by simp [Value.category, ga]) (Nat.le_of_ble_eq_true rfl) (by omega) ?_
  show Go _ _ _ _ _ _ _ [some (ga G (b + 1)), none] []
  have loop2 : ∀ m i (h1 : Hp), m + i = 4 → Lo h h1 (b + 1) → h1.2.2.2 (b + 1) 0 = some (b + 2) → h1.2.2.2 (b + 1) 2 = some (b + 21) → (∀ q, q < 18 → h1.2.2.2 (b + 2) q = some (b + 3 + q)) → (∀ q, q < i → h1.2.2.2 (b + 21) q = some (b + 22 + q)) → h1.1 (b + 1) 1 = 0 → Go G mX7_init (b + 26) (rV (fun h' => SI h h' b)) h1 (b + 22 + i) 58 [some (ga G (b + 1)), some (.int (nI i))] [] := by
    intro m
    induction m with
    | zero =>
      intro i h1 hi hc r1 r2 r3 r4 n1
      obtain rfl : i = 4 := by omega
      refine g_ild1 dX7_init_58 ?_
      refine g_ald0 dX7_init_59 ?_
      refine g_getQ fb_7_2 mw_1_115 (by first | exact lz1 hb | exact lz21 hb) (by omega) r2 dX7_init_60 ?_
      refine g_alen (by first | exact lz1 hb | exact lz21 hb) (by omega) (by decide) rfl dX7_init_63 ?_
      refine g_icmp_ge_t (tgt := 86) dX7_init_64 (by decide) (by decide) ?_
      show Go _ _ _ _ _ _ 86 _ _
      refine g_ald0 dX7_init_86 ?_
      refine g_iconst (v := nI 0) dX7_init_87 (by decide +kernel) ?_
      refine g_putI fb_7_3 mw_1_116 (by first | exact lz1 hb | exact lz21 hb) (by omega) rfl rfl dX7_init_88 ?_
      exact g_vret rfl dX7_init_91 ⟨rfl, Lo.wI (by omega) hc, r1, r2, r3, r4, (wI_ne (by omega)).trans n1, wI_at⟩
    | succ m ih =>
      intro i h1 hi hc r1 r2 r3 r4 n1
      refine g_ild1 dX7_init_58 ?_
      refine g_ald0 dX7_init_59 ?_
      refine g_getQ fb_7_2 mw_1_115 (by first | exact lz1 hb | exact lz21 hb) (by omega) r2 dX7_init_60 ?_
      refine g_alen (by first | exact lz1 hb | exact lz21 hb) (by omega) (by decide) rfl dX7_init_63 ?_
      refine g_icmp_ge_f (tgt := 86) dX7_init_64 (by decide) (nI_ge (by omega) (by omega)) ?_
      show Go _ _ _ _ _ _ 67 _ _
      refine g_ald0 dX7_init_67 ?_
      refine g_getQ fb_7_2 mw_1_115 (by first | exact lz1 hb | exact lz21 hb) (by omega) r2 dX7_init_68 ?_
      refine g_ild1 dX7_init_71 ?_
      refine g_new cb0 mw_1_77 mw_1_79 mw_1_5 (lzd hb (by omega)) (by omega) dX7_init_72 ?_
      refine g_dup dX7_init_75 rfl ?_
      refine g_callI0 (c_ini_0 (b + 22 + i) (b + 22 + i + 1)) mw_1_80 ok_X0_init ⟨by decide, by decide⟩ (by omega) (by omega) (Nat.le_of_ble_eq_true rfl) dX7_init_76 (dV_K ?_)
      show Go _ _ _ _ _ _ 79 _ _
      refine g_qast4 (w := 4) (lz21 hb) (by omega) rfl (by omega) (lzd hb (by omega)) (by omega) dX7_init_79 ?_
      refine g_iinc1 (by decide) dX7_init_80 (nI_1 i) ?_
      refine g_goto (tgt := 58) dX7_init_83 (by decide) ?_
      exact ih (i + 1) _ (by omega) (Lo.wQ (by omega) (Lo.wN (by omega) hc)) ((wQ_ne (by omega)).trans ((wN_q (by omega)).trans r1)) ((wQ_ne (by omega)).trans ((wN_q (by omega)).trans r2)) (fun q hq => (wQ_ne (by omega)).trans ((wN_q (by omega)).trans (r3 q hq))) (fun q hq => by by_cases e : q = i; subst e; exact wQ_at; exact (wQ_ne (by omega)).trans ((wN_q (by omega)).trans (r4 q (by omega)))) ((wQ_i).trans ((wN_i (by omega)).trans n1))
  have loop1 : ∀ m i (h1 : Hp), m + i = 18 → Lo h h1 (b + 1) → h1.2.2.2 (b + 1) 0 = some (b + 2) → (∀ q, q < i → h1.2.2.2 (b + 2) q = some (b + 3 + q)) → Go G mX7_init (b + 26) (rV (fun h' => SI h h' b)) h1 (b + 3 + i) 15 [some (ga G (b + 1)), some (.int (nI i))] [] := by
    intro m
    induction m with
    | zero =>
      intro i h1 hi hc r1 r3
      obtain rfl : i = 18 := by omega
      refine g_ild1 dX7_init_15 ?_
      refine g_ald0 dX7_init_16 ?_
      refine g_getQ fb_7_0 mw_1_112 (by first | exact lz1 hb | exact lz2 hb) (by omega) r1 dX7_init_17 ?_
      refine g_alen (by first | exact lz1 hb | exact lz2 hb) (by omega) (by decide) rfl dX7_init_20 ?_
      refine g_icmp_ge_t (tgt := 43) dX7_init_21 (by decide) (by decide) ?_
      show Go _ _ _ _ _ _ 43 _ _
      refine g_ald0 dX7_init_43 ?_
      refine g_iconst (v := nI 0) dX7_init_44 (by decide +kernel) ?_
      refine g_putI fb_7_1 mw_1_113 (by first | exact lz1 hb | exact lz2 hb) (by omega) rfl rfl dX7_init_45 ?_
      refine g_ald0 dX7_init_48 ?_
      refine g_iconst (v := nI 4) dX7_init_49 (by decide +kernel) ?_
      refine g_newq4 mw_1_77 (lz21 hb) rfl (by omega) dX7_init_50 ?_
      show Go _ _ _ _ _ _ 53 _ _
      refine g_putQ fb_7_2 rfl rfl mw_1_115 (by first | exact lz1 hb | exact lz2 hb) (by omega) dX7_init_53 ?_
      refine g_iconst (v := nI 0) dX7_init_56 (by decide +kernel) ?_
      refine g_ist1 (by decide) dX7_init_57 ?_
      exact loop2 4 0 _ (by omega) (Lo.wQ (by omega) (Lo.wN (by omega) (Lo.wI (by omega) hc))) ((wQ_ne (by omega)).trans ((wN_q (by omega)).trans r1)) (wQ_at) (fun q hq => (wQ_ne (by omega)).trans ((wN_q (by omega)).trans (r3 q hq))) (fun q hq => absurd hq (Nat.not_lt_zero q)) ((wQ_i).trans ((wN_i (by omega)).trans wI_at))
    | succ m ih =>
      intro i h1 hi hc r1 r3
      refine g_ild1 dX7_init_15 ?_
      refine g_ald0 dX7_init_16 ?_
      refine g_getQ fb_7_0 mw_1_112 (by first | exact lz1 hb | exact lz2 hb) (by omega) r1 dX7_init_17 ?_
      refine g_alen (by first | exact lz1 hb | exact lz2 hb) (by omega) (by decide) rfl dX7_init_20 ?_
      refine g_icmp_ge_f (tgt := 43) dX7_init_21 (by decide) (nI_ge (by omega) (by omega)) ?_
      show Go _ _ _ _ _ _ 24 _ _
      refine g_ald0 dX7_init_24 ?_
      refine g_getQ fb_7_0 mw_1_112 (by first | exact lz1 hb | exact lz2 hb) (by omega) r1 dX7_init_25 ?_
      refine g_ild1 dX7_init_28 ?_
      refine g_new cb2 mw_1_33 mw_1_35 mw_1_4 (lzi hb (by omega)) (by omega) dX7_init_29 ?_
      refine g_dup dX7_init_32 rfl ?_
      refine g_callI0 (c_ini_2 (b + 3 + i) (b + 3 + i + 1)) mw_1_36 ok_X2_init ⟨by decide, by decide⟩ (by omega) (by omega) (Nat.le_of_ble_eq_true rfl) dX7_init_33 (dV_K ?_)
      show Go _ _ _ _ _ _ 36 _ _
      refine g_qast3 (w := 18) (lz2 hb) (by omega) rfl (by omega) (lzi hb (by omega)) (by omega) dX7_init_36 ?_
      refine g_iinc1 (by decide) dX7_init_37 (nI_1 i) ?_
      refine g_goto (tgt := 15) dX7_init_40 (by decide) ?_
      exact ih (i + 1) _ (by omega) (Lo.wQ (by omega) (Lo.wN (by omega) hc)) ((wQ_ne (by omega)).trans ((wN_q (by omega)).trans r1)) (fun q hq => by by_cases e : q = i; subst e; exact wQ_at; exact (wQ_ne (by omega)).trans ((wN_q (by omega)).trans (r3 q (by omega))))
  refine g_ald0 dX7_init_0 ?_
  refine g_objInit mw_1_32 (by decide) (Nat.le_of_ble_eq_true rfl) dX7_init_1 ?_
  refine g_ald0 dX7_init_4 ?_
  refine g_bipush (v := nI 18) dX7_init_5 (by decide +kernel) ?_
  refine g_newq3 mw_1_33 (lz2 hb) rfl (by omega) dX7_init_7 ?_
  show Go _ _ _ _ _ _ 10 _ _
  refine g_putQ fb_7_0 rfl rfl mw_1_112 (by first | exact lz1 hb | exact lz2 hb) (by omega) dX7_init_10 ?_
  refine g_iconst (v := nI 0) dX7_init_13 (by decide +kernel) ?_
  refine g_ist1 (by decide) dX7_init_14 ?_
  exact loop1 18 0 _ (by omega) (Lo.wQ (by omega) (Lo.wN (by omega) (Lo.rf _ _))) wQ_at (fun q hq => absurd hq (Nat.not_lt_zero q))
theorem c_queueInit (b : Nat) (hb : Bz b) : Ct G mX5_init [ga G (b + 26)] h (b + 27) (b + 58) (rV (fun h' => QI h h' b)) := by
  refine Ct.of rfl (by simp [Value.category, ga]) (Nat.le_of_ble_eq_true rfl) (by omega) ?_
  show Go _ _ _ _ _ _ _ [some (ga G (b + 26)), none] []
  have loop1 : ∀ m i (h1 : Hp), m + i = 30 → Lo h h1 (b + 26) → h1.2.2.2 (b + 26) 0 = some (b + 27) → (∀ q, q < i → h1.2.2.2 (b + 27) q = some (b + 28 + q)) → Go G mX5_init (b + 58) (rV (fun h' => QI h h' b)) h1 (b + 28 + i) 15 [some (ga G (b + 26)), some (.int (nI i))] [] := by
    intro m
    induction m with
    | zero =>
      intro i h1 hi hc r1 r3
      obtain rfl : i = 30 := by omega
      refine g_ild1 dX5_init_15 ?_
      refine g_ald0 dX5_init_16 ?_
      refine g_getQ fb_5_0 mw_1_197 (by first | exact lz26 hb | exact lz27 hb) (by omega) r1 dX5_init_17 ?_
      refine g_alen (by first | exact lz26 hb | exact lz27 hb) (by omega) (by decide) rfl dX5_init_20 ?_
      refine g_icmp_ge_t (tgt := 43) dX5_init_21 (by decide) (by decide) ?_
      show Go _ _ _ _ _ _ 43 _ _
      refine g_ald0 dX5_init_43 ?_
      refine g_iconst (v := nI 0) dX5_init_44 (by decide +kernel) ?_
      refine g_putI fb_5_1 mw_1_199 (by first | exact lz26 hb | exact lz27 hb) (by omega) rfl rfl dX5_init_45 ?_
      refine g_ald0 dX5_init_48 ?_
      refine g_iconst (v := nI 0) dX5_init_49 (by decide +kernel) ?_
      refine g_putI fb_5_2 mw_1_202 (by first | exact lz26 hb | exact lz27 hb) (by omega) rfl rfl dX5_init_50 ?_
      show Go _ _ _ _ _ _ 53 _ _
      refine g_ald0 dX5_init_53 ?_
      refine g_iconst (v := nI 1) dX5_init_54 (by decide +kernel) ?_
      refine g_putI fb_5_3 mw_1_203 (by first | exact lz26 hb | exact lz27 hb) (by omega) rfl rfl dX5_init_55 ?_
      exact g_vret rfl dX5_init_58 ⟨rfl, Lo.wI (by omega) (Lo.wI (by omega) (Lo.wI (by omega) hc)), r1, r3, (wI_ne (by omega)).trans ((wI_ne (by omega)).trans wI_at), (wI_ne (by omega)).trans wI_at, wI_at⟩
    | succ m ih =>
      intro i h1 hi hc r1 r3
      refine g_ild1 dX5_init_15 ?_
      refine g_ald0 dX5_init_16 ?_
      refine g_getQ fb_5_0 mw_1_197 (by first | exact lz26 hb | exact lz27 hb) (by omega) r1 dX5_init_17 ?_
      refine g_alen (by first | exact lz26 hb | exact lz27 hb) (by omega) (by decide) rfl dX5_init_20 ?_
      refine g_icmp_ge_f (tgt := 43) dX5_init_21 (by decide) (nI_ge (by omega) (by omega)) ?_
      show Go _ _ _ _ _ _ 24 _ _
      refine g_ald0 dX5_init_24 ?_
      refine g_getQ fb_5_0 mw_1_197 (by first | exact lz26 hb | exact lz27 hb) (by omega) r1 dX5_init_25 ?_
      refine g_ild1 dX5_init_28 ?_
      refine g_new cb3 mw_1_133 mw_1_135 mw_1_7 (lzj hb (by omega)) (by omega) dX5_init_29 ?_
      refine g_dup dX5_init_32 rfl ?_
      refine g_callI0 (c_ini_3 (b + 28 + i) (b + 28 + i + 1)) mw_1_136 ok_X3_init ⟨by decide, by decide⟩ (by omega) (by omega) (Nat.le_of_ble_eq_true rfl) dX5_init_33 (dV_K ?_)
      show Go _ _ _ _ _ _ 36 _ _
      refine g_qast5 (w := 30) (lz27 hb) (by omega) rfl (by omega) (lzj hb (by omega)) (by omega) dX5_init_36 ?_
      refine g_iinc1 (by decide) dX5_init_37 (nI_1 i) ?_
      refine g_goto (tgt := 15) dX5_init_40 (by decide) ?_
      exact ih (i + 1) _ (by omega) (Lo.wQ (by omega) (Lo.wN (by omega) hc)) ((wQ_ne (by omega)).trans ((wN_q (by omega)).trans r1)) (fun q hq => by by_cases e : q = i; subst e; exact wQ_at; exact (wQ_ne (by omega)).trans ((wN_q (by omega)).trans (r3 q (by omega))))
  refine g_ald0 dX5_init_0 ?_
  refine g_objInit mw_1_132 (by decide) (Nat.le_of_ble_eq_true rfl) dX5_init_1 ?_
  refine g_ald0 dX5_init_4 ?_
  refine g_bipush (v := nI 30) dX5_init_5 (by decide +kernel) ?_
  refine g_newq5 mw_1_133 (lz27 hb) rfl (by omega) dX5_init_7 ?_
  show Go _ _ _ _ _ _ 10 _ _
  refine g_putQ fb_5_0 rfl rfl mw_1_197 (by first | exact lz26 hb | exact lz27 hb) (by omega) dX5_init_10 ?_
  refine g_iconst (v := nI 0) dX5_init_13 (by decide +kernel) ?_
  refine g_ist1 (by decide) dX5_init_14 ?_
  exact loop1 30 0 _ (by omega) (Lo.wQ (by omega) (Lo.wN (by omega) (Lo.rf _ _))) wQ_at (fun q hq => absurd hq (Nat.not_lt_zero q))
theorem c_logInit (b : Nat) (hb : Bz b) : Ct G mX4_init [ga G (b + 58)] h (b + 59) (b + 63) (rV (fun h' => LI h h' b)) := by
  refine Ct.of rfl (by simp [Value.category, ga]) (Nat.le_of_ble_eq_true rfl) (by omega) ?_
  show Go _ _ _ _ _ _ _ [some (ga G (b + 58))] []
  refine g_ald0 dX4_init_0 ?_
  refine g_objInit mw_1_218 (by decide) (Nat.le_of_ble_eq_true rfl) dX4_init_1 ?_
  refine g_ald0 dX4_init_4 ?_
  refine g_bipush (v := nI 10) dX4_init_5 (by decide +kernel) ?_
  refine g_newa_int mw_1_238 (lz59 hb) rfl (by omega) dX4_init_7 ?_
  show Go _ _ _ _ _ _ 9 _ _
  refine g_putQ fb_4_0 rfl rfl mw_1_219 (by exact lz58 hb) (by omega) dX4_init_9 ?_
  refine g_ald0 dX4_init_12 ?_
  refine g_bipush (v := nI 10) dX4_init_13 (by decide +kernel) ?_
  refine g_newa_int mw_1_238 (lz60 hb) rfl (by omega) dX4_init_15 ?_
  refine g_putQ fb_4_1 rfl rfl mw_1_220 (by exact lz58 hb) (by omega) dX4_init_17 ?_
  refine g_ald0 dX4_init_20 ?_
  show Go _ _ _ _ _ _ 21 _ _
  refine g_bipush (v := nI 10) dX4_init_21 (by decide +kernel) ?_
  refine g_newa_int mw_1_238 (lz61 hb) rfl (by omega) dX4_init_23 ?_
  refine g_putQ fb_4_2 rfl rfl mw_1_221 (by exact lz58 hb) (by omega) dX4_init_25 ?_
  refine g_ald0 dX4_init_28 ?_
  refine g_bipush (v := nI 10) dX4_init_29 (by decide +kernel) ?_
  refine g_newa_int mw_1_238 (lz62 hb) rfl (by omega) dX4_init_31 ?_
  show Go _ _ _ _ _ _ 33 _ _
  refine g_putQ fb_4_3 rfl rfl mw_1_222 (by exact lz58 hb) (by omega) dX4_init_33 ?_
  refine g_ald0 dX4_init_36 ?_
  refine g_iconst (v := nI 0) dX4_init_37 (by decide +kernel) ?_
  refine g_putI fb_4_4 mw_1_223 (by exact lz58 hb) (by omega) rfl rfl dX4_init_38 ?_
  refine g_ald0 dX4_init_41 ?_
  refine g_bipush (v := nI 9) dX4_init_42 (by decide +kernel) ?_
  show Go _ _ _ _ _ _ 44 _ _
  refine g_putI fb_4_5 mw_1_224 (by exact lz58 hb) (by omega) rfl rfl dX4_init_44 ?_
  exact g_vret rfl dX4_init_47 ⟨rfl, by repeat (first | exact Lo.rf _ _ | refine Lo.wI (by omega) ?_ | refine Lo.wQ (by omega) ?_ | refine Lo.wN (by omega) ?_), by (try simp (disch := omega) only [wQ_at, wQ_ne, wN_q, wI_q]) <;> rfl, by (try simp (disch := omega) only [wQ_at, wQ_ne, wN_q, wI_q]) <;> rfl, by (try simp (disch := omega) only [wQ_at, wQ_ne, wN_q, wI_q]) <;> rfl, by (try simp (disch := omega) only [wQ_at, wQ_ne, wN_q, wI_q]) <;> rfl, wI_at⟩
theorem c_stateInit (b : Nat) (hb : Bz b) : Ct G mX6_init [ga G b] h (b + 1) (b + 63) (rV (fun h' => Lo h h' b ∧ St h' b ∧ N0 h' b)) := by
  refine Ct.of rfl (by simp [Value.category, ga]) (Nat.le_of_ble_eq_true rfl) (by omega) ?_
  show Go _ _ _ _ _ _ _ [some (ga G b)] []
  refine g_ald0 dX6_init_0 ?_
  refine g_objInit mw_1_26 (by decide) (Nat.le_of_ble_eq_true rfl) dX6_init_1 ?_
  refine g_ald0 dX6_init_4 ?_
  refine g_new cb7 mw_1_27 mw_1_28 mw_1_3 (lz1 hb) (by omega) dX6_init_5 ?_
  refine g_dup dX6_init_8 rfl ?_
  show Go _ _ _ _ _ _ 9 _ _
  refine g_callI0 (c_storeInit b hb) mw_1_29 ok_X7_init ⟨by decide, by decide⟩ (by omega) (by omega) (Nat.le_of_ble_eq_true rfl) dX6_init_9 (rV_K ?_)
  rintro h1 ⟨L1, q1, q2, q3, q4, m1, m2⟩
  refine g_putQ fb_6_0 rfl rfl mw_2_0 (by exact lz0 hb) (by omega) dX6_init_12 ?_
  refine g_ald0 dX6_init_15 ?_
  refine g_new cb5 mw_1_127 mw_1_128 mw_1_6 (lz26 hb) (by omega) dX6_init_16 ?_
  refine g_dup dX6_init_19 rfl ?_
  refine g_callI0 (c_queueInit b hb) mw_1_129 ok_X5_init ⟨by decide, by decide⟩ (by omega) (by omega) (Nat.le_of_ble_eq_true rfl) dX6_init_20 (rV_K ?_)
  rintro h2 ⟨L2, q5, q6, m3, m4, m5⟩
  have t2 : ∀ a j, a < b + 26 → a ≠ b → h2.2.2.2 a j = h1.2.2.2 a j := fun a j ha hab => by rw [(L2 a ha).2.2.2]; exact (wN_q (by omega)).trans (wQ_ne (by omega))
  have t20 : h2.2.2.2 b 0 = some (b + 1) := by rw [(L2 b (by omega)).2.2.2]; exact (wN_q (by omega)).trans wQ_at
  have i2 : ∀ a j, a < b + 26 → h2.1 a j = h1.1 a j := fun a j ha => by rw [(L2 a ha).1]; exact wN_i (by omega)
  show Go _ _ _ _ _ _ 23 _ _
  refine g_putQ fb_6_1 rfl rfl mw_2_2 (by exact lz0 hb) (by omega) dX6_init_23 ?_
  refine g_ald0 dX6_init_26 ?_
  refine g_new cb4 mw_1_213 mw_1_214 mw_1_8 (lz58 hb) (by omega) dX6_init_27 ?_
  refine g_dup dX6_init_30 rfl ?_
  refine g_callI0 (c_logInit b hb) mw_1_215 ok_X4_init ⟨by decide, by decide⟩ (by omega) (by omega) (Nat.le_of_ble_eq_true rfl) dX6_init_31 (rV_K ?_)
  rintro h3 ⟨L3, q7, q8, q9, q10, m6⟩
  have t3 : ∀ a j, a < b + 58 → ¬ (a = b ∧ j = 1) → h3.2.2.2 a j = h2.2.2.2 a j := fun a j ha hab => by rw [(L3 a ha).2.2.2]; exact (wN_q (by omega)).trans (wQ_ne hab)
  have t31 : h3.2.2.2 b 1 = some (b + 26) := by rw [(L3 b (by omega)).2.2.2]; exact (wN_q (by omega)).trans wQ_at
  have i3 : ∀ a j, a < b + 58 → h3.1 a j = h2.1 a j := fun a j ha => by rw [(L3 a ha).1]; exact wN_i (by omega)
  have L30 : Lo h h3 b := (Lo.wN (by omega) (Lo.wQ (by omega) ((Lo.wN (by omega) (Lo.wQ (by omega) ((Lo.wN (by omega) (Lo.rf h b)).tr L1 (by omega)))).tr L2 (by omega)))).tr L3 (by omega)
  have s3 : St (wQ h3 b 2 (some (b + 58))) b := ⟨(wQ_ne (by omega)).trans ((t3 _ _ (by omega) (by omega)).trans t20), (wQ_ne (by omega)).trans t31, wQ_at, (wQ_ne (by omega)).trans ((t3 _ _ (by omega) (by omega)).trans ((t2 _ _ (by omega) (by omega)).trans q1)), (wQ_ne (by omega)).trans ((t3 _ _ (by omega) (by omega)).trans ((t2 _ _ (by omega) (by omega)).trans q2)), fun i hi => (wQ_ne (by omega)).trans ((t3 _ _ (by omega) (by omega)).trans ((t2 _ _ (by omega) (by omega)).trans (q3 i hi))), fun i hi => (wQ_ne (by omega)).trans ((t3 _ _ (by omega) (by omega)).trans ((t2 _ _ (by omega) (by omega)).trans (q4 i hi))), (wQ_ne (by omega)).trans ((t3 _ _ (by omega) (by omega)).trans q5), fun i hi => (wQ_ne (by omega)).trans ((t3 _ _ (by omega) (by omega)).trans (q6 i hi)), (wQ_ne (by omega)).trans q7, (wQ_ne (by omega)).trans q8, (wQ_ne (by omega)).trans q9, (wQ_ne (by omega)).trans q10⟩
  have k1 := (i3 (b + 1) 1 (by omega)).trans ((i2 _ _ (by omega)).trans m1)
  have k2 := (i3 (b + 1) 3 (by omega)).trans ((i2 _ _ (by omega)).trans m2)
  have k3 := (i3 (b + 26) 1 (by omega)).trans m3
  have k4 := (i3 (b + 26) 2 (by omega)).trans m4
  have k5 := (i3 (b + 26) 3 (by omega)).trans m5
  refine g_putQ fb_6_2 rfl rfl mw_2_4 (by exact lz0 hb) (by omega) dX6_init_34 ?_
  show Go _ _ _ _ _ _ 37 _ _
  refine g_ald0 dX6_init_37 ?_
  refine g_fconst0 dX6_init_38 ?_
  refine g_putF fb_6_3 mw_2_5 (by exact lz0 hb) (by omega) dX6_init_39 ?_
  refine g_ald0 dX6_init_42 ?_
  refine g_ldcf mw_1_239 dX6_init_43 ?_
  refine g_putF fb_6_4 mw_2_7 (by exact lz0 hb) (by omega) dX6_init_45 ?_
  show Go _ _ _ _ _ _ 48 _ _
  refine g_ald0 dX6_init_48 ?_
  refine g_iconst (v := nI 0) dX6_init_49 (by decide +kernel) ?_
  refine g_putI fb_6_5 mw_2_9 (by exact lz0 hb) (by omega) rfl rfl dX6_init_50 ?_
  refine g_ald0 dX6_init_53 ?_
  refine g_iconst (v := nI 0) dX6_init_54 (by decide +kernel) ?_
  refine g_putI fb_6_6 mw_2_11 (by exact lz0 hb) (by omega) rfl rfl dX6_init_55 ?_
  show Go _ _ _ _ _ _ 58 _ _
  refine g_ald0 dX6_init_58 ?_
  refine g_bipush (v := -5) dX6_init_59 (by decide +kernel) ?_
  refine g_putI fb_6_7 mw_2_13 (by exact lz0 hb) (by omega) rfl rfl dX6_init_61 ?_
  refine g_ald0 dX6_init_64 ?_
  refine g_bipush (v := -5) dX6_init_65 (by decide +kernel) ?_
  refine g_putI fb_6_8 mw_2_15 (by exact lz0 hb) (by omega) rfl rfl dX6_init_67 ?_
  show Go _ _ _ _ _ _ 70 _ _
  refine g_ald0 dX6_init_70 ?_
  refine g_iconst (v := nI 0) dX6_init_71 (by decide +kernel) ?_
  refine g_putI fb_6_9 mw_2_17 (by exact lz0 hb) (by omega) rfl rfl dX6_init_72 ?_
  refine g_ald0 dX6_init_75 ?_
  refine g_iconst (v := nI 0) dX6_init_76 (by decide +kernel) ?_
  refine g_putI fb_6_10 mw_2_19 (by exact lz0 hb) (by omega) rfl rfl dX6_init_77 ?_
  show Go _ _ _ _ _ _ 80 _ _
  refine g_ald0 dX6_init_80 ?_
  refine g_iconst (v := nI 0) dX6_init_81 (by decide +kernel) ?_
  refine g_putI fb_6_11 mw_2_21 (by exact lz0 hb) (by omega) rfl rfl dX6_init_82 ?_
  exact g_vret rfl dX6_init_85 ⟨rfl, by repeat (first | exact L30 | refine Lo.wI (by omega) ?_ | refine Lo.wF (by omega) ?_ | refine Lo.wQ (by omega) ?_), s3, by simp (disch := omega) only [N0, wI_at, wI_ne, wF_i, wQ_i, wI_f, wF_at, wF_ne, k1, k2, k3, k4, k5, m6]; exact ⟨⟨(by first | trivial | rfl), (by first | trivial | rfl), (by first | trivial | rfl), (by first | trivial | rfl), (by first | trivial | rfl), (by first | trivial | rfl), (by first | trivial | rfl), (by first | trivial | rfl), (by first | trivial | rfl)⟩, ⟨trivial, trivial⟩, ⟨trivial, trivial, trivial⟩, trivial⟩⟩
theorem St.lo {h h' : Hp} {b : Nat} (e : ∀ a j, b ≤ a → a < b + 63 → h'.2.2.2 a j = h.2.2.2 a j) (s : St h b) : St h' b := by
  obtain ⟨a1, a2, a3, a4, a5, a6, a7, a8, a9, a10, a11, a12, a13⟩ := s
  exact ⟨(e _ _ (by omega) (by omega)).trans a1, (e _ _ (by omega) (by omega)).trans a2, (e _ _ (by omega) (by omega)).trans a3, (e _ _ (by omega) (by omega)).trans a4, (e _ _ (by omega) (by omega)).trans a5, fun i hi => (e _ _ (by omega) (by omega)).trans (a6 i hi), fun i hi => (e _ _ (by omega) (by omega)).trans (a7 i hi), (e _ _ (by omega) (by omega)).trans a8, fun i hi => (e _ _ (by omega) (by omega)).trans (a9 i hi), (e _ _ (by omega) (by omega)).trans a10, (e _ _ (by omega) (by omega)).trans a11, (e _ _ (by omega) (by omega)).trans a12, (e _ _ (by omega) (by omega)).trans a13⟩
def HI (h h' : Hp) : Prop := Lo h h' 64 ∧ h'.2.2.2 64 0 = some 65 ∧ (∀ i, i < 4 → h'.2.2.2 65 i = some (66 + 63 * i)) ∧ (∀ j, j < 4 → St h' (66 + 63 * j)) ∧ h'.1 64 1 = 0
theorem c_histInit : Ct G mX1_init [ga G 64] h 65 318 (rV (fun h' => HI h h')) := by
  refine Ct.of rfl (by simp [Value.category, ga]) (Nat.le_of_ble_eq_true rfl) (by omega) ?_
  show Go _ _ _ _ _ _ _ [some (ga G 64), none] []
  have loop1 : ∀ m i (h1 : Hp), m + i = 4 → Lo h h1 64 → h1.2.2.2 64 0 = some 65 → (∀ q, q < i → h1.2.2.2 65 q = some (66 + 63 * q)) → (∀ q, q < i → St h1 (66 + 63 * q)) → Go G mX1_init 318 (rV (fun h' => HI h h')) h1 (66 + 63 * i) 14 [some (ga G 64), some (.int (nI i))] [] := by
    intro m
    induction m with
    | zero =>
      intro i h1 hi hc r1 r3 r4
      obtain rfl : i = 4 := by omega
      refine g_ild1 dX1_init_14 ?_
      refine g_ald0 dX1_init_15 ?_
      refine g_getQ fb_1_0 mw_2_57 (by rfl) (by omega) r1 dX1_init_16 ?_
      refine g_alen (by rfl) (by omega) (by decide) rfl dX1_init_19 ?_
      refine g_icmp_ge_t (tgt := 42) dX1_init_20 (by decide) (by decide) ?_
      show Go _ _ _ _ _ _ 42 _ _
      refine g_ald0 dX1_init_42 ?_
      refine g_iconst (v := nI 0) dX1_init_43 (by decide +kernel) ?_
      refine g_putI fb_1_1 mw_2_58 (by rfl) (by omega) rfl rfl dX1_init_44 ?_
      exact g_vret rfl dX1_init_47 ⟨rfl, Lo.wI (by omega) hc, r1, r3, r4, wI_at⟩
    | succ m ih =>
      intro i h1 hi hc r1 r3 r4
      have hb : Bz (66 + 63 * i) := Or.inr ⟨i, by omega, rfl⟩
      refine g_ild1 dX1_init_14 ?_
      refine g_ald0 dX1_init_15 ?_
      refine g_getQ fb_1_0 mw_2_57 (by rfl) (by omega) r1 dX1_init_16 ?_
      refine g_alen (by rfl) (by omega) (by decide) rfl dX1_init_19 ?_
      refine g_icmp_ge_f (tgt := 42) dX1_init_20 (by decide) (nI_ge (by omega) (by omega)) ?_
      show Go _ _ _ _ _ _ 23 _ _
      refine g_ald0 dX1_init_23 ?_
      refine g_getQ fb_1_0 mw_2_57 (by rfl) (by omega) r1 dX1_init_24 ?_
      refine g_ild1 dX1_init_27 ?_
      refine g_new cb6 mw_2_54 mw_1_22 mw_1_2 (lz0 hb) (by omega) dX1_init_28 ?_
      refine g_dup dX1_init_31 rfl ?_
      refine g_callI0 (c_stateInit (66 + 63 * i) hb) mw_2_56 ok_X6_init ⟨by decide, by decide⟩ (by omega) (by omega) (Nat.le_of_ble_eq_true rfl) dX1_init_32 (rV_K ?_)
      rintro h2 ⟨L2, s2, -⟩
      have t2 : ∀ a j, a < 66 + 63 * i → h2.2.2.2 a j = h1.2.2.2 a j := fun a j ha => by rw [(L2 a ha).2.2.2]; exact wN_q (by omega)
      show Go _ _ _ _ _ _ 35 _ _
      refine g_qast6 (w := 4) rfl (by omega) rfl (by omega) (lz0 hb) (by omega) dX1_init_35 ?_
      refine g_iinc1 (by decide) dX1_init_36 (nI_1 i) ?_
      refine g_goto (tgt := 14) dX1_init_39 (by decide) ?_
      (have y := ih (i + 1) (wQ h2 65 i (some (66 + 63 * i))) (by omega) (Lo.wQ (by omega) ((Lo.wN (by omega) hc).tr L2 (by omega))) ((wQ_ne (by omega)).trans ((t2 _ _ (by omega)).trans r1)) (fun q hq => by by_cases e : q = i; subst e; exact wQ_at; exact (wQ_ne (by omega)).trans ((t2 _ _ (by omega)).trans (r3 q (by omega)))) (fun q hq => by by_cases e : q = i; subst e; exact s2.lo (fun a j ha _ => wQ_ne (by omega)); exact (r4 q (by omega)).lo (fun a j ha ha2 => (wQ_ne (by omega)).trans (t2 _ _ (by omega)))); rw [show 66 + 63 * (i + 1) = 66 + 63 * i + 63 by omega] at y; exact y)
  refine g_ald0 dX1_init_0 ?_
  refine g_objInit mw_2_53 (by decide) (Nat.le_of_ble_eq_true rfl) dX1_init_1 ?_
  refine g_ald0 dX1_init_4 ?_
  refine g_iconst (v := nI 4) dX1_init_5 (by decide +kernel) ?_
  refine g_newq6 mw_2_54 (by rfl) rfl (by omega) dX1_init_6 ?_
  show Go _ _ _ _ _ _ 9 _ _
  refine g_putQ fb_1_0 rfl rfl mw_2_57 (by rfl) (by omega) dX1_init_9 ?_
  refine g_iconst (v := nI 0) dX1_init_12 (by decide +kernel) ?_
  refine g_ist1 (by decide) dX1_init_13 ?_
  exact loop1 4 0 _ (by omega) (Lo.wQ (by omega) (Lo.wN (by omega) (Lo.rf _ _))) wQ_at (fun q hq => absurd hq (Nat.not_lt_zero q)) (fun q hq => absurd hq (Nat.not_lt_zero q))
theorem c_textInit : Ct G mX8_init [ga G 444] h 445 449 (rV (fun h' => Lo h h' 444)) := by
  refine Ct.of rfl (by simp [Value.category, ga]) (Nat.le_of_ble_eq_true rfl) (by omega) ?_
  show Go _ _ _ _ _ _ _ [some (ga G 444)] []
  refine g_ald0 dX8_init_0 ?_
  refine g_objInit mw_2_70 (by decide) (Nat.le_of_ble_eq_true rfl) dX8_init_1 ?_
  refine g_ald0 dX8_init_4 ?_
  refine g_bipush (v := nI 60) dX8_init_5 (by decide +kernel) ?_
  refine g_newa_char mw_2_94 (by decide) rfl (by omega) dX8_init_7 ?_
  show Go _ _ _ _ _ _ 9 _ _
  refine g_putQ fb_8_0 rfl rfl mw_2_71 (by first | assumption | exact lay_item (by omega) | exact lay_drive (by omega) | exact lay_job (by omega) | rfl) (by omega) dX8_init_9 ?_
  refine g_ald0 dX8_init_12 ?_
  refine g_iconst (v := nI 0) dX8_init_13 (by decide +kernel) ?_
  refine g_putI fb_8_1 mw_2_72 (by first | assumption | exact lay_item (by omega) | exact lay_drive (by omega) | exact lay_job (by omega) | rfl) (by omega) rfl rfl dX8_init_14 ?_
  refine g_ald0 dX8_init_17 ?_
  refine g_iconst (v := nI 0) dX8_init_18 (by decide +kernel) ?_
  show Go _ _ _ _ _ _ 19 _ _
  refine g_putI fb_8_2 mw_2_74 (by first | assumption | exact lay_item (by omega) | exact lay_drive (by omega) | exact lay_job (by omega) | rfl) (by omega) rfl rfl dX8_init_19 ?_
  refine g_ald0 dX8_init_22 ?_
  refine g_bipush (v := nI 60) dX8_init_23 (by decide +kernel) ?_
  refine g_newa_int mw_1_238 (by decide) rfl (by omega) dX8_init_25 ?_
  refine g_putQ fb_8_3 rfl rfl mw_2_75 (by first | assumption | exact lay_item (by omega) | exact lay_drive (by omega) | exact lay_job (by omega) | rfl) (by omega) dX8_init_27 ?_
  refine g_ald0 dX8_init_30 ?_
  show Go _ _ _ _ _ _ 31 _ _
  refine g_bipush (v := nI 60) dX8_init_31 (by decide +kernel) ?_
  refine g_newa_int mw_1_238 (by decide) rfl (by omega) dX8_init_33 ?_
  refine g_putQ fb_8_4 rfl rfl mw_2_76 (by first | assumption | exact lay_item (by omega) | exact lay_drive (by omega) | exact lay_job (by omega) | rfl) (by omega) dX8_init_35 ?_
  refine g_ald0 dX8_init_38 ?_
  refine g_bipush (v := nI 60) dX8_init_39 (by decide +kernel) ?_
  refine g_newa_int mw_1_238 (by decide) rfl (by omega) dX8_init_41 ?_
  show Go _ _ _ _ _ _ 43 _ _
  refine g_putQ fb_8_5 rfl rfl mw_2_77 (by first | assumption | exact lay_item (by omega) | exact lay_drive (by omega) | exact lay_job (by omega) | rfl) (by omega) dX8_init_43 ?_
  refine g_ald0 dX8_init_46 ?_
  refine g_iconst (v := nI 0) dX8_init_47 (by decide +kernel) ?_
  refine g_putI fb_8_6 mw_2_78 (by first | assumption | exact lay_item (by omega) | exact lay_drive (by omega) | exact lay_job (by omega) | rfl) (by omega) rfl rfl dX8_init_48 ?_
  exact g_vret rfl dX8_init_51 ⟨rfl, by repeat (first | exact Lo.rf _ _ | refine Lo.wI (by omega) ?_ | refine Lo.wQ (by omega) ?_ | refine Lo.wN (by omega) ?_)⟩
theorem N0.cg {h h' : Hp} (e : ∀ a, 1 ≤ a → a < 64 → h'.1 a = h.1 a ∧ h'.2.1 a = h.2.1 a) (n : N0 h 1) : N0 h' 1 := by
  unfold N0 at n ⊢
  rw [(e 1 (by omega) (by omega)).1, (e 1 (by omega) (by omega)).2, (e (1 + 1) (by omega) (by omega)).1, (e (1 + 26) (by omega) (by omega)).1, (e (1 + 58) (by omega) (by omega)).1]
  exact n
theorem c_robotInit : Ct G mX9_init [ga G 0] h 1 449 (rV (fun h' => Sh h' ∧ N0 h' 1 ∧ h'.1 64 1 = 0)) := by
  refine Ct.of rfl (by simp [Value.category, ga]) (Nat.le_of_ble_eq_true rfl) (by omega) ?_
  show Go _ _ _ _ _ _ _ [some (ga G 0)] []
  refine g_ald0 dX9_init_0 ?_
  refine g_objInit mw_1_18 (by decide) (Nat.le_of_ble_eq_true rfl) dX9_init_1 ?_
  refine g_ald0 dX9_init_4 ?_
  refine g_new cb6 mw_1_21 mw_1_22 mw_1_2 (by rfl) (by omega) dX9_init_5 ?_
  refine g_dup dX9_init_8 rfl ?_
  show Go _ _ _ _ _ _ 9 _ _
  refine g_callI0 (c_stateInit 1 (Or.inl rfl)) mw_1_23 ok_X6_init ⟨by decide, by decide⟩ (by omega) (by omega) (Nat.le_of_ble_eq_true rfl) dX9_init_9 (rV_K ?_)
  rintro h1 ⟨L1, s1, n1⟩
  refine g_putQ fb_9_0 rfl rfl mw_2_95 (by rfl) (by omega) dX9_init_12 ?_
  refine g_ald0 dX9_init_15 ?_
  refine g_new cb1 mw_2_48 mw_2_49 mw_1_9 (by rfl) (by omega) dX9_init_16 ?_
  refine g_dup dX9_init_19 rfl ?_
  refine g_callI0 c_histInit mw_2_50 ok_X1_init ⟨by decide, by decide⟩ (by omega) (by omega) (Nat.le_of_ble_eq_true rfl) dX9_init_20 (rV_K ?_)
  rintro h2 ⟨L2, p1, p2, p3, p4⟩
  show Go _ _ _ _ _ _ 23 _ _
  refine g_putQ fb_9_1 rfl rfl mw_2_96 (by rfl) (by omega) dX9_init_23 ?_
  refine g_ald0 dX9_init_26 ?_
  refine g_new cb6 mw_1_21 mw_1_22 mw_1_2 (by rfl) (by omega) dX9_init_27 ?_
  refine g_dup dX9_init_30 rfl ?_
  refine g_callI0 (c_stateInit 318 (Or.inr ⟨4, by omega, rfl⟩)) mw_1_23 ok_X6_init ⟨by decide, by decide⟩ (by omega) (by omega) (Nat.le_of_ble_eq_true rfl) dX9_init_31 (rV_K ?_)
  rintro h3 ⟨L3, -, -⟩
  refine g_putQ fb_9_2 rfl rfl mw_2_97 (by rfl) (by omega) dX9_init_34 ?_
  show Go _ _ _ _ _ _ 37 _ _
  refine g_ald0 dX9_init_37 ?_
  refine g_iconst (v := nI 0) dX9_init_38 (by decide +kernel) ?_
  refine g_putI fb_9_3 mw_2_98 (by rfl) (by omega) rfl rfl dX9_init_39 ?_
  refine g_ald0 dX9_init_42 ?_
  refine g_new cb6 mw_1_21 mw_1_22 mw_1_2 (by rfl) (by omega) dX9_init_43 ?_
  refine g_dup dX9_init_46 rfl ?_
  show Go _ _ _ _ _ _ 47 _ _
  refine g_callI0 (c_stateInit 381 (Or.inr ⟨5, by omega, rfl⟩)) mw_1_23 ok_X6_init ⟨by decide, by decide⟩ (by omega) (by omega) (Nat.le_of_ble_eq_true rfl) dX9_init_47 (rV_K ?_)
  rintro h4 ⟨L4, -, -⟩
  refine g_putQ fb_9_4 rfl rfl mw_2_99 (by rfl) (by omega) dX9_init_50 ?_
  refine g_ald0 dX9_init_53 ?_
  refine g_new cb8 mw_2_65 mw_2_66 mw_1_10 (by rfl) (by omega) dX9_init_54 ?_
  refine g_dup dX9_init_57 rfl ?_
  refine g_callI0 c_textInit mw_2_67 ok_X8_init ⟨by decide, by decide⟩ (by omega) (by omega) (Nat.le_of_ble_eq_true rfl) dX9_init_58 (rV_K ?_)
  intro h5 L5
  have f5 : ∀ a, 1 ≤ a → a < 318 → h5.1 a = h4.1 a ∧ h5.2.1 a = h4.2.1 a ∧ h5.2.2.2 a = h4.2.2.2 a := fun a h0 ha => by
    obtain ⟨x1, x2, -, x4⟩ := L5 a (by omega)
    exact ⟨x1.trans (funext fun j => wN_i (by omega)), x2.trans (funext fun j => wN_f (by omega)), x4.trans (funext fun j => (wN_q (by omega)).trans (wQ_ne (by omega)))⟩
  have f4 : ∀ a, 1 ≤ a → a < 318 → h4.1 a = h3.1 a ∧ h4.2.1 a = h3.2.1 a ∧ h4.2.2.2 a = h3.2.2.2 a := fun a h0 ha => by
    obtain ⟨x1, x2, -, x4⟩ := L4 a (by omega)
    exact ⟨x1.trans (funext fun j => (wN_i (by omega)).trans (wI_ne (by omega))), x2.trans (funext fun j => wN_f (by omega)), x4.trans (funext fun j => (wN_q (by omega)).trans (wQ_ne (by omega)))⟩
  have f3 : ∀ a, 1 ≤ a → a < 318 → h3.1 a = h2.1 a ∧ h3.2.1 a = h2.2.1 a ∧ h3.2.2.2 a = h2.2.2.2 a := fun a h0 ha => by
    obtain ⟨x1, x2, -, x4⟩ := L3 a (by omega)
    exact ⟨x1.trans (funext fun j => wN_i (by omega)), x2.trans (funext fun j => wN_f (by omega)), x4.trans (funext fun j => (wN_q (by omega)).trans (wQ_ne (by omega)))⟩
  have f2 : ∀ a, 1 ≤ a → a < 64 → h2.1 a = h1.1 a ∧ h2.2.1 a = h1.2.1 a ∧ h2.2.2.2 a = h1.2.2.2 a := fun a h0 ha => by
    obtain ⟨x1, x2, -, x4⟩ := L2 a (by omega)
    exact ⟨x1.trans (funext fun j => wN_i (by omega)), x2.trans (funext fun j => wN_f (by omega)), x4.trans (funext fun j => (wN_q (by omega)).trans (wQ_ne (by omega)))⟩
  have g2 : ∀ a, 1 ≤ a → a < 318 → h5.1 a = h2.1 a ∧ h5.2.1 a = h2.2.1 a ∧ h5.2.2.2 a = h2.2.2.2 a := fun a h0 ha => ⟨(f5 a h0 ha).1.trans ((f4 a h0 ha).1.trans (f3 a h0 ha).1), (f5 a h0 ha).2.1.trans ((f4 a h0 ha).2.1.trans (f3 a h0 ha).2.1), (f5 a h0 ha).2.2.trans ((f4 a h0 ha).2.2.trans (f3 a h0 ha).2.2)⟩
  have g1 : ∀ a, 1 ≤ a → a < 64 → h5.1 a = h1.1 a ∧ h5.2.1 a = h1.2.1 a ∧ h5.2.2.2 a = h1.2.2.2 a := fun a h0 ha => ⟨(g2 a h0 (by omega)).1.trans (f2 a h0 ha).1, (g2 a h0 (by omega)).2.1.trans (f2 a h0 ha).2.1, (g2 a h0 (by omega)).2.2.trans (f2 a h0 ha).2.2⟩
  have z5 : h5.2.2.2 0 = fun j => (wQ h4 0 4 (some 381)).2.2.2 0 j := (L5 0 (by omega)).2.2.2.trans (funext fun j => wN_q (by omega))
  have z4 : h4.2.2.2 0 = fun j => (wQ h3 0 2 (some 318)).2.2.2 0 j := (L4 0 (by omega)).2.2.2.trans (funext fun j => wN_q (by omega))
  have z3 : h3.2.2.2 0 = fun j => (wQ h2 0 1 (some 64)).2.2.2 0 j := (L3 0 (by omega)).2.2.2.trans (funext fun j => wN_q (by omega))
  have z2 : h2.2.2.2 0 = fun j => (wQ h1 0 0 (some 1)).2.2.2 0 j := (L2 0 (by omega)).2.2.2.trans (funext fun j => wN_q (by omega))
  have y0 : h5.2.2.2 0 0 = some 1 := by
    rw [z5]; refine (wQ_ne (by omega)).trans ?_
    rw [z4]; refine (wQ_ne (by omega)).trans ?_
    rw [z3]; refine (wQ_ne (by omega)).trans ?_
    rw [z2]; exact wQ_at
  have y1 : h5.2.2.2 0 1 = some 64 := by
    rw [z5]; refine (wQ_ne (by omega)).trans ?_
    rw [z4]; refine (wQ_ne (by omega)).trans ?_
    rw [z3]; exact wQ_at
  show Go _ _ _ _ _ _ 61 _ _
  refine g_putQ fb_9_5 rfl rfl mw_2_100 (by rfl) (by omega) dX9_init_61 ?_
  exact g_vret rfl dX9_init_64 ⟨rfl, ⟨s1.lo (fun a j h0 ha => (wQ_ne (by omega)).trans (congrFun (g1 a h0 (by omega)).2.2 j)), (wQ_ne (by omega)).trans y0, (wQ_ne (by omega)).trans y1, (wQ_ne (by omega)).trans ((congrFun (g2 64 (by omega) (by omega)).2.2 0).trans p1), fun i hi => ⟨i, hi, (wQ_ne (by omega)).trans ((congrFun (g2 65 (by omega) (by omega)).2.2 i).trans (p2 i hi))⟩, fun j hj => (p3 j hj).lo (fun a k h0 ha => (wQ_ne (by omega)).trans (congrFun (g2 a (by omega) (by omega)).2.2 k))⟩, n1.cg (fun a h0 ha => ⟨(g1 a h0 ha).1, (g1 a h0 ha).2.1⟩), (congrFun (g2 64 (by omega) (by omega)).1 1).trans p4⟩
end P58
