/-! ===== COPIES OF STATES, THE HISTORY ===== -/
/-- outside [lo, hi) nothing changes, no reference and no double anywhere -/
def Ck (h h' : Hp) (lo hi : Nat) : Prop := (∀ a j, (a < lo ∨ hi ≤ a) → h'.1 a j = h.1 a j ∧ h'.2.1 a j = h.2.1 a j) ∧ h'.2.2 = h.2.2
theorem Ck.rf (h : Hp) (lo hi : Nat) : Ck h h lo hi := ⟨fun _ _ _ => ⟨rfl, rfl⟩, rfl⟩
theorem Ck.wI {h h1 : Hp} {lo hi a j : Nat} {v : Int32} (ha : lo ≤ a ∧ a < hi) (c : Ck h h1 lo hi) : Ck h (wI h1 a j v) lo hi := ⟨fun b i hb => ⟨(if_neg (fun q => by omega)).trans (c.1 b i hb).1, (c.1 b i hb).2⟩, c.2⟩
theorem Ck.wF {h h1 : Hp} {lo hi a j : Nat} {v : UInt32} (ha : lo ≤ a ∧ a < hi) (c : Ck h h1 lo hi) : Ck h (wF h1 a j v) lo hi := ⟨fun b i hb => ⟨(c.1 b i hb).1, (if_neg (fun q => by omega)).trans (c.1 b i hb).2⟩, c.2⟩
theorem Ck.wR {h h1 : Hp} {lo hi a : Nat} {f : Nat → Int32} (ha : lo ≤ a ∧ a < hi) (c : Ck h h1 lo hi) : Ck h (wR h1 a f) lo hi := ⟨fun b i hb => ⟨(if_neg (fun q => by omega)).trans (c.1 b i hb).1, (c.1 b i hb).2⟩, c.2⟩
theorem Ck.tr {h h1 h2 : Hp} {lo hi lo2 hi2 : Nat} (c : Ck h h1 lo hi) (c2 : Ck h1 h2 lo2 hi2) (hl : lo ≤ lo2) (hh : hi2 ≤ hi) : Ck h h2 lo hi := ⟨fun a j ha => ⟨(c2.1 a j (by omega)).1.trans (c.1 a j ha).1, (c2.1 a j (by omega)).2.trans (c.1 a j ha).2⟩, c2.2.trans c.2⟩
theorem ck_q {h h1 : Hp} {lo hi k j q : Nat} (c : Ck h h1 lo hi) (hq : h.2.2.2 k j = some q) : h1.2.2.2 k j = some q := by rw [c.2]; exact hq
theorem ck_St {h h1 : Hp} {lo hi b : Nat} (c : Ck h h1 lo hi) (s : St h b) : St h1 b := by
  unfold St at s ⊢
  rw [c.2]; exact s
def bo (x : Int32) : Prop := narrow .boolean (.int x) = .int x ∧ fits .boolean (.int x) = true
/-- a history's state begins there -/
def Bs (b : Nat) : Prop := ∃ j, j < 4 ∧ b = 66 + 63 * j
theorem lay_b {b o : Nat} (hb : Bs b) (ho : o < 63) : Lay (b + o) = SL o := by
  obtain ⟨j, hj, rfl⟩ := hb
  unfold Lay
  rw [if_neg (by omega), if_neg (by omega), if_neg (by omega), if_neg (by omega), if_pos (by omega)]
  congr 1
  omega
theorem lb0 {b : Nat} (hb : Bs b) : Lay b = .inl 6 := (lay_b (o := 0) hb (by omega)).trans rfl
theorem lb1 {b : Nat} (hb : Bs b) : Lay (b + 1) = .inl 7 := (lay_b hb (by omega)).trans rfl
theorem lb2 {b : Nat} (hb : Bs b) : Lay (b + 2) = .inr (3, 18) := (lay_b hb (by omega)).trans rfl
theorem lb21 {b : Nat} (hb : Bs b) : Lay (b + 21) = .inr (4, 4) := (lay_b hb (by omega)).trans rfl
theorem lb26 {b : Nat} (hb : Bs b) : Lay (b + 26) = .inl 5 := (lay_b hb (by omega)).trans rfl
theorem lb27 {b : Nat} (hb : Bs b) : Lay (b + 27) = .inr (5, 30) := (lay_b hb (by omega)).trans rfl
theorem lb58 {b : Nat} (hb : Bs b) : Lay (b + 58) = .inl 4 := (lay_b hb (by omega)).trans rfl
theorem lb59 {b : Nat} (hb : Bs b) : Lay (b + 59) = .inr (0, 10) := (lay_b hb (by omega)).trans rfl
theorem lb60 {b : Nat} (hb : Bs b) : Lay (b + 60) = .inr (0, 10) := (lay_b hb (by omega)).trans rfl
theorem lb61 {b : Nat} (hb : Bs b) : Lay (b + 61) = .inr (0, 10) := (lay_b hb (by omega)).trans rfl
theorem lb62 {b : Nat} (hb : Bs b) : Lay (b + 62) = .inr (0, 10) := (lay_b hb (by omega)).trans rfl
theorem lbi {b i : Nat} (hb : Bs b) (hi : i < 18) : Lay (b + 3 + i) = .inl 2 := by
  rw [show b + 3 + i = b + (3 + i) by omega, lay_b hb (by omega)]
  unfold SL
  rw [if_neg (by omega), if_neg (by omega), if_neg (by omega), if_pos (by omega)]
theorem lbd {b i : Nat} (hb : Bs b) (hi : i < 4) : Lay (b + 22 + i) = .inl 0 := by
  rw [show b + 22 + i = b + (22 + i) by omega, lay_b hb (by omega)]
  unfold SL
  rw [if_neg (by omega), if_neg (by omega), if_neg (by omega), if_neg (by omega), if_neg (by omega), if_pos (by omega)]
theorem lbj {b i : Nat} (hb : Bs b) (hi : i < 30) : Lay (b + 28 + i) = .inl 3 := by
  rw [show b + 28 + i = b + (28 + i) by omega, lay_b hb (by omega)]
  unfold SL
  rw [if_neg (by omega), if_neg (by omega), if_neg (by omega), if_neg (by omega), if_neg (by omega), if_neg (by omega), if_neg (by omega), if_neg (by omega), if_pos (by omega)]
theorem Bs.lt {b : Nat} (hb : Bs b) : 66 ≤ b ∧ b + 63 ≤ 318 := by
  obtain ⟨j, hj, rfl⟩ := hb
  omega
section P13
variable {G : Gl} {h : Hp}
theorem c_icopy (k k2 : Nat) (hk : Lay k = .inl 2) (hk2 : Lay k2 = .inl 2) (l1 : k < 456) (l2 : k2 < 456) (hbo : bo (h.1 k2 0)) : Ct G mX2_copyFrom [ga G k, ga G k2] h 456 456 (rV (fun h' => Ck h h' k (k + 1))) := by
  refine Ct.of rfl (by simp [Value.category, ga]) (Nat.le_of_ble_eq_true rfl) (Nat.le_refl _) ?_
  show Go _ _ _ _ _ _ _ [some (ga G k), some (ga G k2)] []
  refine g_ald0 dX2_copyFrom_0 ?_
  refine g_ald1 dX2_copyFrom_1 ?_
  refine g_getI_a fb_2_0 mw_1_40 (by first | rfl | assumption | (exact lay_item (by omega)) | (exact lay_drive (by omega)) | (exact lay_job (by omega))) (by omega) dX2_copyFrom_2 (fun xx2 ee2 => ?_)
  refine g_putI fb_2_0 mw_1_40 (by first | rfl | assumption | (exact lay_item (by omega)) | (exact lay_drive (by omega)) | (exact lay_job (by omega))) (by omega) (by rw [← ee2]; exact hbo.1) (by rw [← ee2]; exact hbo.2) dX2_copyFrom_5 ?_
  refine g_ald0 dX2_copyFrom_8 ?_
  show Go _ _ _ _ _ _ 9 _ _
  refine g_ald1 dX2_copyFrom_9 ?_
  refine g_getI_a fb_2_1 mw_1_44 (by first | rfl | assumption | (exact lay_item (by omega)) | (exact lay_drive (by omega)) | (exact lay_job (by omega))) (by omega) dX2_copyFrom_10 (fun xx10 ee10 => ?_)
  refine g_putI fb_2_1 mw_1_44 (by first | rfl | assumption | (exact lay_item (by omega)) | (exact lay_drive (by omega)) | (exact lay_job (by omega))) (by omega) rfl rfl dX2_copyFrom_13 ?_
  refine g_ald0 dX2_copyFrom_16 ?_
  refine g_ald1 dX2_copyFrom_17 ?_
  refine g_getI_a fb_2_2 mw_1_47 (by first | rfl | assumption | (exact lay_item (by omega)) | (exact lay_drive (by omega)) | (exact lay_job (by omega))) (by omega) dX2_copyFrom_18 (fun xx18 ee18 => ?_)
  show Go _ _ _ _ _ _ 21 _ _
  refine g_putI fb_2_2 mw_1_47 (by first | rfl | assumption | (exact lay_item (by omega)) | (exact lay_drive (by omega)) | (exact lay_job (by omega))) (by omega) rfl rfl dX2_copyFrom_21 ?_
  refine g_ald0 dX2_copyFrom_24 ?_
  refine g_ald1 dX2_copyFrom_25 ?_
  refine g_getI_a fb_2_3 mw_1_49 (by first | rfl | assumption | (exact lay_item (by omega)) | (exact lay_drive (by omega)) | (exact lay_job (by omega))) (by omega) dX2_copyFrom_26 (fun xx26 ee26 => ?_)
  refine g_putI fb_2_3 mw_1_49 (by first | rfl | assumption | (exact lay_item (by omega)) | (exact lay_drive (by omega)) | (exact lay_job (by omega))) (by omega) rfl rfl dX2_copyFrom_29 ?_
  refine g_ald0 dX2_copyFrom_32 ?_
  show Go _ _ _ _ _ _ 33 _ _
  refine g_ald1 dX2_copyFrom_33 ?_
  refine g_getI_a fb_2_4 mw_1_51 (by first | rfl | assumption | (exact lay_item (by omega)) | (exact lay_drive (by omega)) | (exact lay_job (by omega))) (by omega) dX2_copyFrom_34 (fun xx34 ee34 => ?_)
  refine g_putI fb_2_4 mw_1_51 (by first | rfl | assumption | (exact lay_item (by omega)) | (exact lay_drive (by omega)) | (exact lay_job (by omega))) (by omega) rfl rfl dX2_copyFrom_37 ?_
  refine g_ald0 dX2_copyFrom_40 ?_
  refine g_ald1 dX2_copyFrom_41 ?_
  refine g_getI_a fb_2_5 mw_1_55 (by first | rfl | assumption | (exact lay_item (by omega)) | (exact lay_drive (by omega)) | (exact lay_job (by omega))) (by omega) dX2_copyFrom_42 (fun xx42 ee42 => ?_)
  show Go _ _ _ _ _ _ 45 _ _
  refine g_putI fb_2_5 mw_1_55 (by first | rfl | assumption | (exact lay_item (by omega)) | (exact lay_drive (by omega)) | (exact lay_job (by omega))) (by omega) rfl rfl dX2_copyFrom_45 ?_
  refine g_ald0 dX2_copyFrom_48 ?_
  refine g_ald1 dX2_copyFrom_49 ?_
  refine g_getF_a fb_2_6 mw_1_56 (by first | rfl | assumption | (exact lay_item (by omega)) | (exact lay_drive (by omega)) | (exact lay_job (by omega))) (by omega) dX2_copyFrom_50 (fun xx50 ee50 => ?_)
  refine g_putF fb_2_6 mw_1_56 (by first | rfl | assumption | (exact lay_item (by omega)) | (exact lay_drive (by omega)) | (exact lay_job (by omega))) (by omega) dX2_copyFrom_53 ?_
  refine g_ald0 dX2_copyFrom_56 ?_
  show Go _ _ _ _ _ _ 57 _ _
  refine g_ald1 dX2_copyFrom_57 ?_
  refine g_getI_a fb_2_7 mw_1_58 (by first | rfl | assumption | (exact lay_item (by omega)) | (exact lay_drive (by omega)) | (exact lay_job (by omega))) (by omega) dX2_copyFrom_58 (fun xx58 ee58 => ?_)
  refine g_putI fb_2_7 mw_1_58 (by first | rfl | assumption | (exact lay_item (by omega)) | (exact lay_drive (by omega)) | (exact lay_job (by omega))) (by omega) rfl rfl dX2_copyFrom_61 ?_
  exact g_vret rfl dX2_copyFrom_64 ⟨rfl, by repeat (first | exact Ck.rf _ _ _ | refine Ck.wI (by omega) ?_ | refine Ck.wF (by omega) ?_)⟩
theorem c_dcopy (k k2 : Nat) (hk : Lay k = .inl 0) (hk2 : Lay k2 = .inl 0) (l1 : k < 456) (l2 : k2 < 456) : Ct G mX0_copyFrom [ga G k, ga G k2] h 456 456 (rV (fun h' => Ck h h' k (k + 1))) := by
  refine Ct.of rfl (by simp [Value.category, ga]) (Nat.le_of_ble_eq_true rfl) (Nat.le_refl _) ?_
  show Go _ _ _ _ _ _ _ [some (ga G k), some (ga G k2)] []
  refine g_ald0 dX0_copyFrom_0 ?_
  refine g_ald1 dX0_copyFrom_1 ?_
  refine g_getI_a fb_0_0 mw_1_84 (by first | rfl | assumption | (exact lay_item (by omega)) | (exact lay_drive (by omega)) | (exact lay_job (by omega))) (by omega) dX0_copyFrom_2 (fun xx2 ee2 => ?_)
  refine g_putI fb_0_0 mw_1_84 (by first | rfl | assumption | (exact lay_item (by omega)) | (exact lay_drive (by omega)) | (exact lay_job (by omega))) (by omega) rfl rfl dX0_copyFrom_5 ?_
  refine g_ald0 dX0_copyFrom_8 ?_
  show Go _ _ _ _ _ _ 9 _ _
  refine g_ald1 dX0_copyFrom_9 ?_
  refine g_getF_a fb_0_1 mw_1_87 (by first | rfl | assumption | (exact lay_item (by omega)) | (exact lay_drive (by omega)) | (exact lay_job (by omega))) (by omega) dX0_copyFrom_10 (fun xx10 ee10 => ?_)
  refine g_putF fb_0_1 mw_1_87 (by first | rfl | assumption | (exact lay_item (by omega)) | (exact lay_drive (by omega)) | (exact lay_job (by omega))) (by omega) dX0_copyFrom_13 ?_
  refine g_ald0 dX0_copyFrom_16 ?_
  refine g_ald1 dX0_copyFrom_17 ?_
  refine g_getF_a fb_0_2 mw_1_90 (by first | rfl | assumption | (exact lay_item (by omega)) | (exact lay_drive (by omega)) | (exact lay_job (by omega))) (by omega) dX0_copyFrom_18 (fun xx18 ee18 => ?_)
  show Go _ _ _ _ _ _ 21 _ _
  refine g_putF fb_0_2 mw_1_90 (by first | rfl | assumption | (exact lay_item (by omega)) | (exact lay_drive (by omega)) | (exact lay_job (by omega))) (by omega) dX0_copyFrom_21 ?_
  refine g_ald0 dX0_copyFrom_24 ?_
  refine g_ald1 dX0_copyFrom_25 ?_
  refine g_getI_a fb_0_3 mw_1_92 (by first | rfl | assumption | (exact lay_item (by omega)) | (exact lay_drive (by omega)) | (exact lay_job (by omega))) (by omega) dX0_copyFrom_26 (fun xx26 ee26 => ?_)
  refine g_putI fb_0_3 mw_1_92 (by first | rfl | assumption | (exact lay_item (by omega)) | (exact lay_drive (by omega)) | (exact lay_job (by omega))) (by omega) rfl rfl dX0_copyFrom_29 ?_
  refine g_ald0 dX0_copyFrom_32 ?_
  show Go _ _ _ _ _ _ 33 _ _
  refine g_ald1 dX0_copyFrom_33 ?_
  refine g_getI_a fb_0_4 mw_1_93 (by first | rfl | assumption | (exact lay_item (by omega)) | (exact lay_drive (by omega)) | (exact lay_job (by omega))) (by omega) dX0_copyFrom_34 (fun xx34 ee34 => ?_)
  refine g_putI fb_0_4 mw_1_93 (by first | rfl | assumption | (exact lay_item (by omega)) | (exact lay_drive (by omega)) | (exact lay_job (by omega))) (by omega) rfl rfl dX0_copyFrom_37 ?_
  refine g_ald0 dX0_copyFrom_40 ?_
  refine g_ald1 dX0_copyFrom_41 ?_
  refine g_getI_a fb_0_5 mw_1_94 (by first | rfl | assumption | (exact lay_item (by omega)) | (exact lay_drive (by omega)) | (exact lay_job (by omega))) (by omega) dX0_copyFrom_42 (fun xx42 ee42 => ?_)
  show Go _ _ _ _ _ _ 45 _ _
  refine g_putI fb_0_5 mw_1_94 (by first | rfl | assumption | (exact lay_item (by omega)) | (exact lay_drive (by omega)) | (exact lay_job (by omega))) (by omega) rfl rfl dX0_copyFrom_45 ?_
  refine g_ald0 dX0_copyFrom_48 ?_
  refine g_ald1 dX0_copyFrom_49 ?_
  refine g_getI_a fb_0_6 mw_1_95 (by first | rfl | assumption | (exact lay_item (by omega)) | (exact lay_drive (by omega)) | (exact lay_job (by omega))) (by omega) dX0_copyFrom_50 (fun xx50 ee50 => ?_)
  refine g_putI fb_0_6 mw_1_95 (by first | rfl | assumption | (exact lay_item (by omega)) | (exact lay_drive (by omega)) | (exact lay_job (by omega))) (by omega) rfl rfl dX0_copyFrom_53 ?_
  exact g_vret rfl dX0_copyFrom_56 ⟨rfl, by repeat (first | exact Ck.rf _ _ _ | refine Ck.wI (by omega) ?_ | refine Ck.wF (by omega) ?_)⟩
theorem c_jcopy (k k2 : Nat) (hk : Lay k = .inl 3) (hk2 : Lay k2 = .inl 3) (l1 : k < 456) (l2 : k2 < 456) : Ct G mX3_copyFrom [ga G k, ga G k2] h 456 456 (rV (fun h' => Ck h h' k (k + 1))) := by
  refine Ct.of rfl (by simp [Value.category, ga]) (Nat.le_of_ble_eq_true rfl) (Nat.le_refl _) ?_
  show Go _ _ _ _ _ _ _ [some (ga G k), some (ga G k2)] []
  refine g_ald0 dX3_copyFrom_0 ?_
  refine g_ald1 dX3_copyFrom_1 ?_
  refine g_getI_a fb_3_0 mw_1_140 (by first | rfl | assumption | (exact lay_item (by omega)) | (exact lay_drive (by omega)) | (exact lay_job (by omega))) (by omega) dX3_copyFrom_2 (fun xx2 ee2 => ?_)
  refine g_putI fb_3_0 mw_1_140 (by first | rfl | assumption | (exact lay_item (by omega)) | (exact lay_drive (by omega)) | (exact lay_job (by omega))) (by omega) rfl rfl dX3_copyFrom_5 ?_
  refine g_ald0 dX3_copyFrom_8 ?_
  show Go _ _ _ _ _ _ 9 _ _
  refine g_ald1 dX3_copyFrom_9 ?_
  refine g_getI_a fb_3_1 mw_1_142 (by first | rfl | assumption | (exact lay_item (by omega)) | (exact lay_drive (by omega)) | (exact lay_job (by omega))) (by omega) dX3_copyFrom_10 (fun xx10 ee10 => ?_)
  refine g_putI fb_3_1 mw_1_142 (by first | rfl | assumption | (exact lay_item (by omega)) | (exact lay_drive (by omega)) | (exact lay_job (by omega))) (by omega) rfl rfl dX3_copyFrom_13 ?_
  refine g_ald0 dX3_copyFrom_16 ?_
  refine g_ald1 dX3_copyFrom_17 ?_
  refine g_getI_a fb_3_2 mw_1_144 (by first | rfl | assumption | (exact lay_item (by omega)) | (exact lay_drive (by omega)) | (exact lay_job (by omega))) (by omega) dX3_copyFrom_18 (fun xx18 ee18 => ?_)
  show Go _ _ _ _ _ _ 21 _ _
  refine g_putI fb_3_2 mw_1_144 (by first | rfl | assumption | (exact lay_item (by omega)) | (exact lay_drive (by omega)) | (exact lay_job (by omega))) (by omega) rfl rfl dX3_copyFrom_21 ?_
  refine g_ald0 dX3_copyFrom_24 ?_
  refine g_ald1 dX3_copyFrom_25 ?_
  refine g_getI_a fb_3_3 mw_1_146 (by first | rfl | assumption | (exact lay_item (by omega)) | (exact lay_drive (by omega)) | (exact lay_job (by omega))) (by omega) dX3_copyFrom_26 (fun xx26 ee26 => ?_)
  refine g_putI fb_3_3 mw_1_146 (by first | rfl | assumption | (exact lay_item (by omega)) | (exact lay_drive (by omega)) | (exact lay_job (by omega))) (by omega) rfl rfl dX3_copyFrom_29 ?_
  refine g_ald0 dX3_copyFrom_32 ?_
  show Go _ _ _ _ _ _ 33 _ _
  refine g_ald1 dX3_copyFrom_33 ?_
  refine g_getI_a fb_3_4 mw_1_150 (by first | rfl | assumption | (exact lay_item (by omega)) | (exact lay_drive (by omega)) | (exact lay_job (by omega))) (by omega) dX3_copyFrom_34 (fun xx34 ee34 => ?_)
  refine g_putI fb_3_4 mw_1_150 (by first | rfl | assumption | (exact lay_item (by omega)) | (exact lay_drive (by omega)) | (exact lay_job (by omega))) (by omega) rfl rfl dX3_copyFrom_37 ?_
  refine g_ald0 dX3_copyFrom_40 ?_
  refine g_ald1 dX3_copyFrom_41 ?_
  refine g_getI_a fb_3_5 mw_1_152 (by first | rfl | assumption | (exact lay_item (by omega)) | (exact lay_drive (by omega)) | (exact lay_job (by omega))) (by omega) dX3_copyFrom_42 (fun xx42 ee42 => ?_)
  show Go _ _ _ _ _ _ 45 _ _
  refine g_putI fb_3_5 mw_1_152 (by first | rfl | assumption | (exact lay_item (by omega)) | (exact lay_drive (by omega)) | (exact lay_job (by omega))) (by omega) rfl rfl dX3_copyFrom_45 ?_
  refine g_ald0 dX3_copyFrom_48 ?_
  refine g_ald1 dX3_copyFrom_49 ?_
  refine g_getI_a fb_3_6 mw_1_155 (by first | rfl | assumption | (exact lay_item (by omega)) | (exact lay_drive (by omega)) | (exact lay_job (by omega))) (by omega) dX3_copyFrom_50 (fun xx50 ee50 => ?_)
  refine g_putI fb_3_6 mw_1_155 (by first | rfl | assumption | (exact lay_item (by omega)) | (exact lay_drive (by omega)) | (exact lay_job (by omega))) (by omega) rfl rfl dX3_copyFrom_53 ?_
  refine g_ald0 dX3_copyFrom_56 ?_
  show Go _ _ _ _ _ _ 57 _ _
  refine g_ald1 dX3_copyFrom_57 ?_
  refine g_getI_a fb_3_7 mw_1_157 (by first | rfl | assumption | (exact lay_item (by omega)) | (exact lay_drive (by omega)) | (exact lay_job (by omega))) (by omega) dX3_copyFrom_58 (fun xx58 ee58 => ?_)
  refine g_putI fb_3_7 mw_1_157 (by first | rfl | assumption | (exact lay_item (by omega)) | (exact lay_drive (by omega)) | (exact lay_job (by omega))) (by omega) rfl rfl dX3_copyFrom_61 ?_
  refine g_ald0 dX3_copyFrom_64 ?_
  refine g_ald1 dX3_copyFrom_65 ?_
  refine g_getI_a fb_3_8 mw_1_159 (by first | rfl | assumption | (exact lay_item (by omega)) | (exact lay_drive (by omega)) | (exact lay_job (by omega))) (by omega) dX3_copyFrom_66 (fun xx66 ee66 => ?_)
  show Go _ _ _ _ _ _ 69 _ _
  refine g_putI fb_3_8 mw_1_159 (by first | rfl | assumption | (exact lay_item (by omega)) | (exact lay_drive (by omega)) | (exact lay_job (by omega))) (by omega) rfl rfl dX3_copyFrom_69 ?_
  refine g_ald0 dX3_copyFrom_72 ?_
  refine g_ald1 dX3_copyFrom_73 ?_
  refine g_getI_a fb_3_9 mw_1_161 (by first | rfl | assumption | (exact lay_item (by omega)) | (exact lay_drive (by omega)) | (exact lay_job (by omega))) (by omega) dX3_copyFrom_74 (fun xx74 ee74 => ?_)
  refine g_putI fb_3_9 mw_1_161 (by first | rfl | assumption | (exact lay_item (by omega)) | (exact lay_drive (by omega)) | (exact lay_job (by omega))) (by omega) rfl rfl dX3_copyFrom_77 ?_
  refine g_ald0 dX3_copyFrom_80 ?_
  show Go _ _ _ _ _ _ 81 _ _
  refine g_ald1 dX3_copyFrom_81 ?_
  refine g_getI_a fb_3_10 mw_1_163 (by first | rfl | assumption | (exact lay_item (by omega)) | (exact lay_drive (by omega)) | (exact lay_job (by omega))) (by omega) dX3_copyFrom_82 (fun xx82 ee82 => ?_)
  refine g_putI fb_3_10 mw_1_163 (by first | rfl | assumption | (exact lay_item (by omega)) | (exact lay_drive (by omega)) | (exact lay_job (by omega))) (by omega) rfl rfl dX3_copyFrom_85 ?_
  refine g_ald0 dX3_copyFrom_88 ?_
  refine g_ald1 dX3_copyFrom_89 ?_
  refine g_getI_a fb_3_11 mw_1_165 (by first | rfl | assumption | (exact lay_item (by omega)) | (exact lay_drive (by omega)) | (exact lay_job (by omega))) (by omega) dX3_copyFrom_90 (fun xx90 ee90 => ?_)
  show Go _ _ _ _ _ _ 93 _ _
  refine g_putI fb_3_11 mw_1_165 (by first | rfl | assumption | (exact lay_item (by omega)) | (exact lay_drive (by omega)) | (exact lay_job (by omega))) (by omega) rfl rfl dX3_copyFrom_93 ?_
  refine g_ald0 dX3_copyFrom_96 ?_
  refine g_ald1 dX3_copyFrom_97 ?_
  refine g_getI_a fb_3_12 mw_1_168 (by first | rfl | assumption | (exact lay_item (by omega)) | (exact lay_drive (by omega)) | (exact lay_job (by omega))) (by omega) dX3_copyFrom_98 (fun xx98 ee98 => ?_)
  refine g_putI fb_3_12 mw_1_168 (by first | rfl | assumption | (exact lay_item (by omega)) | (exact lay_drive (by omega)) | (exact lay_job (by omega))) (by omega) rfl rfl dX3_copyFrom_101 ?_
  exact g_vret rfl dX3_copyFrom_104 ⟨rfl, by repeat (first | exact Ck.rf _ _ _ | refine Ck.wI (by omega) ?_ | refine Ck.wF (by omega) ?_)⟩
theorem c_lcopy (b : Nat) (hb : Bs b) (s1 : St h 1) (sb : St h b) : Ct G mX4_copyFrom [ga G (b + 58), ga G 59] h 456 456 (rV (fun h' => Ck h h' b (b + 63))) := by
  have hlt := hb.lt
  obtain ⟨-, -, -, -, -, -, -, -, -, b1, b2, b3, b4⟩ := sb
  refine Ct.of rfl (by simp [Value.category, ga]) (Nat.le_of_ble_eq_true rfl) (Nat.le_refl _) ?_
  show Go _ _ _ _ _ _ _ [some (ga G (b + 58)), some (ga G 59)] []
  refine g_ald1 dX4_copyFrom_0 ?_
  refine g_getQ fb_4_0 mw_1_219 (by first | rfl | exact lb58 hb) (by omega) (s1_lk s1) dX4_copyFrom_1 ?_
  refine g_iconst (v := nI 0) dX4_copyFrom_4 (by decide +kernel) ?_
  refine g_ald0 dX4_copyFrom_5 ?_
  refine g_getQ fb_4_0 mw_1_219 (by first | rfl | exact lb58 hb) (by omega) b1 dX4_copyFrom_6 ?_
  show Go _ _ _ _ _ _ 9 _ _
  refine g_iconst (v := nI 0) dX4_copyFrom_9 (by decide +kernel) ?_
  refine g_bipush (v := nI 10) dX4_copyFrom_10 (by decide +kernel) ?_
  refine g_copy mw_3_115 (w0 := 10) (by decide) (by decide) (lb59 hb) (by omega) (by decide) (by decide) (by decide) (by decide) (Nat.le_of_ble_eq_true rfl) dX4_copyFrom_12 ?_
  refine g_ald1 dX4_copyFrom_15 ?_
  refine g_getQ fb_4_1 mw_1_220 (by first | rfl | exact lb58 hb) (by omega) (s1_lj s1) dX4_copyFrom_16 ?_
  refine g_iconst (v := nI 0) dX4_copyFrom_19 (by decide +kernel) ?_
  show Go _ _ _ _ _ _ 20 _ _
  refine g_ald0 dX4_copyFrom_20 ?_
  refine g_getQ fb_4_1 mw_1_220 (by first | rfl | exact lb58 hb) (by omega) b2 dX4_copyFrom_21 ?_
  refine g_iconst (v := nI 0) dX4_copyFrom_24 (by decide +kernel) ?_
  refine g_bipush (v := nI 10) dX4_copyFrom_25 (by decide +kernel) ?_
  refine g_copy mw_3_115 (w0 := 10) (by decide) (by decide) (lb60 hb) (by omega) (by decide) (by decide) (by decide) (by decide) (Nat.le_of_ble_eq_true rfl) dX4_copyFrom_27 ?_
  refine g_ald1 dX4_copyFrom_30 ?_
  show Go _ _ _ _ _ _ 31 _ _
  refine g_getQ fb_4_2 mw_1_221 (by first | rfl | exact lb58 hb) (by omega) (s1_ld s1) dX4_copyFrom_31 ?_
  refine g_iconst (v := nI 0) dX4_copyFrom_34 (by decide +kernel) ?_
  refine g_ald0 dX4_copyFrom_35 ?_
  refine g_getQ fb_4_2 mw_1_221 (by first | rfl | exact lb58 hb) (by omega) b3 dX4_copyFrom_36 ?_
  refine g_iconst (v := nI 0) dX4_copyFrom_39 (by decide +kernel) ?_
  refine g_bipush (v := nI 10) dX4_copyFrom_40 (by decide +kernel) ?_
  show Go _ _ _ _ _ _ 42 _ _
  refine g_copy mw_3_115 (w0 := 10) (by decide) (by decide) (lb61 hb) (by omega) (by decide) (by decide) (by decide) (by decide) (Nat.le_of_ble_eq_true rfl) dX4_copyFrom_42 ?_
  refine g_ald1 dX4_copyFrom_45 ?_
  refine g_getQ fb_4_3 mw_1_222 (by first | rfl | exact lb58 hb) (by omega) (s1_lt s1) dX4_copyFrom_46 ?_
  refine g_iconst (v := nI 0) dX4_copyFrom_49 (by decide +kernel) ?_
  refine g_ald0 dX4_copyFrom_50 ?_
  refine g_getQ fb_4_3 mw_1_222 (by first | rfl | exact lb58 hb) (by omega) b4 dX4_copyFrom_51 ?_
  show Go _ _ _ _ _ _ 54 _ _
  refine g_iconst (v := nI 0) dX4_copyFrom_54 (by decide +kernel) ?_
  refine g_bipush (v := nI 10) dX4_copyFrom_55 (by decide +kernel) ?_
  refine g_copy mw_3_115 (w0 := 10) (by decide) (by decide) (lb62 hb) (by omega) (by decide) (by decide) (by decide) (by decide) (Nat.le_of_ble_eq_true rfl) dX4_copyFrom_57 ?_
  refine g_ald0 dX4_copyFrom_60 ?_
  refine g_ald1 dX4_copyFrom_61 ?_
  refine g_getI_a fb_4_4 mw_1_223 (by first | rfl | exact lb58 hb) (by omega) dX4_copyFrom_62 (fun xx62 ee62 => ?_)
  show Go _ _ _ _ _ _ 65 _ _
  refine g_putI fb_4_4 mw_1_223 (by first | rfl | exact lb58 hb) (by omega) rfl rfl dX4_copyFrom_65 ?_
  refine g_ald0 dX4_copyFrom_68 ?_
  refine g_ald1 dX4_copyFrom_69 ?_
  refine g_getI_a fb_4_5 mw_1_224 (by first | rfl | exact lb58 hb) (by omega) dX4_copyFrom_70 (fun xx70 ee70 => ?_)
  refine g_putI fb_4_5 mw_1_224 (by first | rfl | exact lb58 hb) (by omega) rfl rfl dX4_copyFrom_73 ?_
  exact g_vret rfl dX4_copyFrom_76 ⟨rfl, by repeat (first | exact Ck.rf _ _ _ | refine Ck.wI (by omega) ?_ | refine Ck.wR (by omega) ?_)⟩
theorem c_qcopy (b nj : Nat) (hb : Bs b) (s1 : St h 1) (sb : St h b) (hn : h.1 27 1 = nI nj) (hj : nj ≤ 30) : Ct G mX5_copyFrom [ga G (b + 26), ga G 27] h 456 456 (rV (fun h' => Ck h h' b (b + 63))) := by
  have hlt := hb.lt
  refine Ct.of rfl (by simp [Value.category, ga]) (Nat.le_of_ble_eq_true rfl) (Nat.le_refl _) ?_
  show Go _ _ _ _ _ _ _ [some (ga G (b + 26)), some (ga G 27), none] []
  have loop : ∀ m i h1, m + i = nj → Ck h h1 b (b + 63) → h1.1 (b + 26) 1 = nI nj → Go G mX5_copyFrom 456 (rV (fun h' => Ck h h' b (b + 63))) h1 456 10 [some (ga G (b + 26)), some (ga G 27), some (.int (nI i))] [] := by
    intro m
    induction m with
    | zero =>
      intro i h1 hi hc h9
      refine g_ild2 dX5_copyFrom_10 ?_
      refine g_ald0 dX5_copyFrom_11 ?_
      refine g_getI fb_5_1 mw_1_199 (by first | rfl | exact lb26 hb | exact lb27 hb | exact lbj hb (by omega) | exact lay_job (by omega)) (by omega) dX5_copyFrom_12 ?_
      refine g_icmp_ge_t (tgt := 39) dX5_copyFrom_15 (by decide) (by rw [h9]; exact nI_le (by omega) (by omega)) ?_
      refine g_ald0 dX5_copyFrom_39 ?_
      show Go _ _ _ _ _ _ 40 _ _
      refine g_ald1 dX5_copyFrom_40 ?_
      refine g_getI fb_5_2 mw_1_202 (by first | rfl | exact lb26 hb | exact lb27 hb | exact lbj hb (by omega) | exact lay_job (by omega)) (by omega) dX5_copyFrom_41 ?_
      refine g_putI fb_5_2 mw_1_202 (by first | rfl | exact lb26 hb | exact lb27 hb | exact lbj hb (by omega) | exact lay_job (by omega)) (by omega) rfl rfl dX5_copyFrom_44 ?_
      refine g_ald0 dX5_copyFrom_47 ?_
      refine g_ald1 dX5_copyFrom_48 ?_
      refine g_getI fb_5_3 mw_1_203 (by first | rfl | exact lb26 hb | exact lb27 hb | exact lbj hb (by omega) | exact lay_job (by omega)) (by omega) dX5_copyFrom_49 ?_
      show Go _ _ _ _ _ _ 52 _ _
      refine g_putI fb_5_3 mw_1_203 (by first | rfl | exact lb26 hb | exact lb27 hb | exact lbj hb (by omega) | exact lay_job (by omega)) (by omega) rfl rfl dX5_copyFrom_52 ?_
      exact g_vret rfl dX5_copyFrom_55 ⟨rfl, by repeat (first | exact hc | refine Ck.wI (by omega) ?_)⟩
    | succ m ih =>
      intro i h1 hi hc h9
      refine g_ild2 dX5_copyFrom_10 ?_
      refine g_ald0 dX5_copyFrom_11 ?_
      refine g_getI fb_5_1 mw_1_199 (by first | rfl | exact lb26 hb | exact lb27 hb | exact lbj hb (by omega) | exact lay_job (by omega)) (by omega) dX5_copyFrom_12 ?_
      refine g_icmp_ge_f (tgt := 39) dX5_copyFrom_15 (by decide) (by rw [h9]; exact nI_ge (by omega) (by omega)) ?_
      refine g_ald0 dX5_copyFrom_18 ?_
      show Go _ _ _ _ _ _ 19 _ _
      refine g_getQ fb_5_0 mw_1_197 (by first | rfl | exact lb26 hb | exact lb27 hb | exact lbj hb (by omega) | exact lay_job (by omega)) (by omega) (ck_q hc sb.2.2.2.2.2.2.2.1) dX5_copyFrom_19 ?_
      refine g_ild2 dX5_copyFrom_22 ?_
      refine g_qald5 (by first | rfl | exact lb26 hb | exact lb27 hb | exact lbj hb (by omega) | exact lay_job (by omega)) (by omega) rfl (by omega) (ck_q hc (sb.2.2.2.2.2.2.2.2.1 i (by omega))) dX5_copyFrom_23 ?_
      refine g_ald1 dX5_copyFrom_24 ?_
      refine g_getQ fb_5_0 mw_1_197 (by first | rfl | exact lb26 hb | exact lb27 hb | exact lbj hb (by omega) | exact lay_job (by omega)) (by omega) (ck_q hc (s1_jobs s1)) dX5_copyFrom_25 ?_
      refine g_ild2 dX5_copyFrom_28 ?_
      show Go _ _ _ _ _ _ 29 _ _
      refine g_qald5 (by first | rfl | exact lb26 hb | exact lb27 hb | exact lbj hb (by omega) | exact lay_job (by omega)) (by omega) rfl (by omega) (ck_q hc (s1_job s1 (i := i) (by omega))) dX5_copyFrom_29 ?_
      refine g_callV1 (c_jcopy (h := h1) _ _ (lbj hb (by omega)) (lay_job (by omega)) (by omega) (by omega)) mw_3_107 ok_X3_copyFrom ⟨by decide, by decide⟩ (by first | rfl | exact lb26 hb | exact lb27 hb | exact lbj hb (by omega) | exact lay_job (by omega)) (by omega) rfl (by omega) (by omega) (Nat.le_of_ble_eq_true rfl) dX5_copyFrom_30 (rV_K ?_)
      intro h2 hc2
      refine g_iinc2 (by decide) dX5_copyFrom_33 (nI_1 i) ?_
      refine g_goto (tgt := 10) dX5_copyFrom_36 (by decide) ?_
      exact ih (i + 1) h2 (by omega) (hc.tr hc2 (by omega) (by omega)) ((hc2.1 _ _ (by omega)).1.trans h9)
  refine g_ald0 dX5_copyFrom_0 ?_
  refine g_ald1 dX5_copyFrom_1 ?_
  refine g_getI fb_5_1 mw_1_199 (by first | rfl | exact lb26 hb) (by omega) dX5_copyFrom_2 ?_
  refine g_putI fb_5_1 mw_1_199 (by first | rfl | exact lb26 hb) (by omega) rfl rfl dX5_copyFrom_5 ?_
  refine g_iconst (v := nI 0) dX5_copyFrom_8 (by decide +kernel) ?_
  show Go _ _ _ _ _ _ 9 _ _
  refine g_ist2 (by decide) dX5_copyFrom_9 ?_
  exact loop nj 0 _ (by omega) (Ck.wI (by omega) (Ck.rf _ _ _)) ((if_pos ⟨rfl, rfl⟩).trans hn)
theorem c_scopy (b ni nd : Nat) (hb : Bs b) (s1 : St h 1) (sb : St h b) (hn : h.1 2 1 = nI ni) (hi9 : ni ≤ 18) (hn2 : h.1 2 3 = nI nd) (hd9 : nd ≤ 4) (hbo : ∀ i, i < ni → bo (h.1 (4 + i) 0)) : Ct G mX7_copyFrom [ga G (b + 1), ga G 2] h 456 456 (rV (fun h' => Ck h h' b (b + 63))) := by
  have hlt := hb.lt
  refine Ct.of rfl (by simp [Value.category, ga]) (Nat.le_of_ble_eq_true rfl) (Nat.le_refl _) ?_
  show Go _ _ _ _ _ _ _ [some (ga G (b + 1)), some (ga G 2), none] []
  have loop2 : ∀ m i h1, m + i = nd → Ck h h1 b (b + 63) → h1.1 (b + 1) 3 = nI nd → Go G mX7_copyFrom 456 (rV (fun h' => Ck h h' b (b + 63))) h1 456 49 [some (ga G (b + 1)), some (ga G 2), some (.int (nI i))] [] := by
    intro m
    induction m with
    | zero =>
      intro i h1 hi hc h9
      refine g_ild2 dX7_copyFrom_49 ?_
      refine g_ald0 dX7_copyFrom_50 ?_
      refine g_getI fb_7_3 mw_1_116 (by first | rfl | exact lb1 hb | exact lb21 hb | exact lbd hb (by omega) | exact lay_drive (by omega)) (by omega) dX7_copyFrom_51 ?_
      refine g_icmp_ge_t (tgt := 78) dX7_copyFrom_54 (by decide) (by rw [h9]; exact nI_le (by omega) (by omega)) ?_
      exact g_vret rfl dX7_copyFrom_78 ⟨rfl, hc⟩
    | succ m ih =>
      intro i h1 hi hc h9
      refine g_ild2 dX7_copyFrom_49 ?_
      refine g_ald0 dX7_copyFrom_50 ?_
      refine g_getI fb_7_3 mw_1_116 (by first | rfl | exact lb1 hb | exact lb21 hb | exact lbd hb (by omega) | exact lay_drive (by omega)) (by omega) dX7_copyFrom_51 ?_
      refine g_icmp_ge_f (tgt := 78) dX7_copyFrom_54 (by decide) (by rw [h9]; exact nI_ge (by omega) (by omega)) ?_
      refine g_ald0 dX7_copyFrom_57 ?_
      show Go _ _ _ _ _ _ 58 _ _
      refine g_getQ fb_7_2 mw_1_115 (by first | rfl | exact lb1 hb | exact lb21 hb | exact lbd hb (by omega) | exact lay_drive (by omega)) (by omega) (ck_q hc sb.2.2.2.2.1) dX7_copyFrom_58 ?_
      refine g_ild2 dX7_copyFrom_61 ?_
      refine g_qald4 (by first | rfl | exact lb1 hb | exact lb21 hb | exact lbd hb (by omega) | exact lay_drive (by omega)) (by omega) rfl (by omega) (ck_q hc (sb.2.2.2.2.2.2.1 i (by omega))) dX7_copyFrom_62 ?_
      refine g_ald1 dX7_copyFrom_63 ?_
      refine g_getQ fb_7_2 mw_1_115 (by first | rfl | exact lb1 hb | exact lb21 hb | exact lbd hb (by omega) | exact lay_drive (by omega)) (by omega) (ck_q hc (s1_drives s1)) dX7_copyFrom_64 ?_
      refine g_ild2 dX7_copyFrom_67 ?_
      show Go _ _ _ _ _ _ 68 _ _
      refine g_qald4 (by first | rfl | exact lb1 hb | exact lb21 hb | exact lbd hb (by omega) | exact lay_drive (by omega)) (by omega) rfl (by omega) (ck_q hc (s1_drive s1 (i := i) (by omega))) dX7_copyFrom_68 ?_
      refine g_callV1 (c_dcopy (h := h1) _ _ (lbd hb (by omega)) (lay_drive (by omega)) (by omega) (by omega)) mw_3_99 ok_X0_copyFrom ⟨by decide, by decide⟩ (by first | rfl | exact lb1 hb | exact lb21 hb | exact lbd hb (by omega) | exact lay_drive (by omega)) (by omega) rfl (by omega) (by omega) (Nat.le_of_ble_eq_true rfl) dX7_copyFrom_69 (rV_K ?_)
      intro h2 hc2
      refine g_iinc2 (by decide) dX7_copyFrom_72 (nI_1 i) ?_
      refine g_goto (tgt := 49) dX7_copyFrom_75 (by decide) ?_
      exact ih (i + 1) h2 (by omega) (hc.tr hc2 (by omega) (by omega)) ((hc2.1 _ _ (by omega)).1.trans h9)
  have loop : ∀ m i h1, m + i = ni → Ck h h1 b (b + 63) → h1.1 (b + 1) 1 = nI ni → Go G mX7_copyFrom 456 (rV (fun h' => Ck h h' b (b + 63))) h1 456 10 [some (ga G (b + 1)), some (ga G 2), some (.int (nI i))] [] := by
    intro m
    induction m with
    | zero =>
      intro i h1 hi hc h9
      refine g_ild2 dX7_copyFrom_10 ?_
      refine g_ald0 dX7_copyFrom_11 ?_
      refine g_getI fb_7_1 mw_1_113 (by first | rfl | exact lb1 hb | exact lb2 hb | exact lbi hb (by omega) | exact lay_item (by omega)) (by omega) dX7_copyFrom_12 ?_
      refine g_icmp_ge_t (tgt := 39) dX7_copyFrom_15 (by decide) (by rw [h9]; exact nI_le (by omega) (by omega)) ?_
      refine g_ald0 dX7_copyFrom_39 ?_
      show Go _ _ _ _ _ _ 40 _ _
      refine g_ald1 dX7_copyFrom_40 ?_
      refine g_getI fb_7_3 mw_1_116 (by first | rfl | exact lb1 hb | exact lb2 hb | exact lbi hb (by omega) | exact lay_item (by omega)) (by omega) dX7_copyFrom_41 ?_
      refine g_putI fb_7_3 mw_1_116 (by first | rfl | exact lb1 hb | exact lb2 hb | exact lbi hb (by omega) | exact lay_item (by omega)) (by omega) rfl rfl dX7_copyFrom_44 ?_
      refine g_iconst (v := nI 0) dX7_copyFrom_47 (by decide +kernel) ?_
      refine g_ist2 (by decide) dX7_copyFrom_48 ?_
      exact loop2 nd 0 _ (by omega) (Ck.wI (by omega) hc) ((if_pos ⟨rfl, rfl⟩).trans (((hc.1 2 3 (by omega)).1).trans hn2))
    | succ m ih =>
      intro i h1 hi hc h9
      refine g_ild2 dX7_copyFrom_10 ?_
      refine g_ald0 dX7_copyFrom_11 ?_
      refine g_getI fb_7_1 mw_1_113 (by first | rfl | exact lb1 hb | exact lb2 hb | exact lbi hb (by omega) | exact lay_item (by omega)) (by omega) dX7_copyFrom_12 ?_
      refine g_icmp_ge_f (tgt := 39) dX7_copyFrom_15 (by decide) (by rw [h9]; exact nI_ge (by omega) (by omega)) ?_
      refine g_ald0 dX7_copyFrom_18 ?_
      show Go _ _ _ _ _ _ 19 _ _
      refine g_getQ fb_7_0 mw_1_112 (by first | rfl | exact lb1 hb | exact lb2 hb | exact lbi hb (by omega) | exact lay_item (by omega)) (by omega) (ck_q hc sb.2.2.2.1) dX7_copyFrom_19 ?_
      refine g_ild2 dX7_copyFrom_22 ?_
      refine g_qald3 (by first | rfl | exact lb1 hb | exact lb2 hb | exact lbi hb (by omega) | exact lay_item (by omega)) (by omega) rfl (by omega) (ck_q hc (sb.2.2.2.2.2.1 i (by omega))) dX7_copyFrom_23 ?_
      refine g_ald1 dX7_copyFrom_24 ?_
      refine g_getQ fb_7_0 mw_1_112 (by first | rfl | exact lb1 hb | exact lb2 hb | exact lbi hb (by omega) | exact lay_item (by omega)) (by omega) (ck_q hc (s1_items s1)) dX7_copyFrom_25 ?_
      refine g_ild2 dX7_copyFrom_28 ?_
      show Go _ _ _ _ _ _ 29 _ _
      refine g_qald3 (by first | rfl | exact lb1 hb | exact lb2 hb | exact lbi hb (by omega) | exact lay_item (by omega)) (by omega) rfl (by omega) (ck_q hc (s1_item s1 (i := i) (by omega))) dX7_copyFrom_29 ?_
      refine g_callV1 (c_icopy (h := h1) _ _ (lbi hb (by omega)) (lay_item (by omega)) (by omega) (by omega) (by rw [(hc.1 (4 + i) 0 (by omega)).1]; exact hbo i (by omega))) mw_3_95 ok_X2_copyFrom ⟨by decide, by decide⟩ (by first | rfl | exact lb1 hb | exact lb2 hb | exact lbi hb (by omega) | exact lay_item (by omega)) (by omega) rfl (by omega) (by omega) (Nat.le_of_ble_eq_true rfl) dX7_copyFrom_30 (rV_K ?_)
      intro h2 hc2
      refine g_iinc2 (by decide) dX7_copyFrom_33 (nI_1 i) ?_
      refine g_goto (tgt := 10) dX7_copyFrom_36 (by decide) ?_
      exact ih (i + 1) h2 (by omega) (hc.tr hc2 (by omega) (by omega)) ((hc2.1 _ _ (by omega)).1.trans h9)
  refine g_ald0 dX7_copyFrom_0 ?_
  refine g_ald1 dX7_copyFrom_1 ?_
  refine g_getI fb_7_1 mw_1_113 (by first | rfl | exact lb1 hb) (by omega) dX7_copyFrom_2 ?_
  refine g_putI fb_7_1 mw_1_113 (by first | rfl | exact lb1 hb) (by omega) rfl rfl dX7_copyFrom_5 ?_
  refine g_iconst (v := nI 0) dX7_copyFrom_8 (by decide +kernel) ?_
  show Go _ _ _ _ _ _ 9 _ _
  refine g_ist2 (by decide) dX7_copyFrom_9 ?_
  exact loop ni 0 _ (by omega) (Ck.wI (by omega) (Ck.rf _ _ _)) ((if_pos ⟨rfl, rfl⟩).trans hn)
/-- the numbers of what there is, as a copy needs them -/
def Cn (h : Hp) : Prop := (∃ ni, ni ≤ 18 ∧ h.1 2 1 = nI ni ∧ ∀ i, i < ni → bo (h.1 (4 + i) 0)) ∧ (∃ nd, nd ≤ 4 ∧ h.1 2 3 = nI nd) ∧ ∃ nj, nj ≤ 30 ∧ h.1 27 1 = nI nj
theorem ck_Cn {h h1 : Hp} {lo hi : Nat} (c : Ck h h1 lo hi) (hl : 64 ≤ lo) (n : Cn h) : Cn h1 := by
  obtain ⟨⟨ni, a1, a2, a3⟩, ⟨nd, b1, b2⟩, nj, c1, c2⟩ := n
  exact ⟨⟨ni, a1, ((c.1 2 1 (by omega)).1).trans a2, fun i hi => by rw [(c.1 (4 + i) 0 (by omega)).1]; exact a3 i hi⟩, ⟨nd, b1, ((c.1 2 3 (by omega)).1).trans b2⟩, nj, c1, ((c.1 27 1 (by omega)).1).trans c2⟩
theorem c_stcopy (b : Nat) (hb : Bs b) (s1 : St h 1) (sb : St h b) (hC : Cn h) : Ct G mX6_copyFrom [ga G b, ga G 1] h 456 456 (rV (fun h' => Ck h h' b (b + 63))) := by
  have hlt := hb.lt
  obtain ⟨⟨ni, a1, a2, a3⟩, ⟨nd, b1, b2⟩, nj, c1, c2⟩ := id hC
  refine Ct.of rfl (by simp [Value.category, ga]) (Nat.le_of_ble_eq_true rfl) (Nat.le_refl _) ?_
  show Go _ _ _ _ _ _ _ [some (ga G b), some (ga G 1)] []
  refine g_ald0 dX6_copyFrom_0 ?_
  refine g_getQ fb_6_0 mw_2_0 (by first | rfl | assumption | exact lb0 hb) (by omega) sb.1 dX6_copyFrom_1 ?_
  refine g_ald1 dX6_copyFrom_4 ?_
  refine g_getQ fb_6_0 mw_2_0 (by first | rfl | assumption | exact lb0 hb) (by omega) (s1_store s1) dX6_copyFrom_5 ?_
  have hy1 := lb1 hb
  refine g_callV1 (c_scopy b ni nd hb s1 sb a2 a1 b2 b1 a3) mw_3_91 ok_X7_copyFrom ⟨by decide, by decide⟩ (by first | rfl | assumption | exact lb0 hb) (by omega) rfl (by omega) (by omega) (Nat.le_of_ble_eq_true rfl) dX6_copyFrom_8 (rV_K ?_)
  intro h1 k1
  show Go _ _ _ _ _ _ 11 _ _
  refine g_ald0 dX6_copyFrom_11 ?_
  refine g_getQ fb_6_1 mw_2_2 (by first | rfl | assumption | exact lb0 hb) (by omega) (ck_q k1 sb.2.1) dX6_copyFrom_12 ?_
  refine g_ald1 dX6_copyFrom_15 ?_
  refine g_getQ fb_6_1 mw_2_2 (by first | rfl | assumption | exact lb0 hb) (by omega) (ck_q k1 (s1_queue s1)) dX6_copyFrom_16 ?_
  have hy2 := lb26 hb
  refine g_callV1 (c_qcopy b nj hb (ck_St k1 s1) (ck_St k1 sb) (((k1.1 27 1 (by omega)).1).trans c2) c1) mw_3_103 ok_X5_copyFrom ⟨by decide, by decide⟩ (by first | rfl | assumption | exact lb0 hb) (by omega) rfl (by omega) (by omega) (Nat.le_of_ble_eq_true rfl) dX6_copyFrom_19 (rV_K ?_)
  intro h2 k2
  refine g_ald0 dX6_copyFrom_22 ?_
  show Go _ _ _ _ _ _ 23 _ _
  refine g_getQ fb_6_2 mw_2_4 (by first | rfl | assumption | exact lb0 hb) (by omega) (ck_q k2 (ck_q k1 sb.2.2.1)) dX6_copyFrom_23 ?_
  refine g_ald1 dX6_copyFrom_26 ?_
  refine g_getQ fb_6_2 mw_2_4 (by first | rfl | assumption | exact lb0 hb) (by omega) (ck_q k2 (ck_q k1 (s1_log s1))) dX6_copyFrom_27 ?_
  have hy3 := lb58 hb
  refine g_callV1 (c_lcopy b hb (ck_St k2 (ck_St k1 s1)) (ck_St k2 (ck_St k1 sb))) mw_3_111 ok_X4_copyFrom ⟨by decide, by decide⟩ (by first | rfl | assumption | exact lb0 hb) (by omega) rfl (by omega) (by omega) (Nat.le_of_ble_eq_true rfl) dX6_copyFrom_30 (rV_K ?_)
  intro h3 k3
  refine g_ald0 dX6_copyFrom_33 ?_
  refine g_ald1 dX6_copyFrom_34 ?_
  show Go _ _ _ _ _ _ 35 _ _
  refine g_getF_a fb_6_3 mw_2_5 (by first | rfl | assumption | exact lb0 hb) (by omega) dX6_copyFrom_35 (fun xx35 ee35 => ?_)
  refine g_putF fb_6_3 mw_2_5 (by first | rfl | assumption | exact lb0 hb) (by omega) dX6_copyFrom_38 ?_
  refine g_ald0 dX6_copyFrom_41 ?_
  refine g_ald1 dX6_copyFrom_42 ?_
  refine g_getF_a fb_6_4 mw_2_7 (by first | rfl | assumption | exact lb0 hb) (by omega) dX6_copyFrom_43 (fun xx43 ee43 => ?_)
  refine g_putF fb_6_4 mw_2_7 (by first | rfl | assumption | exact lb0 hb) (by omega) dX6_copyFrom_46 ?_
  show Go _ _ _ _ _ _ 49 _ _
  refine g_ald0 dX6_copyFrom_49 ?_
  refine g_ald1 dX6_copyFrom_50 ?_
  refine g_getI_a fb_6_5 mw_2_9 (by first | rfl | assumption | exact lb0 hb) (by omega) dX6_copyFrom_51 (fun xx51 ee51 => ?_)
  refine g_putI fb_6_5 mw_2_9 (by first | rfl | assumption | exact lb0 hb) (by omega) rfl rfl dX6_copyFrom_54 ?_
  refine g_ald0 dX6_copyFrom_57 ?_
  refine g_ald1 dX6_copyFrom_58 ?_
  show Go _ _ _ _ _ _ 59 _ _
  refine g_getI_a fb_6_6 mw_2_11 (by first | rfl | assumption | exact lb0 hb) (by omega) dX6_copyFrom_59 (fun xx59 ee59 => ?_)
  refine g_putI fb_6_6 mw_2_11 (by first | rfl | assumption | exact lb0 hb) (by omega) rfl rfl dX6_copyFrom_62 ?_
  refine g_ald0 dX6_copyFrom_65 ?_
  refine g_ald1 dX6_copyFrom_66 ?_
  refine g_getI_a fb_6_7 mw_2_13 (by first | rfl | assumption | exact lb0 hb) (by omega) dX6_copyFrom_67 (fun xx67 ee67 => ?_)
  refine g_putI fb_6_7 mw_2_13 (by first | rfl | assumption | exact lb0 hb) (by omega) rfl rfl dX6_copyFrom_70 ?_
  show Go _ _ _ _ _ _ 73 _ _
  refine g_ald0 dX6_copyFrom_73 ?_
  refine g_ald1 dX6_copyFrom_74 ?_
  refine g_getI_a fb_6_8 mw_2_15 (by first | rfl | assumption | exact lb0 hb) (by omega) dX6_copyFrom_75 (fun xx75 ee75 => ?_)
  refine g_putI fb_6_8 mw_2_15 (by first | rfl | assumption | exact lb0 hb) (by omega) rfl rfl dX6_copyFrom_78 ?_
  refine g_ald0 dX6_copyFrom_81 ?_
  refine g_ald1 dX6_copyFrom_82 ?_
  show Go _ _ _ _ _ _ 83 _ _
  refine g_getI_a fb_6_9 mw_2_17 (by first | rfl | assumption | exact lb0 hb) (by omega) dX6_copyFrom_83 (fun xx83 ee83 => ?_)
  refine g_putI fb_6_9 mw_2_17 (by first | rfl | assumption | exact lb0 hb) (by omega) rfl rfl dX6_copyFrom_86 ?_
  refine g_ald0 dX6_copyFrom_89 ?_
  refine g_ald1 dX6_copyFrom_90 ?_
  refine g_getI_a fb_6_10 mw_2_19 (by first | rfl | assumption | exact lb0 hb) (by omega) dX6_copyFrom_91 (fun xx91 ee91 => ?_)
  refine g_putI fb_6_10 mw_2_19 (by first | rfl | assumption | exact lb0 hb) (by omega) rfl rfl dX6_copyFrom_94 ?_
  show Go _ _ _ _ _ _ 97 _ _
  refine g_ald0 dX6_copyFrom_97 ?_
  refine g_ald1 dX6_copyFrom_98 ?_
  refine g_getI_a fb_6_11 mw_2_21 (by first | rfl | assumption | exact lb0 hb) (by omega) dX6_copyFrom_99 (fun xx99 ee99 => ?_)
  refine g_putI fb_6_11 mw_2_21 (by first | rfl | assumption | exact lb0 hb) (by omega) rfl rfl dX6_copyFrom_102 ?_
  exact g_vret rfl dX6_copyFrom_105 ⟨rfl, by repeat (first | exact (k1.tr k2 (by omega) (by omega)).tr k3 (by omega) (by omega) | refine Ck.wI (by omega) ?_ | refine Ck.wF (by omega) ?_)⟩
/-- the history's references -/
def Hs (h : Hp) : Prop := ∀ i, i < 4 → ∃ j, j < 4 ∧ h.2.2.2 65 i = some (66 + 63 * j)
theorem c_drop (hq : h.2.2.2 64 0 = some 65) (hh : Hs h) : Ct G mX1_dropOldest [ga G 64] h 456 456 (rV (fun h' => (∀ a j, ¬ (a = 64 ∧ j = 1) → h'.1 a j = h.1 a j) ∧ h'.1 64 1 = nI 3 ∧ h'.2.1 = h.2.1 ∧ h'.2.2.1 = h.2.2.1 ∧ (∀ a j, a ≠ 65 → h'.2.2.2 a j = h.2.2.2 a j) ∧ Hs h')) := by
  refine Ct.of rfl (by simp [Value.category, ga]) (Nat.le_of_ble_eq_true rfl) (Nat.le_refl _) ?_
  show Go _ _ _ _ _ _ _ [some (ga G 64), none, none] []
  have key : ∀ h1 : Hp, h1.1 = h.1 → h1.2.1 = h.2.1 → h1.2.2.1 = h.2.2.1 → (∀ a j, a ≠ 65 → h1.2.2.2 a j = h.2.2.2 a j) → Hs h1 → ∀ i q, i < 4 → q < 4 → (wQ h1 65 i (some (66 + 63 * q))).1 = h.1 ∧ (wQ h1 65 i (some (66 + 63 * q))).2.1 = h.2.1 ∧ (wQ h1 65 i (some (66 + 63 * q))).2.2.1 = h.2.2.1 ∧ (∀ a j, a ≠ 65 → (wQ h1 65 i (some (66 + 63 * q))).2.2.2 a j = h.2.2.2 a j) ∧ Hs (wQ h1 65 i (some (66 + 63 * q))) := by
    intro h1 e1 e2 e3 e4 e5 i q hi hq
    refine ⟨e1, e2, e3, fun a j ha => (if_neg (fun z => ha z.1)).trans (e4 a j ha), fun i2 hi2 => ?_⟩
    by_cases hz : i2 = i
    · exact ⟨q, hq, if_pos ⟨rfl, hz⟩⟩
    · obtain ⟨j, hj, hj2⟩ := e5 i2 hi2
      exact ⟨j, hj, (if_neg (fun z => hz z.2)).trans hj2⟩
  have loop : ∀ m i h1 q, m + i = 4 → 1 ≤ i → q < 4 → h1.1 = h.1 → h1.2.1 = h.2.1 → h1.2.2.1 = h.2.2.1 → (∀ a j, a ≠ 65 → h1.2.2.2 a j = h.2.2.2 a j) → Hs h1 → Go G mX1_dropOldest 456 (rV (fun h' => (∀ a j, ¬ (a = 64 ∧ j = 1) → h'.1 a j = h.1 a j) ∧ h'.1 64 1 = nI 3 ∧ h'.2.1 = h.2.1 ∧ h'.2.2.1 = h.2.2.1 ∧ (∀ a j, a ≠ 65 → h'.2.2.2 a j = h.2.2.2 a j) ∧ Hs h')) h1 456 9 [some (ga G 64), some (ga G (66 + 63 * q)), some (.int (nI i))] [] := by
    intro m
    induction m with
    | zero =>
      intro i h1 q hi hi1 hq4 e1 e2 e3 e4 e5
      obtain rfl : i = 4 := by omega
      obtain ⟨k1, k2, k3, k4, k5⟩ := key h1 e1 e2 e3 e4 e5 3 q (by omega) hq4
      have hb : Lay (66 + 63 * q) = .inl 6 := lb0 ⟨q, hq4, rfl⟩
      refine g_ild2 dX1_dropOldest_9 ?_
      refine g_ald0 dX1_dropOldest_10 ?_
      refine g_getQ fb_1_0 mw_2_57 (by first | rfl | assumption | (exact lay_item (by omega)) | (exact lay_drive (by omega)) | (exact lay_job (by omega))) (by omega) ((e4 64 0 (by omega)).trans hq) dX1_dropOldest_11 ?_
      refine g_alen (by first | rfl | assumption | (exact lay_item (by omega)) | (exact lay_drive (by omega)) | (exact lay_job (by omega))) (by omega) (by decide) rfl dX1_dropOldest_14 ?_
      refine g_icmp_ge_t (tgt := 38) dX1_dropOldest_15 (by decide) (by decide) ?_
      show Go _ _ _ _ _ _ 38 _ _
      refine g_ald0 dX1_dropOldest_38 ?_
      refine g_getQ fb_1_0 mw_2_57 (by first | rfl | assumption | (exact lay_item (by omega)) | (exact lay_drive (by omega)) | (exact lay_job (by omega))) (by omega) ((e4 64 0 (by omega)).trans hq) dX1_dropOldest_39 ?_
      refine g_ald0 dX1_dropOldest_42 ?_
      refine g_getQ fb_1_0 mw_2_57 (by first | rfl | assumption | (exact lay_item (by omega)) | (exact lay_drive (by omega)) | (exact lay_job (by omega))) (by omega) ((e4 64 0 (by omega)).trans hq) dX1_dropOldest_43 ?_
      refine g_alen (by first | rfl | assumption | (exact lay_item (by omega)) | (exact lay_drive (by omega)) | (exact lay_job (by omega))) (by omega) (by decide) rfl dX1_dropOldest_46 ?_
      refine g_iconst (v := nI 1) dX1_dropOldest_47 (by decide +kernel) ?_
      show Go _ _ _ _ _ _ 48 _ _
      refine g_isub_v dX1_dropOldest_48 (show nI 4 - nI 1 = nI 3 by decide) ?_
      refine g_ald1 dX1_dropOldest_49 ?_
      refine g_qast6 (w := 4) rfl (by omega) rfl (by omega) hb (by omega) dX1_dropOldest_50 ?_
      refine g_ald0 dX1_dropOldest_51 ?_
      refine g_ald0 dX1_dropOldest_52 ?_
      refine g_getQ fb_1_0 mw_2_57 (by first | rfl | assumption | (exact lay_item (by omega)) | (exact lay_drive (by omega)) | (exact lay_job (by omega))) (by omega) ((k4 64 0 (by omega)).trans hq) dX1_dropOldest_53 ?_
      show Go _ _ _ _ _ _ 56 _ _
      refine g_alen (by first | rfl | assumption | (exact lay_item (by omega)) | (exact lay_drive (by omega)) | (exact lay_job (by omega))) (by omega) (by decide) rfl dX1_dropOldest_56 ?_
      refine g_iconst (v := nI 1) dX1_dropOldest_57 (by decide +kernel) ?_
      refine g_isub_v dX1_dropOldest_58 (show nI 4 - nI 1 = nI 3 by decide) ?_
      refine g_putI fb_1_1 mw_2_58 (by first | rfl | assumption | (exact lay_item (by omega)) | (exact lay_drive (by omega)) | (exact lay_job (by omega))) (by omega) rfl rfl dX1_dropOldest_59 ?_
      exact g_vret rfl dX1_dropOldest_62 ⟨rfl, fun a j ha => (if_neg ha).trans (congrFun (congrFun k1 a) j), wI_at, k2, k3, k4, k5⟩
    | succ m ih =>
      intro i h1 q hi hi1 hq4 e1 e2 e3 e4 e5
      obtain ⟨q2, hq2, hq3⟩ := e5 i (by omega)
      have hb : Lay (66 + 63 * q2) = .inl 6 := lb0 ⟨q2, hq2, rfl⟩
      obtain ⟨k1, k2, k3, k4, k5⟩ := key h1 e1 e2 e3 e4 e5 (i - 1) q2 (by omega) hq2
      refine g_ild2 dX1_dropOldest_9 ?_
      refine g_ald0 dX1_dropOldest_10 ?_
      refine g_getQ fb_1_0 mw_2_57 (by first | rfl | assumption | (exact lay_item (by omega)) | (exact lay_drive (by omega)) | (exact lay_job (by omega))) (by omega) ((e4 64 0 (by omega)).trans hq) dX1_dropOldest_11 ?_
      refine g_alen (by first | rfl | assumption | (exact lay_item (by omega)) | (exact lay_drive (by omega)) | (exact lay_job (by omega))) (by omega) (by decide) rfl dX1_dropOldest_14 ?_
      refine g_icmp_ge_f (tgt := 38) dX1_dropOldest_15 (by decide) (nI_ge (by omega) (by omega)) ?_
      show Go _ _ _ _ _ _ 18 _ _
      refine g_ald0 dX1_dropOldest_18 ?_
      refine g_getQ fb_1_0 mw_2_57 (by first | rfl | assumption | (exact lay_item (by omega)) | (exact lay_drive (by omega)) | (exact lay_job (by omega))) (by omega) ((e4 64 0 (by omega)).trans hq) dX1_dropOldest_19 ?_
      refine g_ild2 dX1_dropOldest_22 ?_
      refine g_iconst (v := nI 1) dX1_dropOldest_23 (by decide +kernel) ?_
      refine g_isub_v dX1_dropOldest_24 (pk_sub (by omega)) ?_
      refine g_ald0 dX1_dropOldest_25 ?_
      show Go _ _ _ _ _ _ 26 _ _
      refine g_getQ fb_1_0 mw_2_57 (by first | rfl | assumption | (exact lay_item (by omega)) | (exact lay_drive (by omega)) | (exact lay_job (by omega))) (by omega) ((e4 64 0 (by omega)).trans hq) dX1_dropOldest_26 ?_
      refine g_ild2 dX1_dropOldest_29 ?_
      refine g_qald6 (by first | rfl | assumption | (exact lay_item (by omega)) | (exact lay_drive (by omega)) | (exact lay_job (by omega))) (by omega) rfl (by omega) hq3 dX1_dropOldest_30 ?_
      refine g_qast6 (w := 4) rfl (by omega) rfl (by omega) hb (by omega) dX1_dropOldest_31 ?_
      refine g_iinc2 (by decide) dX1_dropOldest_32 (nI_1 i) ?_
      refine g_goto (tgt := 9) dX1_dropOldest_35 (by decide) ?_
      exact ih (i + 1) _ q (by omega) (by omega) hq4 k1 k2 k3 k4 k5
  obtain ⟨q0, hq0, hq1⟩ := hh 0 (by omega)
  refine g_ald0 dX1_dropOldest_0 ?_
  refine g_getQ fb_1_0 mw_2_57 (by first | rfl | assumption | (exact lay_item (by omega)) | (exact lay_drive (by omega)) | (exact lay_job (by omega))) (by omega) hq dX1_dropOldest_1 ?_
  refine g_iconst (v := nI 0) dX1_dropOldest_4 (by decide +kernel) ?_
  refine g_qald6 (by first | rfl | assumption | (exact lay_item (by omega)) | (exact lay_drive (by omega)) | (exact lay_job (by omega))) (by omega) rfl (by omega) hq1 dX1_dropOldest_5 ?_
  refine g_ast1 (by decide) dX1_dropOldest_6 ?_
  show Go _ _ _ _ _ _ 7 _ _
  refine g_iconst (v := nI 1) dX1_dropOldest_7 (by decide +kernel) ?_
  refine g_ist2 (by decide) dX1_dropOldest_8 ?_
  exact loop 3 1 h q0 (by omega) (by omega) hq0 rfl rfl rfl (fun _ _ _ => rfl) hh
end P13
