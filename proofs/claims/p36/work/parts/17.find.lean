/-! ===== THE ROBOT'S SEARCHES ===== -/
theorem cmpv (a b : Nat) (op : CmpOp) : Op.cmpValue (some (compare a b)) op = if a < b then -1 else if a = b then 0 else 1 := by
  rcases Nat.lt_trichotomy a b with q | q | q
  · rw [if_pos q, Nat.compare_eq_lt.mpr q]; rfl
  · rw [if_neg (by omega), if_pos q, Nat.compare_eq_eq.mpr q]; rfl
  · rw [if_neg (by omega), if_neg (by omega), Nat.compare_eq_gt.mpr q]; rfl
theorem cmpv_le {a b : Nat} {op : CmpOp} : Op.cmpValue (some (compare a b)) op ≤ 0 ↔ a ≤ b := by
  rw [cmpv]
  rcases Nat.lt_trichotomy a b with q | q | q
  · rw [if_pos q]; exact ⟨fun _ => by omega, fun _ => by decide⟩
  · rw [if_neg (by omega), if_pos q]; exact ⟨fun _ => by omega, fun _ => by decide⟩
  · rw [if_neg (by omega), if_neg (by omega)]; exact ⟨fun z => absurd z (by decide), fun _ => by omega⟩
theorem cmpv_ge {a b : Nat} {op : CmpOp} : 0 ≤ Op.cmpValue (some (compare a b)) op ↔ b ≤ a := by
  rw [cmpv]
  rcases Nat.lt_trichotomy a b with q | q | q
  · rw [if_pos q]; exact ⟨fun z => absurd z (by decide), fun _ => by omega⟩
  · rw [if_neg (by omega), if_pos q]; exact ⟨fun _ => by omega, fun _ => by decide⟩
  · rw [if_neg (by omega), if_neg (by omega)]; exact ⟨fun _ => by omega, fun _ => by decide⟩
theorem cmpv_eq {a b : Nat} {op : CmpOp} : Op.cmpValue (some (compare a b)) op = 0 ↔ a = b := by
  rw [cmpv]
  rcases Nat.lt_trichotomy a b with q | q | q
  · rw [if_pos q]; exact ⟨fun z => absurd z (by decide), fun _ => by omega⟩
  · rw [if_neg (by omega), if_pos q]; exact ⟨fun _ => by omega, fun _ => by decide⟩
  · rw [if_neg (by omega), if_neg (by omega)]; exact ⟨fun z => absurd z (by decide), fun _ => by omega⟩
def ad (a b : Nat) : Nat := if a ≤ b then b - a else a - b
theorem abs_ni0 : ∀ a, a < 24 → ∀ b, b < 24 → (if (0 : Int32) ≤ nI a - nI b then nI a - nI b else 0 - (nI a - nI b)) = nI (ad a b) := by decide +kernel
/-- how many -/
def cnI (p : Nat → Prop) [DecidablePred p] : Nat → Int32
  | 0 => 0
  | n + 1 => cnI p n + (if p n then 1 else 0)
/-- a boolean answer -/
def rB (P : Prop) (h2 : Hp) : Option Value → Hp → Prop := fun v h' => ((v = some (.int 1) ∧ P) ∨ (v = some (.int 0) ∧ ¬ P)) ∧ h' = h2
section P17
variable {G : Gl} {h : Hp}
theorem rB_K {M : Mt} {n1 : Nat} {R : Option Value → Hp → Prop} {ls : List (Option Value)} {st : List Value} {P : Prop} {h2 : Hp} {n' pc' : Nat} (K : ∀ r : Int32, ((r = 1 ∧ P) ∨ (r = 0 ∧ ¬ P)) → Go G M n1 R h2 n' pc' ls (.int r :: st)) : ∀ v h', rB P h2 v h' → Go G M n1 R h' n' pc' ls (v.toList ++ st) := by
  rintro v h' ⟨⟨rfl, hp⟩ | ⟨rfl, hp⟩, rfl⟩
  · exact K 1 (Or.inl ⟨rfl, hp⟩)
  · exact K 0 (Or.inr ⟨rfl, hp⟩)
theorem c_itemAt (i n : Nat) (hS : St h 1) (hn : h.1 2 1 = nI n) (hn9 : n ≤ 18) (hi : i < n) : Ct G mX7_itemAt [ga G 2, .int (nI i)] h 456 456 (dQ G (some (4 + i)) h) := by
  refine Ct.of rfl (by simp [Value.category, ga]) (Nat.le_of_ble_eq_true rfl) (Nat.le_refl _) ?_
  show Go _ _ _ _ _ _ _ [some (ga G 2), some (.int (nI i))] []
  refine g_ild1 dX7_itemAt_0 ?_
  refine g_if_lt_f (tgt := 21) dX7_itemAt_1 (by decide) (nI_pos (by omega)) ?_
  refine g_ild1 dX7_itemAt_4 ?_
  refine g_ald0 dX7_itemAt_5 ?_
  refine g_getI fb_7_1 mw_1_113 (by first | rfl | assumption | (exact lay_item (by omega)) | (exact lay_drive (by omega)) | (exact lay_job (by omega))) (by omega) dX7_itemAt_6 ?_
  show Go _ _ _ _ _ _ 9 _ _
  refine g_icmp_ge_f (tgt := 21) dX7_itemAt_9 (by decide) (by rw [hn]; exact nI_ge (by omega) (by omega)) ?_
  refine g_ald0 dX7_itemAt_12 ?_
  refine g_getQ fb_7_0 mw_1_112 (by first | rfl | assumption | (exact lay_item (by omega)) | (exact lay_drive (by omega)) | (exact lay_job (by omega))) (by omega) (s1_items hS) dX7_itemAt_13 ?_
  refine g_ild1 dX7_itemAt_16 ?_
  refine g_qald3 (by first | rfl | assumption | (exact lay_item (by omega)) | (exact lay_drive (by omega)) | (exact lay_job (by omega))) (by omega) rfl (by omega) (s1_item hS (by omega)) dX7_itemAt_17 ?_
  refine g_goto (tgt := 22) dX7_itemAt_18 (by decide) ?_
  show Go _ _ _ _ _ _ 22 _ _
  exact g_aret (Or.inr ⟨_, rfl⟩) rfl dX7_itemAt_22 ⟨rfl, rfl⟩
theorem c_itemAt_n (x : Int32) (n : Nat) (hn : h.1 2 1 = nI n) (hx : x < 0 ∨ nI n ≤ x) : Ct G mX7_itemAt [ga G 2, .int x] h 456 456 (dQ G none h) := by
  refine Ct.of rfl (by simp [Value.category, ga]) (Nat.le_of_ble_eq_true rfl) (Nat.le_refl _) ?_
  show Go _ _ _ _ _ _ _ [some (ga G 2), some (.int x)] []
  refine g_ild1 dX7_itemAt_0 ?_
  refine g_if_lt (tgt := 21) dX7_itemAt_1 (by decide) (fun c_1 => ?_) (fun c_1 => ?_)
  · skip
    refine g_null dX7_itemAt_21 ?_
    exact g_aret (Or.inl rfl) rfl dX7_itemAt_22 ⟨rfl, rfl⟩
  · skip
    refine g_ild1 dX7_itemAt_4 ?_
    show Go _ _ _ _ _ _ 5 _ _
    refine g_ald0 dX7_itemAt_5 ?_
    refine g_getI fb_7_1 mw_1_113 (by first | rfl | assumption | (exact lay_item (by omega)) | (exact lay_drive (by omega)) | (exact lay_job (by omega))) (by omega) dX7_itemAt_6 ?_
    refine g_icmp_ge_t (tgt := 21) dX7_itemAt_9 (by decide) (by rw [hn]; exact hx.resolve_left (by assumption)) ?_
    refine g_null dX7_itemAt_21 ?_
    exact g_aret (Or.inl rfl) rfl dX7_itemAt_22 ⟨rfl, rfl⟩
theorem c_driveAt (i n : Nat) (hS : St h 1) (hn : h.1 2 3 = nI n) (hn9 : n ≤ 4) (hi : i < n) : Ct G mX7_driveAt [ga G 2, .int (nI i)] h 456 456 (dQ G (some (23 + i)) h) := by
  refine Ct.of rfl (by simp [Value.category, ga]) (Nat.le_of_ble_eq_true rfl) (Nat.le_refl _) ?_
  show Go _ _ _ _ _ _ _ [some (ga G 2), some (.int (nI i))] []
  refine g_ild1 dX7_driveAt_0 ?_
  refine g_if_lt_f (tgt := 21) dX7_driveAt_1 (by decide) (nI_pos (by omega)) ?_
  refine g_ild1 dX7_driveAt_4 ?_
  refine g_ald0 dX7_driveAt_5 ?_
  refine g_getI fb_7_3 mw_1_116 (by first | rfl | assumption | (exact lay_item (by omega)) | (exact lay_drive (by omega)) | (exact lay_job (by omega))) (by omega) dX7_driveAt_6 ?_
  show Go _ _ _ _ _ _ 9 _ _
  refine g_icmp_ge_f (tgt := 21) dX7_driveAt_9 (by decide) (by rw [hn]; exact nI_ge (by omega) (by omega)) ?_
  refine g_ald0 dX7_driveAt_12 ?_
  refine g_getQ fb_7_2 mw_1_115 (by first | rfl | assumption | (exact lay_item (by omega)) | (exact lay_drive (by omega)) | (exact lay_job (by omega))) (by omega) (s1_drives hS) dX7_driveAt_13 ?_
  refine g_ild1 dX7_driveAt_16 ?_
  refine g_qald4 (by first | rfl | assumption | (exact lay_item (by omega)) | (exact lay_drive (by omega)) | (exact lay_job (by omega))) (by omega) rfl (by omega) (s1_drive hS (by omega)) dX7_driveAt_17 ?_
  refine g_goto (tgt := 22) dX7_driveAt_18 (by decide) ?_
  show Go _ _ _ _ _ _ 22 _ _
  exact g_aret (Or.inr ⟨_, rfl⟩) rfl dX7_driveAt_22 ⟨rfl, rfl⟩
theorem c_driveAt_n (x : Int32) (n : Nat) (hn : h.1 2 3 = nI n) (hx : x < 0 ∨ nI n ≤ x) : Ct G mX7_driveAt [ga G 2, .int x] h 456 456 (dQ G none h) := by
  refine Ct.of rfl (by simp [Value.category, ga]) (Nat.le_of_ble_eq_true rfl) (Nat.le_refl _) ?_
  show Go _ _ _ _ _ _ _ [some (ga G 2), some (.int x)] []
  refine g_ild1 dX7_driveAt_0 ?_
  refine g_if_lt (tgt := 21) dX7_driveAt_1 (by decide) (fun c_1 => ?_) (fun c_1 => ?_)
  · skip
    refine g_null dX7_driveAt_21 ?_
    exact g_aret (Or.inl rfl) rfl dX7_driveAt_22 ⟨rfl, rfl⟩
  · skip
    refine g_ild1 dX7_driveAt_4 ?_
    show Go _ _ _ _ _ _ 5 _ _
    refine g_ald0 dX7_driveAt_5 ?_
    refine g_getI fb_7_3 mw_1_116 (by first | rfl | assumption | (exact lay_item (by omega)) | (exact lay_drive (by omega)) | (exact lay_job (by omega))) (by omega) dX7_driveAt_6 ?_
    refine g_icmp_ge_t (tgt := 21) dX7_driveAt_9 (by decide) (by rw [hn]; exact hx.resolve_left (by assumption)) ?_
    refine g_null dX7_driveAt_21 ?_
    exact g_aret (Or.inl rfl) rfl dX7_driveAt_22 ⟨rfl, rfl⟩
theorem c_jobAt (i n : Nat) (hS : St h 1) (hn : h.1 27 1 = nI n) (hn9 : n ≤ 30) (hi : i < n) : Ct G mX5_jobAt [ga G 27, .int (nI i)] h 456 456 (dQ G (some (29 + i)) h) := by
  refine Ct.of rfl (by simp [Value.category, ga]) (Nat.le_of_ble_eq_true rfl) (Nat.le_refl _) ?_
  show Go _ _ _ _ _ _ _ [some (ga G 27), some (.int (nI i))] []
  refine g_ild1 dX5_jobAt_0 ?_
  refine g_if_lt_f (tgt := 21) dX5_jobAt_1 (by decide) (nI_pos (by omega)) ?_
  refine g_ild1 dX5_jobAt_4 ?_
  refine g_ald0 dX5_jobAt_5 ?_
  refine g_getI fb_5_1 mw_1_199 (by first | rfl | assumption | (exact lay_item (by omega)) | (exact lay_drive (by omega)) | (exact lay_job (by omega))) (by omega) dX5_jobAt_6 ?_
  show Go _ _ _ _ _ _ 9 _ _
  refine g_icmp_ge_f (tgt := 21) dX5_jobAt_9 (by decide) (by rw [hn]; exact nI_ge (by omega) (by omega)) ?_
  refine g_ald0 dX5_jobAt_12 ?_
  refine g_getQ fb_5_0 mw_1_197 (by first | rfl | assumption | (exact lay_item (by omega)) | (exact lay_drive (by omega)) | (exact lay_job (by omega))) (by omega) (s1_jobs hS) dX5_jobAt_13 ?_
  refine g_ild1 dX5_jobAt_16 ?_
  refine g_qald5 (by first | rfl | assumption | (exact lay_item (by omega)) | (exact lay_drive (by omega)) | (exact lay_job (by omega))) (by omega) rfl (by omega) (s1_job hS (by omega)) dX5_jobAt_17 ?_
  refine g_goto (tgt := 22) dX5_jobAt_18 (by decide) ?_
  show Go _ _ _ _ _ _ 22 _ _
  exact g_aret (Or.inr ⟨_, rfl⟩) rfl dX5_jobAt_22 ⟨rfl, rfl⟩
theorem c_jobAt_n (x : Int32) (n : Nat) (hn : h.1 27 1 = nI n) (hx : x < 0 ∨ nI n ≤ x) : Ct G mX5_jobAt [ga G 27, .int x] h 456 456 (dQ G none h) := by
  refine Ct.of rfl (by simp [Value.category, ga]) (Nat.le_of_ble_eq_true rfl) (Nat.le_refl _) ?_
  show Go _ _ _ _ _ _ _ [some (ga G 27), some (.int x)] []
  refine g_ild1 dX5_jobAt_0 ?_
  refine g_if_lt (tgt := 21) dX5_jobAt_1 (by decide) (fun c_1 => ?_) (fun c_1 => ?_)
  · skip
    refine g_null dX5_jobAt_21 ?_
    exact g_aret (Or.inl rfl) rfl dX5_jobAt_22 ⟨rfl, rfl⟩
  · skip
    refine g_ild1 dX5_jobAt_4 ?_
    show Go _ _ _ _ _ _ 5 _ _
    refine g_ald0 dX5_jobAt_5 ?_
    refine g_getI fb_5_1 mw_1_199 (by first | rfl | assumption | (exact lay_item (by omega)) | (exact lay_drive (by omega)) | (exact lay_job (by omega))) (by omega) dX5_jobAt_6 ?_
    refine g_icmp_ge_t (tgt := 21) dX5_jobAt_9 (by decide) (by rw [hn]; exact hx.resolve_left (by assumption)) ?_
    refine g_null dX5_jobAt_21 ?_
    exact g_aret (Or.inl rfl) rfl dX5_jobAt_22 ⟨rfl, rfl⟩
theorem c_freeItem (n : Nat) (hS : St h 1) (hn : h.1 2 1 = nI n) (hn9 : n < 18) : Ct G mX7_freeItem [ga G 2] h 456 456 (dQ G (some (4 + n)) h) := by
  refine Ct.of rfl (by simp [Value.category, ga]) (Nat.le_of_ble_eq_true rfl) (Nat.le_refl _) ?_
  show Go _ _ _ _ _ _ _ [some (ga G 2)] []
  refine g_ald0 dX7_freeItem_0 ?_
  refine g_getI_a fb_7_1 mw_1_113 (by first | rfl | assumption | (exact lay_item (by omega)) | (exact lay_drive (by omega)) | (exact lay_job (by omega))) (by omega) dX7_freeItem_1 (fun xx1 ee1 => ?_)
  obtain rfl : xx1 = (nI n) := ee1.symm.trans hn
  refine g_ald0 dX7_freeItem_4 ?_
  refine g_getQ fb_7_0 mw_1_112 (by first | rfl | assumption | (exact lay_item (by omega)) | (exact lay_drive (by omega)) | (exact lay_job (by omega))) (by omega) (s1_items hS) dX7_freeItem_5 ?_
  refine g_alen (by first | rfl | assumption | (exact lay_item (by omega)) | (exact lay_drive (by omega)) | (exact lay_job (by omega))) (by omega) (by decide) rfl dX7_freeItem_8 ?_
  show Go _ _ _ _ _ _ 9 _ _
  refine g_icmp_ge_f (tgt := 24) dX7_freeItem_9 (by decide) (nI_ge (by omega) (by omega)) ?_
  refine g_ald0 dX7_freeItem_12 ?_
  refine g_getQ fb_7_0 mw_1_112 (by first | rfl | assumption | (exact lay_item (by omega)) | (exact lay_drive (by omega)) | (exact lay_job (by omega))) (by omega) (s1_items hS) dX7_freeItem_13 ?_
  refine g_ald0 dX7_freeItem_16 ?_
  refine g_getI_a fb_7_1 mw_1_113 (by first | rfl | assumption | (exact lay_item (by omega)) | (exact lay_drive (by omega)) | (exact lay_job (by omega))) (by omega) dX7_freeItem_17 (fun xx17 ee17 => ?_)
  obtain rfl : xx17 = (nI n) := ee17.symm.trans hn
  refine g_qald3 (by first | rfl | assumption | (exact lay_item (by omega)) | (exact lay_drive (by omega)) | (exact lay_job (by omega))) (by omega) rfl (by omega) (s1_item hS (i := n) (by omega)) dX7_freeItem_20 ?_
  show Go _ _ _ _ _ _ 21 _ _
  refine g_goto (tgt := 25) dX7_freeItem_21 (by decide) ?_
  exact g_aret (Or.inr ⟨_, rfl⟩) rfl dX7_freeItem_25 ⟨rfl, rfl⟩
theorem c_freeDrive (n : Nat) (hS : St h 1) (hn : h.1 2 3 = nI n) (hn9 : n < 4) : Ct G mX7_freeDrive [ga G 2] h 456 456 (dQ G (some (23 + n)) h) := by
  refine Ct.of rfl (by simp [Value.category, ga]) (Nat.le_of_ble_eq_true rfl) (Nat.le_refl _) ?_
  show Go _ _ _ _ _ _ _ [some (ga G 2)] []
  refine g_ald0 dX7_freeDrive_0 ?_
  refine g_getI_a fb_7_3 mw_1_116 (by first | rfl | assumption | (exact lay_item (by omega)) | (exact lay_drive (by omega)) | (exact lay_job (by omega))) (by omega) dX7_freeDrive_1 (fun xx1 ee1 => ?_)
  obtain rfl : xx1 = (nI n) := ee1.symm.trans hn
  refine g_ald0 dX7_freeDrive_4 ?_
  refine g_getQ fb_7_2 mw_1_115 (by first | rfl | assumption | (exact lay_item (by omega)) | (exact lay_drive (by omega)) | (exact lay_job (by omega))) (by omega) (s1_drives hS) dX7_freeDrive_5 ?_
  refine g_alen (by first | rfl | assumption | (exact lay_item (by omega)) | (exact lay_drive (by omega)) | (exact lay_job (by omega))) (by omega) (by decide) rfl dX7_freeDrive_8 ?_
  show Go _ _ _ _ _ _ 9 _ _
  refine g_icmp_ge_f (tgt := 24) dX7_freeDrive_9 (by decide) (nI_ge (by omega) (by omega)) ?_
  refine g_ald0 dX7_freeDrive_12 ?_
  refine g_getQ fb_7_2 mw_1_115 (by first | rfl | assumption | (exact lay_item (by omega)) | (exact lay_drive (by omega)) | (exact lay_job (by omega))) (by omega) (s1_drives hS) dX7_freeDrive_13 ?_
  refine g_ald0 dX7_freeDrive_16 ?_
  refine g_getI_a fb_7_3 mw_1_116 (by first | rfl | assumption | (exact lay_item (by omega)) | (exact lay_drive (by omega)) | (exact lay_job (by omega))) (by omega) dX7_freeDrive_17 (fun xx17 ee17 => ?_)
  obtain rfl : xx17 = (nI n) := ee17.symm.trans hn
  refine g_qald4 (by first | rfl | assumption | (exact lay_item (by omega)) | (exact lay_drive (by omega)) | (exact lay_job (by omega))) (by omega) rfl (by omega) (s1_drive hS (i := n) (by omega)) dX7_freeDrive_20 ?_
  show Go _ _ _ _ _ _ 21 _ _
  refine g_goto (tgt := 25) dX7_freeDrive_21 (by decide) ?_
  exact g_aret (Or.inr ⟨_, rfl⟩) rfl dX7_freeDrive_25 ⟨rfl, rfl⟩
theorem c_freeDrive_n (hS : St h 1) (hn : h.1 2 3 = nI 4) : Ct G mX7_freeDrive [ga G 2] h 456 456 (dQ G none h) := by
  refine Ct.of rfl (by simp [Value.category, ga]) (Nat.le_of_ble_eq_true rfl) (Nat.le_refl _) ?_
  show Go _ _ _ _ _ _ _ [some (ga G 2)] []
  refine g_ald0 dX7_freeDrive_0 ?_
  refine g_getI_a fb_7_3 mw_1_116 (by first | rfl | assumption | (exact lay_item (by omega)) | (exact lay_drive (by omega)) | (exact lay_job (by omega))) (by omega) dX7_freeDrive_1 (fun xx1 ee1 => ?_)
  obtain rfl : xx1 = (nI 4) := ee1.symm.trans hn
  refine g_ald0 dX7_freeDrive_4 ?_
  refine g_getQ fb_7_2 mw_1_115 (by first | rfl | assumption | (exact lay_item (by omega)) | (exact lay_drive (by omega)) | (exact lay_job (by omega))) (by omega) (s1_drives hS) dX7_freeDrive_5 ?_
  refine g_alen (by first | rfl | assumption | (exact lay_item (by omega)) | (exact lay_drive (by omega)) | (exact lay_job (by omega))) (by omega) (by decide) rfl dX7_freeDrive_8 ?_
  show Go _ _ _ _ _ _ 9 _ _
  refine g_icmp_ge_t (tgt := 24) dX7_freeDrive_9 (by decide) (by decide) ?_
  refine g_null dX7_freeDrive_24 ?_
  exact g_aret (Or.inl rfl) rfl dX7_freeDrive_25 ⟨rfl, rfl⟩
theorem c_itemWithHome (x : Int32) (n : Nat) (hS : St h 1) (hn : h.1 2 1 = nI n) (hn9 : n ≤ 18) : Ct G mX7_itemWithHome [ga G 2, .int x] h 456 456 (rI (fun r h' => h' = h ∧ IsMin (fun i => h.1 (4 + i) 1 = x) (fun _ => 0) n r)) := by
  refine Ct.of rfl (by simp [Value.category, ga]) (Nat.le_of_ble_eq_true rfl) (Nat.le_refl _) ?_
  show Go _ _ _ _ _ _ _ [some (ga G 2), some (.int x), none] []
  have loop : ∀ m i, m + i = n → (∀ j, j < i → ¬ h.1 (4 + j) 1 = x) → Go G mX7_itemWithHome 456 (rI (fun r h' => h' = h ∧ IsMin (fun i => h.1 (4 + i) 1 = x) (fun _ => 0) n r)) h 456 2 [some (ga G 2), some (.int x), some (.int (nI i))] [] := by
    intro m
    induction m with
    | zero =>
      intro i hi hI
      refine g_ild2 dX7_itemWithHome_2 ?_
      refine g_ald0 dX7_itemWithHome_3 ?_
      refine g_getI_a fb_7_1 mw_1_113 (by first | rfl | assumption | (exact lay_item (by omega)) | (exact lay_drive (by omega)) | (exact lay_job (by omega))) (by omega) dX7_itemWithHome_4 (fun xx4 ee4 => ?_)
      obtain rfl : xx4 = (nI n) := ee4.symm.trans hn
      refine g_icmp_ge_t (tgt := 31) dX7_itemWithHome_7 (by decide) (nI_le (by omega) (by omega)) ?_
      refine g_bipush (v := -5) dX7_itemWithHome_31 (by decide +kernel) ?_
      show Go _ _ _ _ _ _ 33 _ _
      exact g_iret rfl dX7_itemWithHome_33 ⟨-5, rfl, rfl, Or.inl ⟨rfl, fun j hj => hI j (by omega)⟩⟩
    | succ m ih =>
      intro i hi hI
      refine g_ild2 dX7_itemWithHome_2 ?_
      refine g_ald0 dX7_itemWithHome_3 ?_
      refine g_getI_a fb_7_1 mw_1_113 (by first | rfl | assumption | (exact lay_item (by omega)) | (exact lay_drive (by omega)) | (exact lay_job (by omega))) (by omega) dX7_itemWithHome_4 (fun xx4 ee4 => ?_)
      obtain rfl : xx4 = (nI n) := ee4.symm.trans hn
      refine g_icmp_ge_f (tgt := 31) dX7_itemWithHome_7 (by decide) (nI_ge (by omega) (by omega)) ?_
      refine g_ald0 dX7_itemWithHome_10 ?_
      show Go _ _ _ _ _ _ 11 _ _
      refine g_getQ fb_7_0 mw_1_112 (by first | rfl | assumption | (exact lay_item (by omega)) | (exact lay_drive (by omega)) | (exact lay_job (by omega))) (by omega) (s1_items hS) dX7_itemWithHome_11 ?_
      refine g_ild2 dX7_itemWithHome_14 ?_
      refine g_qald3 (by first | rfl | assumption | (exact lay_item (by omega)) | (exact lay_drive (by omega)) | (exact lay_job (by omega))) (by omega) rfl (by omega) (s1_item hS (i := i) (by omega)) dX7_itemWithHome_15 ?_
      refine g_getI fb_2_1 mw_1_45 (by first | rfl | assumption | (exact lay_item (by omega)) | (exact lay_drive (by omega)) | (exact lay_job (by omega))) (by omega) dX7_itemWithHome_16 ?_
      refine g_ild1 dX7_itemWithHome_19 ?_
      refine g_icmp_ne (tgt := 25) dX7_itemWithHome_20 (by decide) (fun c_20 => ?_) (fun c_20 => ?_)
      · skip
        show Go _ _ _ _ _ _ 25 _ _
        refine g_iinc2 (by decide) dX7_itemWithHome_25 (nI_1 i) ?_
        refine g_goto (tgt := 2) dX7_itemWithHome_28 (by decide) ?_
        exact ih (i + 1) (by omega) (fun j hj => by rcases Nat.lt_or_ge j i with q | q; exact hI j q; rw [show j = i by omega]; exact c_20)
      · skip
        refine g_ild2 dX7_itemWithHome_23 ?_
        exact g_iret rfl dX7_itemWithHome_24 ⟨nI i, rfl, rfl, Or.inr ⟨i, by omega, rfl, c_20, fun _ _ _ => Nat.le_refl _, fun j hj hj2 => absurd hj2 (hI j hj)⟩⟩
  refine g_iconst (v := nI 0) dX7_itemWithHome_0 (by decide +kernel) ?_
  refine g_ist2 (by decide) dX7_itemWithHome_1 ?_
  exact loop n 0 (by omega) (fun j hj => absurd hj (Nat.not_lt_zero j))
theorem c_driveBeside (x : Int32) (n : Nat) (hS : St h 1) (hn : h.1 2 3 = nI n) (hn9 : n ≤ 4) : Ct G mX7_driveBeside [ga G 2, .int x] h 456 456 (rI (fun r h' => h' = h ∧ IsMin (fun i => h.1 (23 + i) 0 = x) (fun _ => 0) n r)) := by
  refine Ct.of rfl (by simp [Value.category, ga]) (Nat.le_of_ble_eq_true rfl) (Nat.le_refl _) ?_
  show Go _ _ _ _ _ _ _ [some (ga G 2), some (.int x), none] []
  have loop : ∀ m i, m + i = n → (∀ j, j < i → ¬ h.1 (23 + j) 0 = x) → Go G mX7_driveBeside 456 (rI (fun r h' => h' = h ∧ IsMin (fun i => h.1 (23 + i) 0 = x) (fun _ => 0) n r)) h 456 2 [some (ga G 2), some (.int x), some (.int (nI i))] [] := by
    intro m
    induction m with
    | zero =>
      intro i hi hI
      refine g_ild2 dX7_driveBeside_2 ?_
      refine g_ald0 dX7_driveBeside_3 ?_
      refine g_getI_a fb_7_3 mw_1_116 (by first | rfl | assumption | (exact lay_item (by omega)) | (exact lay_drive (by omega)) | (exact lay_job (by omega))) (by omega) dX7_driveBeside_4 (fun xx4 ee4 => ?_)
      obtain rfl : xx4 = (nI n) := ee4.symm.trans hn
      refine g_icmp_ge_t (tgt := 31) dX7_driveBeside_7 (by decide) (nI_le (by omega) (by omega)) ?_
      refine g_bipush (v := -5) dX7_driveBeside_31 (by decide +kernel) ?_
      show Go _ _ _ _ _ _ 33 _ _
      exact g_iret rfl dX7_driveBeside_33 ⟨-5, rfl, rfl, Or.inl ⟨rfl, fun j hj => hI j (by omega)⟩⟩
    | succ m ih =>
      intro i hi hI
      refine g_ild2 dX7_driveBeside_2 ?_
      refine g_ald0 dX7_driveBeside_3 ?_
      refine g_getI_a fb_7_3 mw_1_116 (by first | rfl | assumption | (exact lay_item (by omega)) | (exact lay_drive (by omega)) | (exact lay_job (by omega))) (by omega) dX7_driveBeside_4 (fun xx4 ee4 => ?_)
      obtain rfl : xx4 = (nI n) := ee4.symm.trans hn
      refine g_icmp_ge_f (tgt := 31) dX7_driveBeside_7 (by decide) (nI_ge (by omega) (by omega)) ?_
      refine g_ald0 dX7_driveBeside_10 ?_
      show Go _ _ _ _ _ _ 11 _ _
      refine g_getQ fb_7_2 mw_1_115 (by first | rfl | assumption | (exact lay_item (by omega)) | (exact lay_drive (by omega)) | (exact lay_job (by omega))) (by omega) (s1_drives hS) dX7_driveBeside_11 ?_
      refine g_ild2 dX7_driveBeside_14 ?_
      refine g_qald4 (by first | rfl | assumption | (exact lay_item (by omega)) | (exact lay_drive (by omega)) | (exact lay_job (by omega))) (by omega) rfl (by omega) (s1_drive hS (i := i) (by omega)) dX7_driveBeside_15 ?_
      refine g_getI fb_0_0 mw_1_85 (by first | rfl | assumption | (exact lay_item (by omega)) | (exact lay_drive (by omega)) | (exact lay_job (by omega))) (by omega) dX7_driveBeside_16 ?_
      refine g_ild1 dX7_driveBeside_19 ?_
      refine g_icmp_ne (tgt := 25) dX7_driveBeside_20 (by decide) (fun c_20 => ?_) (fun c_20 => ?_)
      · skip
        show Go _ _ _ _ _ _ 25 _ _
        refine g_iinc2 (by decide) dX7_driveBeside_25 (nI_1 i) ?_
        refine g_goto (tgt := 2) dX7_driveBeside_28 (by decide) ?_
        exact ih (i + 1) (by omega) (fun j hj => by rcases Nat.lt_or_ge j i with q | q; exact hI j q; rw [show j = i by omega]; exact c_20)
      · skip
        refine g_ild2 dX7_driveBeside_23 ?_
        exact g_iret rfl dX7_driveBeside_24 ⟨nI i, rfl, rfl, Or.inr ⟨i, by omega, rfl, c_20, fun _ _ _ => Nat.le_refl _, fun j hj hj2 => absurd hj2 (hI j hj)⟩⟩
  refine g_iconst (v := nI 0) dX7_driveBeside_0 (by decide +kernel) ?_
  refine g_ist2 (by decide) dX7_driveBeside_1 ?_
  exact loop n 0 (by omega) (fun j hj => absurd hj (Nat.not_lt_zero j))
theorem c_jobsInState (x : Int32) (n : Nat) (hS : St h 1) (hn : h.1 27 1 = nI n) (hn9 : n ≤ 30) : Ct G mX5_jobsInState [ga G 27, .int x] h 456 456 (dI (cnI (fun j => h.1 (29 + j) 3 = x) n) h) := by
  refine Ct.of rfl (by simp [Value.category, ga]) (Nat.le_of_ble_eq_true rfl) (Nat.le_refl _) ?_
  show Go _ _ _ _ _ _ _ [some (ga G 27), some (.int x), none, none] []
  have loop : ∀ m i, m + i = n → Go G mX5_jobsInState 456 (dI (cnI (fun j => h.1 (29 + j) 3 = x) n) h) h 456 4 [some (ga G 27), some (.int x), some (.int (cnI (fun j => h.1 (29 + j) 3 = x) i)), some (.int (nI i))] [] := by
    intro m
    induction m with
    | zero =>
      intro i hi
      obtain rfl : i = n := by omega
      refine g_ild3 dX5_jobsInState_4 ?_
      refine g_ald0 dX5_jobsInState_5 ?_
      refine g_getI_a fb_5_1 mw_1_199 (by first | rfl | assumption | (exact lay_item (by omega)) | (exact lay_drive (by omega)) | (exact lay_job (by omega))) (by omega) dX5_jobsInState_6 (fun xx6 ee6 => ?_)
      obtain rfl : xx6 = (nI i) := ee6.symm.trans hn
      refine g_icmp_ge_t (tgt := 39) dX5_jobsInState_9 (by decide) (nI_le (by omega) (by omega)) ?_
      refine g_ild2 dX5_jobsInState_39 ?_
      show Go _ _ _ _ _ _ 40 _ _
      exact g_iret rfl dX5_jobsInState_40 ⟨rfl, rfl⟩
    | succ m ih =>
      intro i hi
      refine g_ild3 dX5_jobsInState_4 ?_
      refine g_ald0 dX5_jobsInState_5 ?_
      refine g_getI_a fb_5_1 mw_1_199 (by first | rfl | assumption | (exact lay_item (by omega)) | (exact lay_drive (by omega)) | (exact lay_job (by omega))) (by omega) dX5_jobsInState_6 (fun xx6 ee6 => ?_)
      obtain rfl : xx6 = (nI n) := ee6.symm.trans hn
      refine g_icmp_ge_f (tgt := 39) dX5_jobsInState_9 (by decide) (nI_ge (by omega) (by omega)) ?_
      refine g_ild2 dX5_jobsInState_12 ?_
      show Go _ _ _ _ _ _ 13 _ _
      refine g_ald0 dX5_jobsInState_13 ?_
      refine g_getQ fb_5_0 mw_1_197 (by first | rfl | assumption | (exact lay_item (by omega)) | (exact lay_drive (by omega)) | (exact lay_job (by omega))) (by omega) (s1_jobs hS) dX5_jobsInState_14 ?_
      refine g_ild3 dX5_jobsInState_17 ?_
      refine g_qald5 (by first | rfl | assumption | (exact lay_item (by omega)) | (exact lay_drive (by omega)) | (exact lay_job (by omega))) (by omega) rfl (by omega) (s1_job hS (i := i) (by omega)) dX5_jobsInState_18 ?_
      refine g_getI fb_3_3 mw_1_148 (by first | rfl | assumption | (exact lay_item (by omega)) | (exact lay_drive (by omega)) | (exact lay_job (by omega))) (by omega) dX5_jobsInState_19 ?_
      refine g_ild1 dX5_jobsInState_22 ?_
      show Go _ _ _ _ _ _ 23 _ _
      refine g_icmp_ne (tgt := 30) dX5_jobsInState_23 (by decide) (fun c_23 => ?_) (fun c_23 => ?_)
      · skip
        refine g_iconst (v := nI 0) dX5_jobsInState_30 (by decide +kernel) ?_
        refine g_iadd_v dX5_jobsInState_31 (v := cnI (fun j => h.1 (29 + j) 3 = x) (i + 1)) (congrArg (fun z => cnI (fun j => h.1 (29 + j) 3 = x) i + z) (by first | exact (if_pos c_23).symm | exact (if_neg c_23).symm)) ?_
        refine g_ist2 (by decide) dX5_jobsInState_32 ?_
        refine g_iinc3 (by decide) dX5_jobsInState_33 (nI_1 i) ?_
        refine g_goto (tgt := 4) dX5_jobsInState_36 (by decide) ?_
        exact ih (i + 1) (by omega)
      · skip
        show Go _ _ _ _ _ _ 26 _ _
        refine g_iconst (v := nI 1) dX5_jobsInState_26 (by decide +kernel) ?_
        refine g_goto (tgt := 31) dX5_jobsInState_27 (by decide) ?_
        refine g_iadd_v dX5_jobsInState_31 (v := cnI (fun j => h.1 (29 + j) 3 = x) (i + 1)) (congrArg (fun z => cnI (fun j => h.1 (29 + j) 3 = x) i + z) (by first | exact (if_pos c_23).symm | exact (if_neg c_23).symm)) ?_
        refine g_ist2 (by decide) dX5_jobsInState_32 ?_
        refine g_iinc3 (by decide) dX5_jobsInState_33 (nI_1 i) ?_
        refine g_goto (tgt := 4) dX5_jobsInState_36 (by decide) ?_
        exact ih (i + 1) (by omega)
  refine g_iconst (v := nI 0) dX5_jobsInState_0 (by decide +kernel) ?_
  refine g_ist2 (by decide) dX5_jobsInState_1 ?_
  refine g_iconst (v := nI 0) dX5_jobsInState_2 (by decide +kernel) ?_
  refine g_ist3 (by decide) dX5_jobsInState_3 ?_
  exact loop n 0 (by omega)
end P17
