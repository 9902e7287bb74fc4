/-! ===== SMALL METHODS ===== -/
theorem wI_at {h : Hp} {a k : Nat} {v : Int32} : (wI h a k v).1 a k = v := if_pos ⟨rfl, rfl⟩
theorem wI_ne {h : Hp} {a k b j : Nat} {v : Int32} (q : ¬ (b = a ∧ j = k)) : (wI h a k v).1 b j = h.1 b j := if_neg q
theorem wF_at {h : Hp} {a k : Nat} {v : UInt32} : (wF h a k v).2.1 a k = v := if_pos ⟨rfl, rfl⟩
theorem wF_ne {h : Hp} {a k b j : Nat} {v : UInt32} (q : ¬ (b = a ∧ j = k)) : (wF h a k v).2.1 b j = h.2.1 b j := if_neg q
theorem wD_at {h : Hp} {a k : Nat} {v : UInt64} : (wD h a k v).2.2.1 a k = v := if_pos ⟨rfl, rfl⟩
theorem wD_ne {h : Hp} {a k b j : Nat} {v : UInt64} (q : ¬ (b = a ∧ j = k)) : (wD h a k v).2.2.1 b j = h.2.2.1 b j := if_neg q
theorem lay_item {i : Nat} (h : i < 18) : Lay (4 + i) = .inl 2 := by
  unfold Lay
  rw [if_neg (by omega), if_pos (by omega)]
  unfold SL
  rw [if_neg (by omega), if_neg (by omega), if_neg (by omega), if_pos (by omega)]
theorem lay_drive {i : Nat} (h : i < 4) : Lay (23 + i) = .inl 0 := by
  unfold Lay
  rw [if_neg (by omega), if_pos (by omega)]
  unfold SL
  rw [if_neg (by omega), if_neg (by omega), if_neg (by omega), if_neg (by omega), if_neg (by omega), if_pos (by omega)]
theorem lay_job {i : Nat} (h : i < 30) : Lay (29 + i) = .inl 3 := by
  unfold Lay
  rw [if_neg (by omega), if_pos (by omega)]
  unfold SL
  rw [if_neg (by omega), if_neg (by omega), if_neg (by omega), if_neg (by omega), if_neg (by omega), if_neg (by omega), if_neg (by omega), if_neg (by omega), if_pos (by omega)]
/-- a state's references, from its address b on -/
def St (h : Hp) (b : Nat) : Prop := h.2.2.2 b 0 = some (b + 1) ∧ h.2.2.2 b 1 = some (b + 26) ∧ h.2.2.2 b 2 = some (b + 58) ∧ h.2.2.2 (b + 1) 0 = some (b + 2) ∧ h.2.2.2 (b + 1) 2 = some (b + 21) ∧ (∀ i, i < 18 → h.2.2.2 (b + 2) i = some (b + 3 + i)) ∧ (∀ i, i < 4 → h.2.2.2 (b + 21) i = some (b + 22 + i)) ∧ h.2.2.2 (b + 26) 0 = some (b + 27) ∧ (∀ i, i < 30 → h.2.2.2 (b + 27) i = some (b + 28 + i)) ∧ h.2.2.2 (b + 58) 0 = some (b + 59) ∧ h.2.2.2 (b + 58) 1 = some (b + 60) ∧ h.2.2.2 (b + 58) 2 = some (b + 61) ∧ h.2.2.2 (b + 58) 3 = some (b + 62)
/-- the robot's references -/
def Sh (h : Hp) : Prop := St h 1 ∧ h.2.2.2 0 0 = some 1 ∧ h.2.2.2 0 1 = some 64 ∧ h.2.2.2 64 0 = some 65 ∧ (∀ i, i < 4 → ∃ j, j < 4 ∧ h.2.2.2 65 i = some (66 + 63 * j)) ∧ ∀ j, j < 4 → St h (66 + 63 * j)
theorem sh_now {h : Hp} (s : Sh h) : h.2.2.2 0 0 = some 1 := s.2.1
theorem sh_hist {h : Hp} (s : Sh h) : h.2.2.2 0 1 = some 64 := s.2.2.1
theorem sh_states {h : Hp} (s : Sh h) : h.2.2.2 64 0 = some 65 := s.2.2.2.1
theorem s1_store {h : Hp} (s : St h 1) : h.2.2.2 1 0 = some 2 := s.1
theorem sh_store {h : Hp} (s : Sh h) : h.2.2.2 1 0 = some 2 := s1_store s.1
theorem s1_queue {h : Hp} (s : St h 1) : h.2.2.2 1 1 = some 27 := s.2.1
theorem sh_queue {h : Hp} (s : Sh h) : h.2.2.2 1 1 = some 27 := s1_queue s.1
theorem s1_log {h : Hp} (s : St h 1) : h.2.2.2 1 2 = some 59 := s.2.2.1
theorem sh_log {h : Hp} (s : Sh h) : h.2.2.2 1 2 = some 59 := s1_log s.1
theorem s1_items {h : Hp} (s : St h 1) : h.2.2.2 2 0 = some 3 := s.2.2.2.1
theorem sh_items {h : Hp} (s : Sh h) : h.2.2.2 2 0 = some 3 := s1_items s.1
theorem s1_drives {h : Hp} (s : St h 1) : h.2.2.2 2 2 = some 22 := s.2.2.2.2.1
theorem sh_drives {h : Hp} (s : Sh h) : h.2.2.2 2 2 = some 22 := s1_drives s.1
theorem s1_item {h : Hp} (s : St h 1) {i : Nat} (hi : i < 18) : h.2.2.2 3 i = some (4 + i) := s.2.2.2.2.2.1 i hi
theorem sh_item {h : Hp} (s : Sh h) {i : Nat} (hi : i < 18) : h.2.2.2 3 i = some (4 + i) := s1_item s.1 hi
theorem s1_drive {h : Hp} (s : St h 1) {i : Nat} (hi : i < 4) : h.2.2.2 22 i = some (23 + i) := s.2.2.2.2.2.2.1 i hi
theorem sh_drive {h : Hp} (s : Sh h) {i : Nat} (hi : i < 4) : h.2.2.2 22 i = some (23 + i) := s1_drive s.1 hi
theorem s1_jobs {h : Hp} (s : St h 1) : h.2.2.2 27 0 = some 28 := s.2.2.2.2.2.2.2.1
theorem sh_jobs {h : Hp} (s : Sh h) : h.2.2.2 27 0 = some 28 := s1_jobs s.1
theorem s1_job {h : Hp} (s : St h 1) {i : Nat} (hi : i < 30) : h.2.2.2 28 i = some (29 + i) := s.2.2.2.2.2.2.2.2.1 i hi
theorem sh_job {h : Hp} (s : Sh h) {i : Nat} (hi : i < 30) : h.2.2.2 28 i = some (29 + i) := s1_job s.1 hi
theorem s1_lk {h : Hp} (s : St h 1) : h.2.2.2 59 0 = some 60 := s.2.2.2.2.2.2.2.2.2.1
theorem sh_lk {h : Hp} (s : Sh h) : h.2.2.2 59 0 = some 60 := s1_lk s.1
theorem s1_lj {h : Hp} (s : St h 1) : h.2.2.2 59 1 = some 61 := s.2.2.2.2.2.2.2.2.2.2.1
theorem sh_lj {h : Hp} (s : Sh h) : h.2.2.2 59 1 = some 61 := s1_lj s.1
theorem s1_ld {h : Hp} (s : St h 1) : h.2.2.2 59 2 = some 62 := s.2.2.2.2.2.2.2.2.2.2.2.1
theorem sh_ld {h : Hp} (s : Sh h) : h.2.2.2 59 2 = some 62 := s1_ld s.1
theorem s1_lt {h : Hp} (s : St h 1) : h.2.2.2 59 3 = some 63 := s.2.2.2.2.2.2.2.2.2.2.2.2
theorem sh_lt {h : Hp} (s : Sh h) : h.2.2.2 59 3 = some 63 := s1_lt s.1
theorem e_if {α : Type} {c : Prop} [Decidable c] {x a b : α} (h1 : c → x = a) (h2 : ¬ c → x = b) : x = (if c then a else b) := by
  by_cases hc : c
  · rw [if_pos hc]; exact h1 hc
  · rw [if_neg hc]; exact h2 hc
section P12
variable {G : Gl} {h : Hp}
/-- hasSlot(s) -/
theorem c_hasSlot (s : Nat) (hs : s < 1000) : Ct G mX7_hasSlot [.int (nI s)] h 456 456 (dI (if s < 24 then 1 else 0) h) := by
  refine Ct.of rfl (by simp [Value.category, ga]) (Nat.le_of_ble_eq_true rfl) (Nat.le_refl _) ?_
  show Go _ _ _ _ _ _ _ [some (.int (nI s))] []
  refine g_ild0 dX7_hasSlot_0 ?_
  refine g_if_lt_f (tgt := 14) dX7_hasSlot_1 (by decide) (Int32.not_lt.mpr (nI_pos' (by omega))) ?_
  refine g_ild0 dX7_hasSlot_4 ?_
  refine g_bipush (v := nI 24) dX7_hasSlot_5 (by decide +kernel) ?_
  refine g_icmp_ge (tgt := 14) dX7_hasSlot_7 (by decide) (fun c_7 => ?_) (fun c_7 => ?_)
  · skip
    have c := (nI_leI (by omega) (by omega)).mp c_7
    show Go _ _ _ _ _ _ 14 _ _
    refine g_iconst (v := nI 0) dX7_hasSlot_14 (by decide +kernel) ?_
    exact g_zret rfl rfl dX7_hasSlot_15 ⟨congrArg (fun z => some (Value.int z)) (e_if (fun q => by first | rfl | (exfalso; omega)) (fun q => by first | rfl | (exfalso; omega))), rfl⟩
  · skip
    have c : ¬ 24 ≤ s := fun q => c_7 ((nI_leI (by omega) (by omega)).mpr q)
    refine g_iconst (v := nI 1) dX7_hasSlot_10 (by decide +kernel) ?_
    refine g_goto (tgt := 15) dX7_hasSlot_11 (by decide) ?_
    exact g_zret rfl rfl dX7_hasSlot_15 ⟨congrArg (fun z => some (Value.int z)) (e_if (fun q => by first | rfl | (exfalso; omega)) (fun q => by first | rfl | (exfalso; omega))), rfl⟩
/-- isFrom(value, least, most) -/
theorem c_isFrom (v a b : Int32) : Ct G mX9_isFrom [.int v, .int a, .int b] h 456 456 (dI (if a ≤ v ∧ v ≤ b then 1 else 0) h) := by
  refine Ct.of rfl (by simp [Value.category, ga]) (Nat.le_of_ble_eq_true rfl) (Nat.le_refl _) ?_
  show Go _ _ _ _ _ _ _ [some (.int v), some (.int a), some (.int b)] []
  refine g_ild0 dX9_isFrom_0 ?_
  refine g_ild1 dX9_isFrom_1 ?_
  refine g_icmp_lt (tgt := 14) dX9_isFrom_2 (by decide) (fun c_2 => ?_) (fun c_2 => ?_)
  · skip
    refine g_iconst (v := nI 0) dX9_isFrom_14 (by decide +kernel) ?_
    exact g_zret rfl rfl dX9_isFrom_15 ⟨congrArg (fun z => some (Value.int z)) (e_if (fun q => by first | rfl | (exfalso; (first | exact absurd q.1 (Int32.not_le.mpr (by assumption)) | exact absurd q.2 (Int32.not_le.mpr (by assumption)) | exact q ⟨Int32.not_lt.mp (by assumption), Int32.not_lt.mp (by assumption)⟩))) (fun q => by first | rfl | (exfalso; (first | exact absurd q.1 (Int32.not_le.mpr (by assumption)) | exact absurd q.2 (Int32.not_le.mpr (by assumption)) | exact q ⟨Int32.not_lt.mp (by assumption), Int32.not_lt.mp (by assumption)⟩)))), rfl⟩
  · skip
    show Go _ _ _ _ _ _ 5 _ _
    refine g_ild0 dX9_isFrom_5 ?_
    refine g_ild2 dX9_isFrom_6 ?_
    refine g_icmp_gt (tgt := 14) dX9_isFrom_7 (by decide) (fun c_7 => ?_) (fun c_7 => ?_)
    · skip
      refine g_iconst (v := nI 0) dX9_isFrom_14 (by decide +kernel) ?_
      exact g_zret rfl rfl dX9_isFrom_15 ⟨congrArg (fun z => some (Value.int z)) (e_if (fun q => by first | rfl | (exfalso; (first | exact absurd q.1 (Int32.not_le.mpr (by assumption)) | exact absurd q.2 (Int32.not_le.mpr (by assumption)) | exact q ⟨Int32.not_lt.mp (by assumption), Int32.not_lt.mp (by assumption)⟩))) (fun q => by first | rfl | (exfalso; (first | exact absurd q.1 (Int32.not_le.mpr (by assumption)) | exact absurd q.2 (Int32.not_le.mpr (by assumption)) | exact q ⟨Int32.not_lt.mp (by assumption), Int32.not_lt.mp (by assumption)⟩)))), rfl⟩
    · skip
      refine g_iconst (v := nI 1) dX9_isFrom_10 (by decide +kernel) ?_
      show Go _ _ _ _ _ _ 11 _ _
      refine g_goto (tgt := 15) dX9_isFrom_11 (by decide) ?_
      exact g_zret rfl rfl dX9_isFrom_15 ⟨congrArg (fun z => some (Value.int z)) (e_if (fun q => by first | rfl | (exfalso; (first | exact absurd q.1 (Int32.not_le.mpr (by assumption)) | exact absurd q.2 (Int32.not_le.mpr (by assumption)) | exact q ⟨Int32.not_lt.mp (by assumption), Int32.not_lt.mp (by assumption)⟩))) (fun q => by first | rfl | (exfalso; (first | exact absurd q.1 (Int32.not_le.mpr (by assumption)) | exact absurd q.2 (Int32.not_le.mpr (by assumption)) | exact q ⟨Int32.not_lt.mp (by assumption), Int32.not_lt.mp (by assumption)⟩)))), rfl⟩
end P12
