/-! ===== THE ROBOT'S CHOICES ===== -/
/-- the homes' numbers -/
def hm (M : Mo) (i : Nat) : Nat := (M.1 1 (6 * i + 1)).toNatClampNeg
def Ihm (M : Mo) (ni : Nat) : Prop := ∀ i, i < ni → hm M i < 24 ∧ M.1 1 (6 * i + 1) = nI (hm M i)
def Icl (M : Mo) (ni : Nat) : Prop := ∀ i, i < ni → M.1 1 (6 * i) = 0 ∨ M.1 1 (6 * i) = 1
def Ifl (M : Mo) (nd : Nat) : Prop := (∀ k, k < nd → Gd (M.2 (2 * k)) ∧ Gd (M.2 (2 * k + 1))) ∧ Gd (M.2 8) ∧ Gd (M.2 9)
/-- a job's kind and what it is about -/
def Ijb (M : Mo) (ni nd nj : Nat) : Prop := ∀ j, j < nj → (M.1 3 (6 * j) = 0 ∧ ∃ i, i < ni ∧ M.1 3 (6 * j + 1) = nI i) ∨ (M.1 3 (6 * j) = 1 ∧ ∃ k, k < nd ∧ M.1 3 (6 * j + 1) = nI k) ∨ (M.1 3 (6 * j) = 2 ∧ (∃ i, i < ni ∧ M.1 3 (6 * j + 1) = nI i) ∧ ∃ s, s < 24 ∧ M.1 3 (6 * j + 2) = nI s)
/-- job j is open and about item x -/
abbrev jw (h : Hp) (x : Int32) (j : Nat) : Prop := (h.1 (29 + j) 3 = 0 ∨ h.1 (29 + j) 3 = 1) ∧ (if h.1 (29 + j) 0 = 1 then h.1 (29 + j) 8 else h.1 (29 + j) 1) = x
def jwB (h : Hp) (x : Int32) (j : Nat) : Bool := decide (jw h x j)
section P18
variable {G : Gl} {h : Hp}
theorem c_isTooDusty (k : Nat) (hk : Lay k = .inl 0) (hl : k < 456) (g1 : Gd (h.2.1 k 1)) (g2 : Gd (h.2.1 k 2)) : Ct G mX0_isTooDusty [ga G k] h 456 456 (dI (if (h.2.1 k 2).toNat < (h.2.1 k 1).toNat then 1 else 0) h) := by
  refine Ct.of rfl (by simp [Value.category, ga]) (Nat.le_of_ble_eq_true rfl) (Nat.le_refl _) ?_
  show Go _ _ _ _ _ _ _ [some (ga G k)] []
  refine g_ald0 dX0_isTooDusty_0 ?_
  refine g_getF fb_0_1 mw_1_87 (by first | rfl | assumption | (exact lay_item (by omega)) | (exact lay_drive (by omega)) | (exact lay_job (by omega))) (by omega) dX0_isTooDusty_1 ?_
  refine g_ald0 dX0_isTooDusty_4 ?_
  refine g_getF fb_0_2 mw_1_90 (by first | rfl | assumption | (exact lay_item (by omega)) | (exact lay_drive (by omega)) | (exact lay_job (by omega))) (by omega) dX0_isTooDusty_5 ?_
  refine g_fcmp dX0_isTooDusty_8 ?_
  show Go _ _ _ _ _ _ 9 _ _
  rw [fl_cmp g1 g2]
  refine g_if_le (tgt := 16) dX0_isTooDusty_9 (by decide) (fun c_9 => ?_) (fun c_9 => ?_)
  · skip
    refine g_iconst (v := nI 0) dX0_isTooDusty_16 (by decide +kernel) ?_
    exact g_zret rfl rfl dX0_isTooDusty_17 ⟨congrArg (fun z => some (Value.int z)) (e_if (fun q => by first | rfl | (exfalso; (first | exact absurd (cmpv_le.mp c_9) (by omega) | exact c_9 (cmpv_le.mpr (by omega))))) (fun q => by first | rfl | (exfalso; (first | exact absurd (cmpv_le.mp c_9) (by omega) | exact c_9 (cmpv_le.mpr (by omega)))))), rfl⟩
  · skip
    refine g_iconst (v := nI 1) dX0_isTooDusty_12 (by decide +kernel) ?_
    refine g_goto (tgt := 17) dX0_isTooDusty_13 (by decide) ?_
    exact g_zret rfl rfl dX0_isTooDusty_17 ⟨congrArg (fun z => some (Value.int z)) (e_if (fun q => by first | rfl | (exfalso; (first | exact absurd (cmpv_le.mp c_9) (by omega) | exact c_9 (cmpv_le.mpr (by omega))))) (fun q => by first | rfl | (exfalso; (first | exact absurd (cmpv_le.mp c_9) (by omega) | exact c_9 (cmpv_le.mpr (by omega)))))), rfl⟩
theorem c_rankOf (M : Mo) (x : Int32) (h6 : h.1 27 2 = M.1 0 6) (h7 : h.1 27 3 = M.1 0 7) : Ct G mX5_rankOf [ga G 27, .int x] h 456 456 (dI (nI (rk M x)) h) := by
  refine Ct.of rfl (by simp [Value.category, ga]) (Nat.le_of_ble_eq_true rfl) (Nat.le_refl _) ?_
  show Go _ _ _ _ _ _ _ [some (ga G 27), some (.int x)] []
  refine g_ild1 dX5_rankOf_0 ?_
  refine g_ald0 dX5_rankOf_1 ?_
  refine g_getI_a fb_5_2 mw_1_202 (by first | rfl | assumption | (exact lay_item (by omega)) | (exact lay_drive (by omega)) | (exact lay_job (by omega))) (by omega) dX5_rankOf_2 (fun xx2 ee2 => ?_)
  obtain rfl : xx2 = (M.1 0 6) := ee2.symm.trans h6
  refine g_icmp_ne (tgt := 12) dX5_rankOf_5 (by decide) (fun c_5 => ?_) (fun c_5 => ?_)
  · skip
    refine g_ild1 dX5_rankOf_12 ?_
    show Go _ _ _ _ _ _ 13 _ _
    refine g_ald0 dX5_rankOf_13 ?_
    refine g_getI_a fb_5_3 mw_1_203 (by first | rfl | assumption | (exact lay_item (by omega)) | (exact lay_drive (by omega)) | (exact lay_job (by omega))) (by omega) dX5_rankOf_14 (fun xx14 ee14 => ?_)
    obtain rfl : xx14 = (M.1 0 7) := ee14.symm.trans h7
    refine g_icmp_ne (tgt := 24) dX5_rankOf_17 (by decide) (fun c_17 => ?_) (fun c_17 => ?_)
    · skip
      refine g_iconst (v := nI 2) dX5_rankOf_24 (by decide +kernel) ?_
      exact g_iret rfl dX5_rankOf_25 ⟨congrArg (fun z => some (Value.int (nI z))) (by unfold rk; first | rw [if_pos c_5] | rw [if_neg c_5, if_pos c_17] | rw [if_neg c_5, if_neg c_17]), rfl⟩
    · skip
      refine g_iconst (v := nI 1) dX5_rankOf_20 (by decide +kernel) ?_
      show Go _ _ _ _ _ _ 21 _ _
      refine g_goto (tgt := 25) dX5_rankOf_21 (by decide) ?_
      exact g_iret rfl dX5_rankOf_25 ⟨congrArg (fun z => some (Value.int (nI z))) (by unfold rk; first | rw [if_pos c_5] | rw [if_neg c_5, if_pos c_17] | rw [if_neg c_5, if_neg c_17]), rfl⟩
  · skip
    refine g_iconst (v := nI 0) dX5_rankOf_8 (by decide +kernel) ?_
    refine g_goto (tgt := 25) dX5_rankOf_9 (by decide) ?_
    exact g_iret rfl dX5_rankOf_25 ⟨congrArg (fun z => some (Value.int (nI z))) (by unfold rk; first | rw [if_pos c_5] | rw [if_neg c_5, if_pos c_17] | rw [if_neg c_5, if_neg c_17]), rfl⟩
theorem c_rankKinds (x y : Int32) : Ct G mX5_rankKinds [ga G 27, .int x, .int y] h 456 456 (dI (3 - x - y) (wI (wI h 27 2 x) 27 3 y)) := by
  refine Ct.of rfl (by simp [Value.category, ga]) (Nat.le_of_ble_eq_true rfl) (Nat.le_refl _) ?_
  show Go _ _ _ _ _ _ _ [some (ga G 27), some (.int x), some (.int y)] []
  refine g_ald0 dX5_rankKinds_0 ?_
  refine g_ild1 dX5_rankKinds_1 ?_
  refine g_putI fb_5_2 mw_1_202 (by first | rfl | assumption | (exact lay_item (by omega)) | (exact lay_drive (by omega)) | (exact lay_job (by omega))) (by omega) rfl rfl dX5_rankKinds_2 ?_
  refine g_ald0 dX5_rankKinds_5 ?_
  refine g_ild2 dX5_rankKinds_6 ?_
  show Go _ _ _ _ _ _ 7 _ _
  refine g_putI fb_5_3 mw_1_203 (by first | rfl | assumption | (exact lay_item (by omega)) | (exact lay_drive (by omega)) | (exact lay_job (by omega))) (by omega) rfl rfl dX5_rankKinds_7 ?_
  refine g_iconst (v := nI 3) dX5_rankKinds_10 (by decide +kernel) ?_
  refine g_ild1 dX5_rankKinds_11 ?_
  refine g_isub dX5_rankKinds_12 ?_
  refine g_ild2 dX5_rankKinds_13 ?_
  refine g_isub dX5_rankKinds_14 ?_
  show Go _ _ _ _ _ _ 15 _ _
  exact g_iret rfl dX5_rankKinds_15 ⟨rfl, rfl⟩
theorem c_isOpen (k : Nat) (hk : Lay k = .inl 3) (hl : k < 456) : Ct G mX3_isOpen [ga G k] h 456 456 (rB (h.1 k 3 = 0 ∨ h.1 k 3 = 1) h) := by
  refine Ct.of rfl (by simp [Value.category, ga]) (Nat.le_of_ble_eq_true rfl) (Nat.le_refl _) ?_
  show Go _ _ _ _ _ _ _ [some (ga G k)] []
  refine g_ald0 dX3_isOpen_0 ?_
  refine g_getI fb_3_3 mw_1_146 (by first | rfl | assumption | (exact lay_item (by omega)) | (exact lay_drive (by omega)) | (exact lay_job (by omega))) (by omega) dX3_isOpen_1 ?_
  refine g_if_eq (tgt := 15) dX3_isOpen_4 (by decide) (fun c_4 => ?_) (fun c_4 => ?_)
  · skip
    refine g_iconst (v := nI 1) dX3_isOpen_15 (by decide +kernel) ?_
    refine g_goto (tgt := 20) dX3_isOpen_16 (by decide) ?_
    show Go _ _ _ _ _ _ 20 _ _
    exact g_zret rfl rfl dX3_isOpen_20 ⟨by first | exact Or.inl ⟨rfl, Or.inl c_4⟩ | exact Or.inl ⟨rfl, Or.inr c_12⟩ | exact Or.inr ⟨rfl, fun q => q.elim c_4 c_12⟩, rfl⟩
  · skip
    refine g_ald0 dX3_isOpen_7 ?_
    refine g_getI fb_3_3 mw_1_146 (by first | rfl | assumption | (exact lay_item (by omega)) | (exact lay_drive (by omega)) | (exact lay_job (by omega))) (by omega) dX3_isOpen_8 ?_
    refine g_iconst (v := nI 1) dX3_isOpen_11 (by decide +kernel) ?_
    refine g_icmp_ne (tgt := 19) dX3_isOpen_12 (by decide) (fun c_12 => ?_) (fun c_12 => ?_)
    · skip
      refine g_iconst (v := nI 0) dX3_isOpen_19 (by decide +kernel) ?_
      show Go _ _ _ _ _ _ 20 _ _
      exact g_zret rfl rfl dX3_isOpen_20 ⟨by first | exact Or.inl ⟨rfl, Or.inl c_4⟩ | exact Or.inl ⟨rfl, Or.inr c_12⟩ | exact Or.inr ⟨rfl, fun q => q.elim c_4 c_12⟩, rfl⟩
    · skip
      refine g_iconst (v := nI 1) dX3_isOpen_15 (by decide +kernel) ?_
      refine g_goto (tgt := 20) dX3_isOpen_16 (by decide) ?_
      exact g_zret rfl rfl dX3_isOpen_20 ⟨by first | exact Or.inl ⟨rfl, Or.inl c_4⟩ | exact Or.inl ⟨rfl, Or.inr c_12⟩ | exact Or.inr ⟨rfl, fun q => q.elim c_4 c_12⟩, rfl⟩
theorem c_carriedItem (k : Nat) (hk : Lay k = .inl 3) (hl : k < 456) : Ct G mX3_carriedItem [ga G k] h 456 456 (dI (if h.1 k 0 = 1 then h.1 k 8 else h.1 k 1) h) := by
  refine Ct.of rfl (by simp [Value.category, ga]) (Nat.le_of_ble_eq_true rfl) (Nat.le_refl _) ?_
  show Go _ _ _ _ _ _ _ [some (ga G k)] []
  refine g_ald0 dX3_carriedItem_0 ?_
  refine g_getI fb_3_0 mw_1_140 (by first | rfl | assumption | (exact lay_item (by omega)) | (exact lay_drive (by omega)) | (exact lay_job (by omega))) (by omega) dX3_carriedItem_1 ?_
  refine g_iconst (v := nI 1) dX3_carriedItem_4 (by decide +kernel) ?_
  refine g_icmp_ne (tgt := 15) dX3_carriedItem_5 (by decide) (fun c_5 => ?_) (fun c_5 => ?_)
  · skip
    refine g_ald0 dX3_carriedItem_15 ?_
    show Go _ _ _ _ _ _ 16 _ _
    refine g_getI fb_3_1 mw_1_142 (by first | rfl | assumption | (exact lay_item (by omega)) | (exact lay_drive (by omega)) | (exact lay_job (by omega))) (by omega) dX3_carriedItem_16 ?_
    exact g_iret rfl dX3_carriedItem_19 ⟨congrArg (fun z => some (Value.int z)) (by first | exact (if_pos c_5).symm | exact (if_neg c_5).symm), rfl⟩
  · skip
    refine g_ald0 dX3_carriedItem_8 ?_
    refine g_getI fb_3_8 mw_1_159 (by first | rfl | assumption | (exact lay_item (by omega)) | (exact lay_drive (by omega)) | (exact lay_job (by omega))) (by omega) dX3_carriedItem_9 ?_
    refine g_goto (tgt := 19) dX3_carriedItem_12 (by decide) ?_
    exact g_iret rfl dX3_carriedItem_19 ⟨congrArg (fun z => some (Value.int z)) (by first | exact (if_pos c_5).symm | exact (if_neg c_5).symm), rfl⟩
theorem c_jobsWith (x : Int32) (n : Nat) (hS : St h 1) (hn : h.1 27 1 = nI n) (hn9 : n ≤ 30) : Ct G mX5_jobsWith [ga G 27, .int x] h 456 456 (dI (cnI (fun j => jwB h x j = true) n) h) := by
  refine Ct.of rfl (by simp [Value.category, ga]) (Nat.le_of_ble_eq_true rfl) (Nat.le_refl _) ?_
  show Go _ _ _ _ _ _ _ [some (ga G 27), some (.int x), none, none, none] []
  have loop : ∀ m i x4, m + i = n → Go G mX5_jobsWith 456 (dI (cnI (fun j => jwB h x j = true) n) h) h 456 4 [some (ga G 27), some (.int x), some (.int (cnI (fun j => jwB h x j = true) i)), some (.int (nI i)), x4] [] := by
    intro m
    induction m with
    | zero =>
      intro i x4 hi
      obtain rfl : i = n := by omega
      refine g_ild3 dX5_jobsWith_4 ?_
      refine g_ald0 dX5_jobsWith_5 ?_
      refine g_getI_a fb_5_1 mw_1_199 (by first | rfl | assumption | (exact lay_item (by omega)) | (exact lay_drive (by omega)) | (exact lay_job (by omega))) (by omega) dX5_jobsWith_6 (fun xx6 ee6 => ?_)
      obtain rfl : xx6 = (nI i) := ee6.symm.trans hn
      refine g_icmp_ge_t (tgt := 51) dX5_jobsWith_9 (by decide) (nI_le (by omega) (by omega)) ?_
      refine g_ild2 dX5_jobsWith_51 ?_
      show Go _ _ _ _ _ _ 52 _ _
      exact g_iret rfl dX5_jobsWith_52 ⟨rfl, rfl⟩
    | succ m ih =>
      intro i x4 hi
      refine g_ild3 dX5_jobsWith_4 ?_
      refine g_ald0 dX5_jobsWith_5 ?_
      refine g_getI_a fb_5_1 mw_1_199 (by first | rfl | assumption | (exact lay_item (by omega)) | (exact lay_drive (by omega)) | (exact lay_job (by omega))) (by omega) dX5_jobsWith_6 (fun xx6 ee6 => ?_)
      obtain rfl : xx6 = (nI n) := ee6.symm.trans hn
      refine g_icmp_ge_f (tgt := 51) dX5_jobsWith_9 (by decide) (nI_ge (by omega) (by omega)) ?_
      refine g_ald0 dX5_jobsWith_12 ?_
      show Go _ _ _ _ _ _ 13 _ _
      refine g_getQ fb_5_0 mw_1_197 (by first | rfl | assumption | (exact lay_item (by omega)) | (exact lay_drive (by omega)) | (exact lay_job (by omega))) (by omega) (s1_jobs hS) dX5_jobsWith_13 ?_
      refine g_ild3 dX5_jobsWith_16 ?_
      refine g_qald5 (by first | rfl | assumption | (exact lay_item (by omega)) | (exact lay_drive (by omega)) | (exact lay_job (by omega))) (by omega) rfl (by omega) (s1_job hS (i := i) (by omega)) dX5_jobsWith_17 ?_
      refine g_ast4 (by decide) dX5_jobsWith_18 ?_
      refine g_ild2 dX5_jobsWith_20 ?_
      refine g_ald4 dX5_jobsWith_21 ?_
      show Go _ _ _ _ _ _ 23 _ _
      refine g_callV0 (c_isOpen (h := h) (29 + i) (lay_job (by omega)) (by omega)) mw_2_140 ok_X3_isOpen ⟨by decide, by decide⟩ (by first | rfl | assumption | (exact lay_item (by omega)) | (exact lay_drive (by omega)) | (exact lay_job (by omega))) (by omega) rfl (by omega) (by omega) (Nat.le_of_ble_eq_true rfl) dX5_jobsWith_23 (rB_K ?_)
      intro r23 h23
      refine g_if_eq (tgt := 42) dX5_jobsWith_26 (by decide) (fun c_26 => ?_) (fun c_26 => ?_)
      · skip
        refine g_iconst (v := nI 0) dX5_jobsWith_42 (by decide +kernel) ?_
        refine g_iadd_v dX5_jobsWith_43 (v := cnI (fun j => jwB h x j = true) (i + 1)) (congrArg (fun z => cnI (fun j => jwB h x j = true) i + z) (by first | exact (if_pos (decide_eq_true (⟨h23.elim (fun q => q.2) (fun q => absurd q.1 c_26), c_35⟩ : jw h x i))).symm | exact (if_neg (fun q => c_35 (of_decide_eq_true (p := jw h x i) q).2)).symm | exact (if_neg (fun q => h23.elim (fun z => absurd (z.1.symm.trans c_26) (by decide)) (fun z => z.2 (of_decide_eq_true (p := jw h x i) q).1))).symm)) ?_
        refine g_ist2 (by decide) dX5_jobsWith_44 ?_
        refine g_iinc3 (by decide) dX5_jobsWith_45 (nI_1 i) ?_
        show Go _ _ _ _ _ _ 48 _ _
        refine g_goto (tgt := 4) dX5_jobsWith_48 (by decide) ?_
        exact ih (i + 1) _ (by omega)
      · skip
        refine g_ald4 dX5_jobsWith_29 ?_
        refine g_callV0 (c_carriedItem (h := h) (29 + i) (lay_job (by omega)) (by omega)) mw_2_144 ok_X3_carriedItem ⟨by decide, by decide⟩ (by first | rfl | assumption | (exact lay_item (by omega)) | (exact lay_drive (by omega)) | (exact lay_job (by omega))) (by omega) rfl (by omega) (by omega) (Nat.le_of_ble_eq_true rfl) dX5_jobsWith_31 (dI_K ?_)
        refine g_ild1 dX5_jobsWith_34 ?_
        refine g_icmp_ne (tgt := 42) dX5_jobsWith_35 (by decide) (fun c_35 => ?_) (fun c_35 => ?_)
        · skip
          refine g_iconst (v := nI 0) dX5_jobsWith_42 (by decide +kernel) ?_
          show Go _ _ _ _ _ _ 43 _ _
          refine g_iadd_v dX5_jobsWith_43 (v := cnI (fun j => jwB h x j = true) (i + 1)) (congrArg (fun z => cnI (fun j => jwB h x j = true) i + z) (by first | exact (if_pos (decide_eq_true (⟨h23.elim (fun q => q.2) (fun q => absurd q.1 c_26), c_35⟩ : jw h x i))).symm | exact (if_neg (fun q => c_35 (of_decide_eq_true (p := jw h x i) q).2)).symm | exact (if_neg (fun q => h23.elim (fun z => absurd (z.1.symm.trans c_26) (by decide)) (fun z => z.2 (of_decide_eq_true (p := jw h x i) q).1))).symm)) ?_
          refine g_ist2 (by decide) dX5_jobsWith_44 ?_
          refine g_iinc3 (by decide) dX5_jobsWith_45 (nI_1 i) ?_
          refine g_goto (tgt := 4) dX5_jobsWith_48 (by decide) ?_
          exact ih (i + 1) _ (by omega)
        · skip
          refine g_iconst (v := nI 1) dX5_jobsWith_38 (by decide +kernel) ?_
          refine g_goto (tgt := 43) dX5_jobsWith_39 (by decide) ?_
          show Go _ _ _ _ _ _ 43 _ _
          refine g_iadd_v dX5_jobsWith_43 (v := cnI (fun j => jwB h x j = true) (i + 1)) (congrArg (fun z => cnI (fun j => jwB h x j = true) i + z) (by first | exact (if_pos (decide_eq_true (⟨h23.elim (fun q => q.2) (fun q => absurd q.1 c_26), c_35⟩ : jw h x i))).symm | exact (if_neg (fun q => c_35 (of_decide_eq_true (p := jw h x i) q).2)).symm | exact (if_neg (fun q => h23.elim (fun z => absurd (z.1.symm.trans c_26) (by decide)) (fun z => z.2 (of_decide_eq_true (p := jw h x i) q).1))).symm)) ?_
          refine g_ist2 (by decide) dX5_jobsWith_44 ?_
          refine g_iinc3 (by decide) dX5_jobsWith_45 (nI_1 i) ?_
          refine g_goto (tgt := 4) dX5_jobsWith_48 (by decide) ?_
          exact ih (i + 1) _ (by omega)
  refine g_iconst (v := nI 0) dX5_jobsWith_0 (by decide +kernel) ?_
  refine g_ist2 (by decide) dX5_jobsWith_1 ?_
  refine g_iconst (v := nI 0) dX5_jobsWith_2 (by decide +kernel) ?_
  refine g_ist3 (by decide) dX5_jobsWith_3 ?_
  exact loop n 0 _ (by omega)
theorem c_driveToRead (M : Mo) (ni nd nj : Nat) (hR : Rb h M ni nd nj) (hd : nd ≤ 4) (hf : Ifl M nd) : Ct G mX7_driveToRead [ga G 2] h 456 456 (rI (fun r h' => h' = h ∧ IsMin (fun k => ¬ dst M k) (fun k => (M.2 (2 * k)).toNat) nd r)) := by
  obtain ⟨-, ⟨-, hn, -⟩, -, hD, -, -, -, hS⟩ := hR
  have hS := hS.1
  refine Ct.of rfl (by simp [Value.category, ga]) (Nat.le_of_ble_eq_true rfl) (Nat.le_refl _) ?_
  show Go _ _ _ _ _ _ _ [some (ga G 2), none, none, none, none] []
  have loop : ∀ m i bst lst x4, m + i = nd → IsMin (fun k => ¬ dst M k) (fun k => (M.2 (2 * k)).toNat) i bst → (bst = -5 ∨ ∃ b, bst = nI b ∧ b < i ∧ lst = M.2 (2 * b)) → Go G mX7_driveToRead 456 (rI (fun r h' => h' = h ∧ IsMin (fun k => ¬ dst M k) (fun k => (M.2 (2 * k)).toNat) nd r)) h 456 7 [some (ga G 2), some (.int bst), some (.float lst), some (.int (nI i)), x4] [] := by
    intro m
    induction m with
    | zero =>
      intro i bst lst x4 hi hI hb
      obtain rfl : i = nd := by omega
      refine g_ild3 dX7_driveToRead_7 ?_
      refine g_ald0 dX7_driveToRead_8 ?_
      refine g_getI_a fb_7_3 mw_1_116 (by first | rfl | assumption | (exact lay_item (by omega)) | (exact lay_drive (by omega)) | (exact lay_job (by omega))) (by omega) dX7_driveToRead_9 (fun xx9 ee9 => ?_)
      obtain rfl : xx9 = (nI i) := ee9.symm.trans hn
      refine g_icmp_ge_t (tgt := 61) dX7_driveToRead_12 (by decide) (nI_le (by omega) (by omega)) ?_
      refine g_ild1 dX7_driveToRead_61 ?_
      show Go _ _ _ _ _ _ 62 _ _
      exact g_iret rfl dX7_driveToRead_62 ⟨bst, rfl, rfl, hI⟩
    | succ m ih =>
      intro i bst lst x4 hi hI hb
      obtain ⟨e0, e1, e2, -⟩ := hD i (by omega)
      obtain ⟨f1, f2⟩ := hf.1 i (by omega)
      have hdu : (h.2.1 (23 + i) 2).toNat < (h.2.1 (23 + i) 1).toNat ↔ dst M i := by rw [e1, e2]; exact Iff.rfl
      refine g_ild3 dX7_driveToRead_7 ?_
      refine g_ald0 dX7_driveToRead_8 ?_
      refine g_getI_a fb_7_3 mw_1_116 (by first | rfl | assumption | (exact lay_item (by omega)) | (exact lay_drive (by omega)) | (exact lay_job (by omega))) (by omega) dX7_driveToRead_9 (fun xx9 ee9 => ?_)
      obtain rfl : xx9 = (nI nd) := ee9.symm.trans hn
      refine g_icmp_ge_f (tgt := 61) dX7_driveToRead_12 (by decide) (nI_ge (by omega) (by omega)) ?_
      refine g_ald0 dX7_driveToRead_15 ?_
      show Go _ _ _ _ _ _ 16 _ _
      refine g_getQ fb_7_2 mw_1_115 (by first | rfl | assumption | (exact lay_item (by omega)) | (exact lay_drive (by omega)) | (exact lay_job (by omega))) (by omega) (s1_drives hS) dX7_driveToRead_16 ?_
      refine g_ild3 dX7_driveToRead_19 ?_
      refine g_qald4 (by first | rfl | assumption | (exact lay_item (by omega)) | (exact lay_drive (by omega)) | (exact lay_job (by omega))) (by omega) rfl (by omega) (s1_drive hS (i := i) (by omega)) dX7_driveToRead_20 ?_
      refine g_ast4 (by decide) dX7_driveToRead_21 ?_
      refine g_ald4 dX7_driveToRead_23 ?_
      refine g_callV0 (c_isTooDusty (h := h) (23 + i) (lay_drive (by omega)) (by omega) (by rw [e1]; exact f1) (by rw [e2]; exact f2)) mw_3_29 ok_X0_isTooDusty ⟨by decide, by decide⟩ (by first | rfl | assumption | (exact lay_item (by omega)) | (exact lay_drive (by omega)) | (exact lay_job (by omega))) (by omega) rfl (by omega) (by omega) (Nat.le_of_ble_eq_true rfl) dX7_driveToRead_25 (dI_K ?_)
      show Go _ _ _ _ _ _ 28 _ _
      refine g_if_ne (tgt := 55) dX7_driveToRead_28 (by decide) (fun c_28 => ?_) (fun c_28 => ?_)
      · skip
        have hs : ¬ ¬ dst M i := fun z => c_28 (if_neg (fun q => z (hdu.mp q)))
        refine g_iinc3 (by decide) dX7_driveToRead_55 (nI_1 i) ?_
        refine g_goto (tgt := 7) dX7_driveToRead_58 (by decide) ?_
        first | exact ih (i + 1) _ _ _ (by omega) (hI.skip hs) (hb.imp id (fun ⟨b, q1, q2, q3⟩ => ⟨b, q1, by omega, q3⟩)) | exact ih (i + 1) _ _ _ (by omega) (hI.take hs (Or.inl c_34) (by omega)) (Or.inr ⟨i, rfl, by omega, rfl⟩) | exact ih (i + 1) _ _ _ (by omega) (hI.stay ⟨b, hb1, hb2, cmpv_ge.mp c_44⟩ (by omega)) (Or.inr ⟨b, hb1, by omega, rfl⟩) | exact ih (i + 1) _ _ _ (by omega) (hI.take hs (Or.inr ⟨b, hb1, hb2, Nat.lt_of_not_le (fun q => c_44 (cmpv_ge.mpr q))⟩) (by omega)) (Or.inr ⟨i, rfl, by omega, rfl⟩)
      · skip
        have hs : ¬ dst M i := fun z => absurd (c_28.symm.trans (if_pos (hdu.mpr z))) (by decide)
        refine g_ild1 dX7_driveToRead_31 ?_
        refine g_bipush (v := -5) dX7_driveToRead_32 (by decide +kernel) ?_
        refine g_icmp_eq (tgt := 47) dX7_driveToRead_34 (by decide) (fun c_34 => ?_) (fun c_34 => ?_)
        · skip
          show Go _ _ _ _ _ _ 47 _ _
          refine g_ild3 dX7_driveToRead_47 ?_
          refine g_ist1 (by decide) dX7_driveToRead_48 ?_
          refine g_ald4 dX7_driveToRead_49 ?_
          refine g_getF_a fb_0_1 mw_1_88 (by first | rfl | assumption | (exact lay_item (by omega)) | (exact lay_drive (by omega)) | (exact lay_job (by omega))) (by omega) dX7_driveToRead_51 (fun xx51 ee51 => ?_)
          obtain rfl : xx51 = (M.2 (2 * i)) := ee51.symm.trans e1
          refine g_fst2 (by decide) dX7_driveToRead_54 ?_
          refine g_iinc3 (by decide) dX7_driveToRead_55 (nI_1 i) ?_
          show Go _ _ _ _ _ _ 58 _ _
          refine g_goto (tgt := 7) dX7_driveToRead_58 (by decide) ?_
          first | exact ih (i + 1) _ _ _ (by omega) (hI.skip hs) (hb.imp id (fun ⟨b, q1, q2, q3⟩ => ⟨b, q1, by omega, q3⟩)) | exact ih (i + 1) _ _ _ (by omega) (hI.take hs (Or.inl c_34) (by omega)) (Or.inr ⟨i, rfl, by omega, rfl⟩) | exact ih (i + 1) _ _ _ (by omega) (hI.stay ⟨b, hb1, hb2, cmpv_ge.mp c_44⟩ (by omega)) (Or.inr ⟨b, hb1, by omega, rfl⟩) | exact ih (i + 1) _ _ _ (by omega) (hI.take hs (Or.inr ⟨b, hb1, hb2, Nat.lt_of_not_le (fun q => c_44 (cmpv_ge.mpr q))⟩) (by omega)) (Or.inr ⟨i, rfl, by omega, rfl⟩)
        · skip
          refine g_ald4 dX7_driveToRead_37 ?_
          refine g_getF_a fb_0_1 mw_1_88 (by first | rfl | assumption | (exact lay_item (by omega)) | (exact lay_drive (by omega)) | (exact lay_job (by omega))) (by omega) dX7_driveToRead_39 (fun xx39 ee39 => ?_)
          obtain rfl : xx39 = (M.2 (2 * i)) := ee39.symm.trans e1
          refine g_fld2 dX7_driveToRead_42 ?_
          refine g_fcmp dX7_driveToRead_43 ?_
          obtain ⟨b, hb1, hb2, rfl⟩ := hb.resolve_left c_34
          rw [fl_cmp f1 (hf.1 b (by omega)).1]
          refine g_if_ge (tgt := 55) dX7_driveToRead_44 (by decide) (fun c_44 => ?_) (fun c_44 => ?_)
          · skip
            show Go _ _ _ _ _ _ 55 _ _
            refine g_iinc3 (by decide) dX7_driveToRead_55 (nI_1 i) ?_
            refine g_goto (tgt := 7) dX7_driveToRead_58 (by decide) ?_
            first | exact ih (i + 1) _ _ _ (by omega) (hI.skip hs) (hb.imp id (fun ⟨b, q1, q2, q3⟩ => ⟨b, q1, by omega, q3⟩)) | exact ih (i + 1) _ _ _ (by omega) (hI.take hs (Or.inl c_34) (by omega)) (Or.inr ⟨i, rfl, by omega, rfl⟩) | exact ih (i + 1) _ _ _ (by omega) (hI.stay ⟨b, hb1, hb2, cmpv_ge.mp c_44⟩ (by omega)) (Or.inr ⟨b, hb1, by omega, rfl⟩) | exact ih (i + 1) _ _ _ (by omega) (hI.take hs (Or.inr ⟨b, hb1, hb2, Nat.lt_of_not_le (fun q => c_44 (cmpv_ge.mpr q))⟩) (by omega)) (Or.inr ⟨i, rfl, by omega, rfl⟩)
          · skip
            refine g_ild3 dX7_driveToRead_47 ?_
            refine g_ist1 (by decide) dX7_driveToRead_48 ?_
            refine g_ald4 dX7_driveToRead_49 ?_
            refine g_getF_a fb_0_1 mw_1_88 (by first | rfl | assumption | (exact lay_item (by omega)) | (exact lay_drive (by omega)) | (exact lay_job (by omega))) (by omega) dX7_driveToRead_51 (fun xx51 ee51 => ?_)
            obtain rfl : xx51 = (M.2 (2 * i)) := ee51.symm.trans e1
            show Go _ _ _ _ _ _ 54 _ _
            refine g_fst2 (by decide) dX7_driveToRead_54 ?_
            refine g_iinc3 (by decide) dX7_driveToRead_55 (nI_1 i) ?_
            refine g_goto (tgt := 7) dX7_driveToRead_58 (by decide) ?_
            first | exact ih (i + 1) _ _ _ (by omega) (hI.skip hs) (hb.imp id (fun ⟨b, q1, q2, q3⟩ => ⟨b, q1, by omega, q3⟩)) | exact ih (i + 1) _ _ _ (by omega) (hI.take hs (Or.inl c_34) (by omega)) (Or.inr ⟨i, rfl, by omega, rfl⟩) | exact ih (i + 1) _ _ _ (by omega) (hI.stay ⟨b, hb1, hb2, cmpv_ge.mp c_44⟩ (by omega)) (Or.inr ⟨b, hb1, by omega, rfl⟩) | exact ih (i + 1) _ _ _ (by omega) (hI.take hs (Or.inr ⟨b, hb1, hb2, Nat.lt_of_not_le (fun q => c_44 (cmpv_ge.mpr q))⟩) (by omega)) (Or.inr ⟨i, rfl, by omega, rfl⟩)
  refine g_bipush (v := -5) dX7_driveToRead_0 (by decide +kernel) ?_
  refine g_ist1 (by decide) dX7_driveToRead_2 ?_
  refine g_fconst0 dX7_driveToRead_3 ?_
  refine g_fst2 (by decide) dX7_driveToRead_4 ?_
  refine g_iconst (v := nI 0) dX7_driveToRead_5 (by decide +kernel) ?_
  show Go _ _ _ _ _ _ 6 _ _
  refine g_ist3 (by decide) dX7_driveToRead_6 ?_
  exact loop nd 0 _ _ _ (by omega) (IsMin.zero _ _) (Or.inl rfl)
theorem c_cleanerNearest (M : Mo) (ni nd nj p : Nat) (hR : Rb h M ni nd nj) (hi9 : ni ≤ 18) (hH : Ihm M ni) (hp : p < 24) (hC : Icl M ni) : Ct G mX7_cleanerNearest [ga G 2, .int (nI p)] h 456 456 (rI (fun r h' => h' = h ∧ IsMin (fun i => M.1 1 (6 * i) = 1 ∧ 0 < M.1 1 (6 * i + 3)) (fun i => ad (hm M i) p) ni r)) := by
  obtain ⟨-, ⟨hn, -⟩, hI, -, -, -, -, hS⟩ := hR
  have hS := hS.1
  have adl : ∀ i, i < ni → ad (hm M i) p < 24 := fun i hi => by have := (hH i hi).1; unfold ad; split <;> omega
  refine Ct.of rfl (by simp [Value.category, ga]) (Nat.le_of_ble_eq_true rfl) (Nat.le_refl _) ?_
  show Go _ _ _ _ _ _ _ [some (ga G 2), some (.int (nI p)), none, none, none, none, none] []
  have loop : ∀ m i bst lst x5 x6, m + i = ni → IsMin (fun i => M.1 1 (6 * i) = 1 ∧ 0 < M.1 1 (6 * i + 3)) (fun i => ad (hm M i) p) i bst → ((bst = -5 ∧ lst = 24) ∨ ∃ b, bst = nI b ∧ b < i ∧ lst = ad (hm M b) p) → Go G mX7_cleanerNearest 456 (rI (fun r h' => h' = h ∧ IsMin (fun i => M.1 1 (6 * i) = 1 ∧ 0 < M.1 1 (6 * i + 3)) (fun i => ad (hm M i) p) ni r)) h 456 9 [some (ga G 2), some (.int (nI p)), some (.int bst), some (.int (nI lst)), some (.int (nI i)), x5, x6] [] := by
    intro m
    induction m with
    | zero =>
      intro i bst lst x5 x6 hi hM hb
      obtain rfl : i = ni := by omega
      refine g_ild4 dX7_cleanerNearest_9 ?_
      refine g_ald0 dX7_cleanerNearest_11 ?_
      refine g_getI_a fb_7_1 mw_1_113 (by first | rfl | assumption | (exact lay_item (by omega)) | (exact lay_drive (by omega)) | (exact lay_job (by omega))) (by omega) dX7_cleanerNearest_12 (fun xx12 ee12 => ?_)
      obtain rfl : xx12 = (nI i) := ee12.symm.trans hn
      refine g_icmp_ge_t (tgt := 73) dX7_cleanerNearest_15 (by decide) (nI_le (by omega) (by omega)) ?_
      refine g_ild2 dX7_cleanerNearest_73 ?_
      show Go _ _ _ _ _ _ 74 _ _
      exact g_iret rfl dX7_cleanerNearest_74 ⟨bst, rfl, rfl, hM⟩
    | succ m ih =>
      intro i bst lst x5 x6 hi hM hb
      obtain ⟨e0, e1, -, -, e4, -⟩ := hI i (by omega)
      obtain ⟨hm1, hm2⟩ := hH i (by omega)
      have hl24 : lst ≤ 24 := by
        rcases hb with ⟨_, q⟩ | ⟨b, _, q1, q2⟩
        · omega
        · have := adl b (by omega); omega
      have had := adl i (by omega)
      refine g_ild4 dX7_cleanerNearest_9 ?_
      refine g_ald0 dX7_cleanerNearest_11 ?_
      refine g_getI_a fb_7_1 mw_1_113 (by first | rfl | assumption | (exact lay_item (by omega)) | (exact lay_drive (by omega)) | (exact lay_job (by omega))) (by omega) dX7_cleanerNearest_12 (fun xx12 ee12 => ?_)
      obtain rfl : xx12 = (nI ni) := ee12.symm.trans hn
      refine g_icmp_ge_f (tgt := 73) dX7_cleanerNearest_15 (by decide) (nI_ge (by omega) (by omega)) ?_
      refine g_ald0 dX7_cleanerNearest_18 ?_
      show Go _ _ _ _ _ _ 19 _ _
      refine g_getQ fb_7_0 mw_1_112 (by first | rfl | assumption | (exact lay_item (by omega)) | (exact lay_drive (by omega)) | (exact lay_job (by omega))) (by omega) (s1_items hS) dX7_cleanerNearest_19 ?_
      refine g_ild4 dX7_cleanerNearest_22 ?_
      refine g_qald3 (by first | rfl | assumption | (exact lay_item (by omega)) | (exact lay_drive (by omega)) | (exact lay_job (by omega))) (by omega) rfl (by omega) (s1_item hS (i := i) (by omega)) dX7_cleanerNearest_24 ?_
      refine g_ast5 (by decide) dX7_cleanerNearest_25 ?_
      refine g_ald5 dX7_cleanerNearest_27 ?_
      refine g_getI_a fb_2_1 mw_1_45 (by first | rfl | assumption | (exact lay_item (by omega)) | (exact lay_drive (by omega)) | (exact lay_job (by omega))) (by omega) dX7_cleanerNearest_29 (fun xx29 ee29 => ?_)
      obtain rfl : xx29 = (nI (hm M i)) := ee29.symm.trans (e1.trans hm2)
      show Go _ _ _ _ _ _ 32 _ _
      refine g_ild1 dX7_cleanerNearest_32 ?_
      refine g_isub dX7_cleanerNearest_33 ?_
      refine g_abs mw_3_34 (by decide) (Nat.le_of_ble_eq_true rfl) dX7_cleanerNearest_34 ?_
      rw [abs_ni0 _ hm1 _ hp]
      refine g_ist6 (by decide) dX7_cleanerNearest_37 ?_
      refine g_ald5 dX7_cleanerNearest_39 ?_
      refine g_getI_a fb_2_0 mw_1_43 (by first | rfl | assumption | (exact lay_item (by omega)) | (exact lay_drive (by omega)) | (exact lay_job (by omega))) (by omega) dX7_cleanerNearest_41 (fun xx41 ee41 => ?_)
      obtain rfl : xx41 = (M.1 1 (6 * i)) := ee41.symm.trans e0
      show Go _ _ _ _ _ _ 44 _ _
      refine g_if_eq (tgt := 67) dX7_cleanerNearest_44 (by decide) (fun c_44 => ?_) (fun c_44 => ?_)
      · skip
        refine g_iinc4 (by decide) dX7_cleanerNearest_67 (nI_1 i) ?_
        refine g_goto (tgt := 9) dX7_cleanerNearest_70 (by decide) ?_
        first | exact ih (i + 1) _ _ _ _ (by omega) (hM.skip (fun q => absurd (q.1.symm.trans c_44) (by decide))) (hb.imp id (fun ⟨b, q1, q2, q3⟩ => ⟨b, q1, by omega, q3⟩)) | exact ih (i + 1) _ _ _ _ (by omega) (hM.skip (fun q => absurd q.2 (Int32.not_lt.mpr c_52))) (hb.imp id (fun ⟨b, q1, q2, q3⟩ => ⟨b, q1, by omega, q3⟩)) | exact ih (i + 1) _ _ _ _ (by omega) (hM.take ok (hb.imp (fun q => q.1) (fun ⟨b, q1, q2, q3⟩ => ⟨b, q1, q2, by omega⟩)) (by omega)) (Or.inr ⟨i, rfl, by omega, rfl⟩) | exact ih (i + 1) _ _ _ _ (by omega) (hb.elim (fun q => absurd c (by omega)) (fun ⟨b, q1, q2, q3⟩ => hM.stay ⟨b, q1, q2, by omega⟩ (by omega))) (hb.imp id (fun ⟨b, q1, q2, q3⟩ => ⟨b, q1, by omega, q3⟩))
      · skip
        refine g_ald5 dX7_cleanerNearest_47 ?_
        refine g_getI_a fb_2_4 mw_1_54 (by first | rfl | assumption | (exact lay_item (by omega)) | (exact lay_drive (by omega)) | (exact lay_job (by omega))) (by omega) dX7_cleanerNearest_49 (fun xx49 ee49 => ?_)
        obtain rfl : xx49 = (M.1 1 (6 * i + 3)) := ee49.symm.trans e4
        refine g_if_le (tgt := 67) dX7_cleanerNearest_52 (by decide) (fun c_52 => ?_) (fun c_52 => ?_)
        · skip
          show Go _ _ _ _ _ _ 67 _ _
          refine g_iinc4 (by decide) dX7_cleanerNearest_67 (nI_1 i) ?_
          refine g_goto (tgt := 9) dX7_cleanerNearest_70 (by decide) ?_
          first | exact ih (i + 1) _ _ _ _ (by omega) (hM.skip (fun q => absurd (q.1.symm.trans c_44) (by decide))) (hb.imp id (fun ⟨b, q1, q2, q3⟩ => ⟨b, q1, by omega, q3⟩)) | exact ih (i + 1) _ _ _ _ (by omega) (hM.skip (fun q => absurd q.2 (Int32.not_lt.mpr c_52))) (hb.imp id (fun ⟨b, q1, q2, q3⟩ => ⟨b, q1, by omega, q3⟩)) | exact ih (i + 1) _ _ _ _ (by omega) (hM.take ok (hb.imp (fun q => q.1) (fun ⟨b, q1, q2, q3⟩ => ⟨b, q1, q2, by omega⟩)) (by omega)) (Or.inr ⟨i, rfl, by omega, rfl⟩) | exact ih (i + 1) _ _ _ _ (by omega) (hb.elim (fun q => absurd c (by omega)) (fun ⟨b, q1, q2, q3⟩ => hM.stay ⟨b, q1, q2, by omega⟩ (by omega))) (hb.imp id (fun ⟨b, q1, q2, q3⟩ => ⟨b, q1, by omega, q3⟩))
        · skip
          refine g_ild6 dX7_cleanerNearest_55 ?_
          refine g_ild3 dX7_cleanerNearest_57 ?_
          refine g_icmp_ge (tgt := 67) dX7_cleanerNearest_58 (by decide) (fun c_58 => ?_) (fun c_58 => ?_)
          · skip
            have c := (nI_leI (by omega) (by omega)).mp c_58
            refine g_iinc4 (by decide) dX7_cleanerNearest_67 (nI_1 i) ?_
            show Go _ _ _ _ _ _ 70 _ _
            refine g_goto (tgt := 9) dX7_cleanerNearest_70 (by decide) ?_
            first | exact ih (i + 1) _ _ _ _ (by omega) (hM.skip (fun q => absurd (q.1.symm.trans c_44) (by decide))) (hb.imp id (fun ⟨b, q1, q2, q3⟩ => ⟨b, q1, by omega, q3⟩)) | exact ih (i + 1) _ _ _ _ (by omega) (hM.skip (fun q => absurd q.2 (Int32.not_lt.mpr c_52))) (hb.imp id (fun ⟨b, q1, q2, q3⟩ => ⟨b, q1, by omega, q3⟩)) | exact ih (i + 1) _ _ _ _ (by omega) (hM.take ok (hb.imp (fun q => q.1) (fun ⟨b, q1, q2, q3⟩ => ⟨b, q1, q2, by omega⟩)) (by omega)) (Or.inr ⟨i, rfl, by omega, rfl⟩) | exact ih (i + 1) _ _ _ _ (by omega) (hb.elim (fun q => absurd c (by omega)) (fun ⟨b, q1, q2, q3⟩ => hM.stay ⟨b, q1, q2, by omega⟩ (by omega))) (hb.imp id (fun ⟨b, q1, q2, q3⟩ => ⟨b, q1, by omega, q3⟩))
          · skip
            have c := Nat.lt_of_not_le (fun q => c_58 ((nI_leI (by omega) (by omega)).mpr q))
            have ok : M.1 1 (6 * i) = 1 ∧ 0 < M.1 1 (6 * i + 3) := ⟨(hC i (by omega)).resolve_left c_44, Int32.not_le.mp c_52⟩
            refine g_ild4 dX7_cleanerNearest_61 ?_
            refine g_ist2 (by decide) dX7_cleanerNearest_63 ?_
            refine g_ild6 dX7_cleanerNearest_64 ?_
            refine g_ist3 (by decide) dX7_cleanerNearest_66 ?_
            refine g_iinc4 (by decide) dX7_cleanerNearest_67 (nI_1 i) ?_
            show Go _ _ _ _ _ _ 70 _ _
            refine g_goto (tgt := 9) dX7_cleanerNearest_70 (by decide) ?_
            first | exact ih (i + 1) _ _ _ _ (by omega) (hM.skip (fun q => absurd (q.1.symm.trans c_44) (by decide))) (hb.imp id (fun ⟨b, q1, q2, q3⟩ => ⟨b, q1, by omega, q3⟩)) | exact ih (i + 1) _ _ _ _ (by omega) (hM.skip (fun q => absurd q.2 (Int32.not_lt.mpr c_52))) (hb.imp id (fun ⟨b, q1, q2, q3⟩ => ⟨b, q1, by omega, q3⟩)) | exact ih (i + 1) _ _ _ _ (by omega) (hM.take ok (hb.imp (fun q => q.1) (fun ⟨b, q1, q2, q3⟩ => ⟨b, q1, q2, by omega⟩)) (by omega)) (Or.inr ⟨i, rfl, by omega, rfl⟩) | exact ih (i + 1) _ _ _ _ (by omega) (hb.elim (fun q => absurd c (by omega)) (fun ⟨b, q1, q2, q3⟩ => hM.stay ⟨b, q1, q2, by omega⟩ (by omega))) (hb.imp id (fun ⟨b, q1, q2, q3⟩ => ⟨b, q1, by omega, q3⟩))
  refine g_bipush (v := -5) dX7_cleanerNearest_0 (by decide +kernel) ?_
  refine g_ist2 (by decide) dX7_cleanerNearest_2 ?_
  refine g_bipush (v := nI 24) dX7_cleanerNearest_3 (by decide +kernel) ?_
  refine g_ist3 (by decide) dX7_cleanerNearest_5 ?_
  refine g_iconst (v := nI 0) dX7_cleanerNearest_6 (by decide +kernel) ?_
  show Go _ _ _ _ _ _ 7 _ _
  refine g_ist4 (by decide) dX7_cleanerNearest_7 ?_
  exact loop ni 0 _ 24 _ _ (by omega) (IsMin.zero _ _) (Or.inl ⟨rfl, rfl⟩)
end P18
