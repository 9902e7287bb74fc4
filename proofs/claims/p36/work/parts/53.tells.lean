/-! ===== what is told: items, drives, jobs ===== -/
section P53
variable {G : Gl} {h : Hp}
theorem c_itell_0 (k : Nat) (hk : Lay k = .inl 2) (hl : k < 456) : Ct G mX2_tell [ga G k, .int (nI 0)] h 456 456 (dI (if h.1 k 0 = 0 then nI 0 else nI 1) h) := by
  refine Ct.of rfl (by simp [Value.category, ga]) (Nat.le_of_ble_eq_true rfl) (Nat.le_refl _) ?_
  show Go _ _ _ _ _ _ _ [some (ga G k), some (.int (nI 0))] []
  refine g_ild1 dX2_tell_0 ?_
  refine g_tabIn (tgt := 40) (off := 39) dX2_tell_1 (by decide +kernel) (by decide +kernel) (by decide +kernel) (by decide) ?_
  refine g_ald0 dX2_tell_40 ?_
  refine g_getI fb_2_0 mw_1_40 (by first | assumption | exact lay_item (by omega) | exact lay_drive (by omega) | exact lay_job (by omega) | rfl) (by omega) dX2_tell_41 ?_
  refine g_if_eq (tgt := 51) dX2_tell_44 (by decide) (fun c_44 => ?_) (fun c_44 => ?_)
  · skip
    show Go _ _ _ _ _ _ 51 _ _
    refine g_iconst (v := nI 0) dX2_tell_51 (by decide +kernel) ?_
    exact g_iret rfl dX2_tell_52 ⟨congrArg (fun z => some (Value.int z)) (e_if (fun q => by first | rfl | (exfalso; first | exact c_44 q | exact q c_44)) (fun q => by first | rfl | (exfalso; first | exact c_44 q | exact q c_44))), rfl⟩
  · skip
    refine g_iconst (v := nI 1) dX2_tell_47 (by decide +kernel) ?_
    refine g_goto (tgt := 52) dX2_tell_48 (by decide) ?_
    exact g_iret rfl dX2_tell_52 ⟨congrArg (fun z => some (Value.int z)) (e_if (fun q => by first | rfl | (exfalso; first | exact c_44 q | exact q c_44)) (fun q => by first | rfl | (exfalso; first | exact c_44 q | exact q c_44))), rfl⟩
theorem c_itell_1 (k : Nat) (hk : Lay k = .inl 2) (hl : k < 456) : Ct G mX2_tell [ga G k, .int (nI 1)] h 456 456 (dI (h.1 k 1) h) := by
  refine Ct.of rfl (by simp [Value.category, ga]) (Nat.le_of_ble_eq_true rfl) (Nat.le_refl _) ?_
  show Go _ _ _ _ _ _ _ [some (ga G k), some (.int (nI 1))] []
  refine g_ild1 dX2_tell_0 ?_
  refine g_tabIn (tgt := 53) (off := 52) dX2_tell_1 (by decide +kernel) (by decide +kernel) (by decide +kernel) (by decide) ?_
  refine g_ald0 dX2_tell_53 ?_
  refine g_getI fb_2_1 mw_1_44 (by first | assumption | exact lay_item (by omega) | exact lay_drive (by omega) | exact lay_job (by omega) | rfl) (by omega) dX2_tell_54 ?_
  exact g_iret rfl dX2_tell_57 ⟨rfl, rfl⟩
theorem c_itell_2 (k : Nat) (hk : Lay k = .inl 2) (hl : k < 456) : Ct G mX2_tell [ga G k, .int (nI 2)] h 456 456 (dI (h.1 k 2) h) := by
  refine Ct.of rfl (by simp [Value.category, ga]) (Nat.le_of_ble_eq_true rfl) (Nat.le_refl _) ?_
  show Go _ _ _ _ _ _ _ [some (ga G k), some (.int (nI 2))] []
  refine g_ild1 dX2_tell_0 ?_
  refine g_tabIn (tgt := 58) (off := 57) dX2_tell_1 (by decide +kernel) (by decide +kernel) (by decide +kernel) (by decide) ?_
  refine g_ald0 dX2_tell_58 ?_
  refine g_getI fb_2_2 mw_1_47 (by first | assumption | exact lay_item (by omega) | exact lay_drive (by omega) | exact lay_job (by omega) | rfl) (by omega) dX2_tell_59 ?_
  exact g_iret rfl dX2_tell_62 ⟨rfl, rfl⟩
theorem c_itell_3 (k : Nat) (hk : Lay k = .inl 2) (hl : k < 456) : Ct G mX2_tell [ga G k, .int (nI 3)] h 456 456 (dI (h.1 k 3) h) := by
  refine Ct.of rfl (by simp [Value.category, ga]) (Nat.le_of_ble_eq_true rfl) (Nat.le_refl _) ?_
  show Go _ _ _ _ _ _ _ [some (ga G k), some (.int (nI 3))] []
  refine g_ild1 dX2_tell_0 ?_
  refine g_tabIn (tgt := 63) (off := 62) dX2_tell_1 (by decide +kernel) (by decide +kernel) (by decide +kernel) (by decide) ?_
  refine g_ald0 dX2_tell_63 ?_
  refine g_getI fb_2_3 mw_1_49 (by first | assumption | exact lay_item (by omega) | exact lay_drive (by omega) | exact lay_job (by omega) | rfl) (by omega) dX2_tell_64 ?_
  exact g_iret rfl dX2_tell_67 ⟨rfl, rfl⟩
theorem c_itell_4 (k : Nat) (hk : Lay k = .inl 2) (hl : k < 456) : Ct G mX2_tell [ga G k, .int (nI 4)] h 456 456 (dI (h.1 k 4) h) := by
  refine Ct.of rfl (by simp [Value.category, ga]) (Nat.le_of_ble_eq_true rfl) (Nat.le_refl _) ?_
  show Go _ _ _ _ _ _ _ [some (ga G k), some (.int (nI 4))] []
  refine g_ild1 dX2_tell_0 ?_
  refine g_tabIn (tgt := 68) (off := 67) dX2_tell_1 (by decide +kernel) (by decide +kernel) (by decide +kernel) (by decide) ?_
  refine g_ald0 dX2_tell_68 ?_
  refine g_getI fb_2_4 mw_1_51 (by first | assumption | exact lay_item (by omega) | exact lay_drive (by omega) | exact lay_job (by omega) | rfl) (by omega) dX2_tell_69 ?_
  exact g_iret rfl dX2_tell_72 ⟨rfl, rfl⟩
theorem c_itell_5 (k : Nat) (hk : Lay k = .inl 2) (hl : k < 456) : Ct G mX2_tell [ga G k, .int (nI 5)] h 456 456 (dI (h.1 k 5) h) := by
  refine Ct.of rfl (by simp [Value.category, ga]) (Nat.le_of_ble_eq_true rfl) (Nat.le_refl _) ?_
  show Go _ _ _ _ _ _ _ [some (ga G k), some (.int (nI 5))] []
  refine g_ild1 dX2_tell_0 ?_
  refine g_tabIn (tgt := 73) (off := 72) dX2_tell_1 (by decide +kernel) (by decide +kernel) (by decide +kernel) (by decide) ?_
  refine g_ald0 dX2_tell_73 ?_
  refine g_getI fb_2_5 mw_1_55 (by first | assumption | exact lay_item (by omega) | exact lay_drive (by omega) | exact lay_job (by omega) | rfl) (by omega) dX2_tell_74 ?_
  exact g_iret rfl dX2_tell_77 ⟨rfl, rfl⟩
theorem c_itell_6 (k : Nat) (hk : Lay k = .inl 2) (hl : k < 456) : Ct G mX2_tell [ga G k, .int (nI 6)] h 456 456 (dI (h.1 k 7) h) := by
  refine Ct.of rfl (by simp [Value.category, ga]) (Nat.le_of_ble_eq_true rfl) (Nat.le_refl _) ?_
  show Go _ _ _ _ _ _ _ [some (ga G k), some (.int (nI 6))] []
  refine g_ild1 dX2_tell_0 ?_
  refine g_tabOut (tgt := 78) dX2_tell_1 (by decide +kernel) (by decide) ?_
  refine g_ald0 dX2_tell_78 ?_
  refine g_getI fb_2_7 mw_1_58 (by first | assumption | exact lay_item (by omega) | exact lay_drive (by omega) | exact lay_job (by omega) | rfl) (by omega) dX2_tell_79 ?_
  exact g_iret rfl dX2_tell_82 ⟨rfl, rfl⟩
theorem c_dtell_0 (k : Nat) (hk : Lay k = .inl 0) (hl : k < 456) : Ct G mX0_tell [ga G k, .int (nI 0)] h 456 456 (dI (h.1 k 0) h) := by
  refine Ct.of rfl (by simp [Value.category, ga]) (Nat.le_of_ble_eq_true rfl) (Nat.le_refl _) ?_
  show Go _ _ _ _ _ _ _ [some (ga G k), some (.int (nI 0))] []
  refine g_ild1 dX0_tell_0 ?_
  refine g_tabIn (tgt := 36) (off := 35) dX0_tell_1 (by decide +kernel) (by decide +kernel) (by decide +kernel) (by decide) ?_
  refine g_ald0 dX0_tell_36 ?_
  refine g_getI fb_0_0 mw_1_84 (by first | assumption | exact lay_item (by omega) | exact lay_drive (by omega) | exact lay_job (by omega) | rfl) (by omega) dX0_tell_37 ?_
  exact g_iret rfl dX0_tell_40 ⟨rfl, rfl⟩
theorem c_dtell_1 (k : Nat) (hk : Lay k = .inl 0) (hl : k < 456) : Ct G mX0_tell [ga G k, .int (nI 1)] h 456 456 (dI (h.1 k 3) h) := by
  refine Ct.of rfl (by simp [Value.category, ga]) (Nat.le_of_ble_eq_true rfl) (Nat.le_refl _) ?_
  show Go _ _ _ _ _ _ _ [some (ga G k), some (.int (nI 1))] []
  refine g_ild1 dX0_tell_0 ?_
  refine g_tabIn (tgt := 41) (off := 40) dX0_tell_1 (by decide +kernel) (by decide +kernel) (by decide +kernel) (by decide) ?_
  refine g_ald0 dX0_tell_41 ?_
  refine g_getI fb_0_3 mw_1_92 (by first | assumption | exact lay_item (by omega) | exact lay_drive (by omega) | exact lay_job (by omega) | rfl) (by omega) dX0_tell_42 ?_
  exact g_iret rfl dX0_tell_45 ⟨rfl, rfl⟩
theorem c_dtell_2 (k : Nat) (hk : Lay k = .inl 0) (hl : k < 456) : Ct G mX0_tell [ga G k, .int (nI 2)] h 456 456 (dI (h.1 k 4) h) := by
  refine Ct.of rfl (by simp [Value.category, ga]) (Nat.le_of_ble_eq_true rfl) (Nat.le_refl _) ?_
  show Go _ _ _ _ _ _ _ [some (ga G k), some (.int (nI 2))] []
  refine g_ild1 dX0_tell_0 ?_
  refine g_tabIn (tgt := 46) (off := 45) dX0_tell_1 (by decide +kernel) (by decide +kernel) (by decide +kernel) (by decide) ?_
  refine g_ald0 dX0_tell_46 ?_
  refine g_getI fb_0_4 mw_1_93 (by first | assumption | exact lay_item (by omega) | exact lay_drive (by omega) | exact lay_job (by omega) | rfl) (by omega) dX0_tell_47 ?_
  exact g_iret rfl dX0_tell_50 ⟨rfl, rfl⟩
theorem c_dtell_3 (k : Nat) (hk : Lay k = .inl 0) (hl : k < 456) : Ct G mX0_tell [ga G k, .int (nI 3)] h 456 456 (dI (h.1 k 5) h) := by
  refine Ct.of rfl (by simp [Value.category, ga]) (Nat.le_of_ble_eq_true rfl) (Nat.le_refl _) ?_
  show Go _ _ _ _ _ _ _ [some (ga G k), some (.int (nI 3))] []
  refine g_ild1 dX0_tell_0 ?_
  refine g_tabIn (tgt := 51) (off := 50) dX0_tell_1 (by decide +kernel) (by decide +kernel) (by decide +kernel) (by decide) ?_
  refine g_ald0 dX0_tell_51 ?_
  refine g_getI fb_0_5 mw_1_94 (by first | assumption | exact lay_item (by omega) | exact lay_drive (by omega) | exact lay_job (by omega) | rfl) (by omega) dX0_tell_52 ?_
  exact g_iret rfl dX0_tell_55 ⟨rfl, rfl⟩
theorem c_dtell_4 (k : Nat) (hk : Lay k = .inl 0) (hl : k < 456) : Ct G mX0_tell [ga G k, .int (nI 4)] h 456 456 (dI (h.1 k 6) h) := by
  refine Ct.of rfl (by simp [Value.category, ga]) (Nat.le_of_ble_eq_true rfl) (Nat.le_refl _) ?_
  show Go _ _ _ _ _ _ _ [some (ga G k), some (.int (nI 4))] []
  refine g_ild1 dX0_tell_0 ?_
  refine g_tabIn (tgt := 56) (off := 55) dX0_tell_1 (by decide +kernel) (by decide +kernel) (by decide +kernel) (by decide) ?_
  refine g_ald0 dX0_tell_56 ?_
  refine g_getI fb_0_6 mw_1_95 (by first | assumption | exact lay_item (by omega) | exact lay_drive (by omega) | exact lay_job (by omega) | rfl) (by omega) dX0_tell_57 ?_
  exact g_iret rfl dX0_tell_60 ⟨rfl, rfl⟩
theorem c_dtell_5 (k : Nat) (hk : Lay k = .inl 0) (hl : k < 456) (g1 : Gd (h.2.1 k 1)) (g2 : Gd (h.2.1 k 2)) : Ct G mX0_tell [ga G k, .int (nI 5)] h 456 456 (dI (if (h.2.1 k 2).toNat < (h.2.1 k 1).toNat then nI 1 else nI 0) h) := by
  refine Ct.of rfl (by simp [Value.category, ga]) (Nat.le_of_ble_eq_true rfl) (Nat.le_refl _) ?_
  show Go _ _ _ _ _ _ _ [some (ga G k), some (.int (nI 5))] []
  by_cases c : (h.2.1 k 2).toNat < (h.2.1 k 1).toNat
  · rw [if_pos c]
    refine g_ild1 dX0_tell_0 ?_
    refine g_tabOut (tgt := 61) dX0_tell_1 (by decide +kernel) (by decide) ?_
    refine g_ald0 dX0_tell_61 ?_
    refine g_callV0 (c_isTooDusty (h := h) k hk hl g1 g2) mw_2_181 ok_X0_isTooDusty ⟨by decide, by decide⟩ (by first | assumption | exact lay_item (by omega) | exact lay_drive (by omega) | exact lay_job (by omega) | rfl) (by omega) rfl (by omega) (by omega) (Nat.le_of_ble_eq_true rfl) dX0_tell_62 (dI_K ?_)
    rw [if_pos c]
    refine g_if_eq_f (tgt := 72) dX0_tell_65 (by decide) (by decide) ?_
    show Go _ _ _ _ _ _ 68 _ _
    refine g_iconst (v := nI 1) dX0_tell_68 (by decide +kernel) ?_
    refine g_goto (tgt := 73) dX0_tell_69 (by decide) ?_
    exact g_iret rfl dX0_tell_73 ⟨rfl, rfl⟩
  · rw [if_neg c]
    refine g_ild1 dX0_tell_0 ?_
    refine g_tabOut (tgt := 61) dX0_tell_1 (by decide +kernel) (by decide) ?_
    refine g_ald0 dX0_tell_61 ?_
    refine g_callV0 (c_isTooDusty (h := h) k hk hl g1 g2) mw_2_181 ok_X0_isTooDusty ⟨by decide, by decide⟩ (by first | assumption | exact lay_item (by omega) | exact lay_drive (by omega) | exact lay_job (by omega) | rfl) (by omega) rfl (by omega) (by omega) (Nat.le_of_ble_eq_true rfl) dX0_tell_62 (dI_K ?_)
    rw [if_neg c]
    refine g_if_eq_t (tgt := 72) dX0_tell_65 (by decide) rfl ?_
    show Go _ _ _ _ _ _ 72 _ _
    refine g_iconst (v := nI 0) dX0_tell_72 (by decide +kernel) ?_
    exact g_iret rfl dX0_tell_73 ⟨rfl, rfl⟩
theorem c_jtell_0 (k : Nat) (hk : Lay k = .inl 3) (hl : k < 456) : Ct G mX3_tell [ga G k, .int (nI 0)] h 456 456 (dI (h.1 k 0) h) := by
  refine Ct.of rfl (by simp [Value.category, ga]) (Nat.le_of_ble_eq_true rfl) (Nat.le_refl _) ?_
  show Go _ _ _ _ _ _ _ [some (ga G k), some (.int (nI 0))] []
  refine g_ild1 dX3_tell_0 ?_
  refine g_tabIn (tgt := 60) (off := 59) dX3_tell_1 (by decide +kernel) (by decide +kernel) (by decide +kernel) (by decide) ?_
  refine g_ald0 dX3_tell_60 ?_
  refine g_getI fb_3_0 mw_1_140 (by first | assumption | exact lay_item (by omega) | exact lay_drive (by omega) | exact lay_job (by omega) | rfl) (by omega) dX3_tell_61 ?_
  exact g_iret rfl dX3_tell_64 ⟨rfl, rfl⟩
theorem c_jtell_1 (k : Nat) (hk : Lay k = .inl 3) (hl : k < 456) : Ct G mX3_tell [ga G k, .int (nI 1)] h 456 456 (dI (h.1 k 1) h) := by
  refine Ct.of rfl (by simp [Value.category, ga]) (Nat.le_of_ble_eq_true rfl) (Nat.le_refl _) ?_
  show Go _ _ _ _ _ _ _ [some (ga G k), some (.int (nI 1))] []
  refine g_ild1 dX3_tell_0 ?_
  refine g_tabIn (tgt := 65) (off := 64) dX3_tell_1 (by decide +kernel) (by decide +kernel) (by decide +kernel) (by decide) ?_
  refine g_ald0 dX3_tell_65 ?_
  refine g_getI fb_3_1 mw_1_142 (by first | assumption | exact lay_item (by omega) | exact lay_drive (by omega) | exact lay_job (by omega) | rfl) (by omega) dX3_tell_66 ?_
  exact g_iret rfl dX3_tell_69 ⟨rfl, rfl⟩
theorem c_jtell_2 (k : Nat) (hk : Lay k = .inl 3) (hl : k < 456) : Ct G mX3_tell [ga G k, .int (nI 2)] h 456 456 (dI (h.1 k 2) h) := by
  refine Ct.of rfl (by simp [Value.category, ga]) (Nat.le_of_ble_eq_true rfl) (Nat.le_refl _) ?_
  show Go _ _ _ _ _ _ _ [some (ga G k), some (.int (nI 2))] []
  refine g_ild1 dX3_tell_0 ?_
  refine g_tabIn (tgt := 70) (off := 69) dX3_tell_1 (by decide +kernel) (by decide +kernel) (by decide +kernel) (by decide) ?_
  refine g_ald0 dX3_tell_70 ?_
  refine g_getI fb_3_2 mw_1_144 (by first | assumption | exact lay_item (by omega) | exact lay_drive (by omega) | exact lay_job (by omega) | rfl) (by omega) dX3_tell_71 ?_
  exact g_iret rfl dX3_tell_74 ⟨rfl, rfl⟩
theorem c_jtell_3 (k : Nat) (hk : Lay k = .inl 3) (hl : k < 456) : Ct G mX3_tell [ga G k, .int (nI 3)] h 456 456 (dI (h.1 k 3) h) := by
  refine Ct.of rfl (by simp [Value.category, ga]) (Nat.le_of_ble_eq_true rfl) (Nat.le_refl _) ?_
  show Go _ _ _ _ _ _ _ [some (ga G k), some (.int (nI 3))] []
  refine g_ild1 dX3_tell_0 ?_
  refine g_tabIn (tgt := 75) (off := 74) dX3_tell_1 (by decide +kernel) (by decide +kernel) (by decide +kernel) (by decide) ?_
  refine g_ald0 dX3_tell_75 ?_
  refine g_getI fb_3_3 mw_1_146 (by first | assumption | exact lay_item (by omega) | exact lay_drive (by omega) | exact lay_job (by omega) | rfl) (by omega) dX3_tell_76 ?_
  exact g_iret rfl dX3_tell_79 ⟨rfl, rfl⟩
theorem c_jtell_4 (k : Nat) (hk : Lay k = .inl 3) (hl : k < 456) : Ct G mX3_tell [ga G k, .int (nI 4)] h 456 456 (dI (h.1 k 4) h) := by
  refine Ct.of rfl (by simp [Value.category, ga]) (Nat.le_of_ble_eq_true rfl) (Nat.le_refl _) ?_
  show Go _ _ _ _ _ _ _ [some (ga G k), some (.int (nI 4))] []
  refine g_ild1 dX3_tell_0 ?_
  refine g_tabIn (tgt := 80) (off := 79) dX3_tell_1 (by decide +kernel) (by decide +kernel) (by decide +kernel) (by decide) ?_
  refine g_ald0 dX3_tell_80 ?_
  refine g_getI fb_3_4 mw_1_150 (by first | assumption | exact lay_item (by omega) | exact lay_drive (by omega) | exact lay_job (by omega) | rfl) (by omega) dX3_tell_81 ?_
  exact g_iret rfl dX3_tell_84 ⟨rfl, rfl⟩
theorem c_jtell_5 (k : Nat) (hk : Lay k = .inl 3) (hl : k < 456) : Ct G mX3_tell [ga G k, .int (nI 5)] h 456 456 (dI (h.1 k 5) h) := by
  refine Ct.of rfl (by simp [Value.category, ga]) (Nat.le_of_ble_eq_true rfl) (Nat.le_refl _) ?_
  show Go _ _ _ _ _ _ _ [some (ga G k), some (.int (nI 5))] []
  refine g_ild1 dX3_tell_0 ?_
  refine g_tabIn (tgt := 85) (off := 84) dX3_tell_1 (by decide +kernel) (by decide +kernel) (by decide +kernel) (by decide) ?_
  refine g_ald0 dX3_tell_85 ?_
  refine g_getI fb_3_5 mw_1_152 (by first | assumption | exact lay_item (by omega) | exact lay_drive (by omega) | exact lay_job (by omega) | rfl) (by omega) dX3_tell_86 ?_
  exact g_iret rfl dX3_tell_89 ⟨rfl, rfl⟩
theorem c_jtell_7 (k : Nat) (hk : Lay k = .inl 3) (hl : k < 456) : Ct G mX3_tell [ga G k, .int (nI 7)] h 456 456 (dI (h.1 k 7) h) := by
  refine Ct.of rfl (by simp [Value.category, ga]) (Nat.le_of_ble_eq_true rfl) (Nat.le_refl _) ?_
  show Go _ _ _ _ _ _ _ [some (ga G k), some (.int (nI 7))] []
  refine g_ild1 dX3_tell_0 ?_
  refine g_tabIn (tgt := 108) (off := 107) dX3_tell_1 (by decide +kernel) (by decide +kernel) (by decide +kernel) (by decide) ?_
  refine g_ald0 dX3_tell_108 ?_
  refine g_getI fb_3_7 mw_1_157 (by first | assumption | exact lay_item (by omega) | exact lay_drive (by omega) | exact lay_job (by omega) | rfl) (by omega) dX3_tell_109 ?_
  exact g_iret rfl dX3_tell_112 ⟨rfl, rfl⟩
theorem c_jtell_8 (k : Nat) (hk : Lay k = .inl 3) (hl : k < 456) : Ct G mX3_tell [ga G k, .int (nI 8)] h 456 456 (dI (h.1 k 8) h) := by
  refine Ct.of rfl (by simp [Value.category, ga]) (Nat.le_of_ble_eq_true rfl) (Nat.le_refl _) ?_
  show Go _ _ _ _ _ _ _ [some (ga G k), some (.int (nI 8))] []
  refine g_ild1 dX3_tell_0 ?_
  refine g_tabIn (tgt := 113) (off := 112) dX3_tell_1 (by decide +kernel) (by decide +kernel) (by decide +kernel) (by decide) ?_
  refine g_ald0 dX3_tell_113 ?_
  refine g_getI fb_3_8 mw_1_159 (by first | assumption | exact lay_item (by omega) | exact lay_drive (by omega) | exact lay_job (by omega) | rfl) (by omega) dX3_tell_114 ?_
  exact g_iret rfl dX3_tell_117 ⟨rfl, rfl⟩
theorem c_jtell_9 (k : Nat) (hk : Lay k = .inl 3) (hl : k < 456) : Ct G mX3_tell [ga G k, .int (nI 9)] h 456 456 (dI (h.1 k 9) h) := by
  refine Ct.of rfl (by simp [Value.category, ga]) (Nat.le_of_ble_eq_true rfl) (Nat.le_refl _) ?_
  show Go _ _ _ _ _ _ _ [some (ga G k), some (.int (nI 9))] []
  refine g_ild1 dX3_tell_0 ?_
  refine g_tabIn (tgt := 118) (off := 117) dX3_tell_1 (by decide +kernel) (by decide +kernel) (by decide +kernel) (by decide) ?_
  refine g_ald0 dX3_tell_118 ?_
  refine g_getI fb_3_9 mw_1_161 (by first | assumption | exact lay_item (by omega) | exact lay_drive (by omega) | exact lay_job (by omega) | rfl) (by omega) dX3_tell_119 ?_
  exact g_iret rfl dX3_tell_122 ⟨rfl, rfl⟩
theorem c_jtell_10 (k : Nat) (hk : Lay k = .inl 3) (hl : k < 456) : Ct G mX3_tell [ga G k, .int (nI 10)] h 456 456 (dI (h.1 k 10) h) := by
  refine Ct.of rfl (by simp [Value.category, ga]) (Nat.le_of_ble_eq_true rfl) (Nat.le_refl _) ?_
  show Go _ _ _ _ _ _ _ [some (ga G k), some (.int (nI 10))] []
  refine g_ild1 dX3_tell_0 ?_
  refine g_tabIn (tgt := 123) (off := 122) dX3_tell_1 (by decide +kernel) (by decide +kernel) (by decide +kernel) (by decide) ?_
  refine g_ald0 dX3_tell_123 ?_
  refine g_getI fb_3_10 mw_1_163 (by first | assumption | exact lay_item (by omega) | exact lay_drive (by omega) | exact lay_job (by omega) | rfl) (by omega) dX3_tell_124 ?_
  exact g_iret rfl dX3_tell_127 ⟨rfl, rfl⟩
theorem c_jtell_11 (k : Nat) (hk : Lay k = .inl 3) (hl : k < 456) : Ct G mX3_tell [ga G k, .int (nI 11)] h 456 456 (dI (h.1 k 11) h) := by
  refine Ct.of rfl (by simp [Value.category, ga]) (Nat.le_of_ble_eq_true rfl) (Nat.le_refl _) ?_
  show Go _ _ _ _ _ _ _ [some (ga G k), some (.int (nI 11))] []
  refine g_ild1 dX3_tell_0 ?_
  refine g_tabOut (tgt := 128) dX3_tell_1 (by decide +kernel) (by decide) ?_
  refine g_ald0 dX3_tell_128 ?_
  refine g_getI fb_3_11 mw_1_165 (by first | assumption | exact lay_item (by omega) | exact lay_drive (by omega) | exact lay_job (by omega) | rfl) (by omega) dX3_tell_129 ?_
  exact g_iret rfl dX3_tell_132 ⟨rfl, rfl⟩
theorem c_jtell_6 (k : Nat) (hk : Lay k = .inl 3) (hl : k < 456) : Ct G mX3_tell [ga G k, .int (nI 6)] h 456 456 (dI (if h.1 k 3 = 1 then h.1 k 6 else -5) h) := by
  refine Ct.of rfl (by simp [Value.category, ga]) (Nat.le_of_ble_eq_true rfl) (Nat.le_refl _) ?_
  show Go _ _ _ _ _ _ _ [some (ga G k), some (.int (nI 6))] []
  refine g_ild1 dX3_tell_0 ?_
  refine g_tabIn (tgt := 90) (off := 89) dX3_tell_1 (by decide +kernel) (by decide +kernel) (by decide +kernel) (by decide) ?_
  refine g_ald0 dX3_tell_90 ?_
  refine g_getI fb_3_3 mw_1_146 (by first | assumption | exact lay_item (by omega) | exact lay_drive (by omega) | exact lay_job (by omega) | rfl) (by omega) dX3_tell_91 ?_
  refine g_iconst (v := nI 1) dX3_tell_94 (by decide +kernel) ?_
  show Go _ _ _ _ _ _ 95 _ _
  refine g_icmp_ne (tgt := 105) dX3_tell_95 (by decide) (fun c_95 => ?_) (fun c_95 => ?_)
  · skip
    refine g_bipush (v := -5) dX3_tell_105 (by decide +kernel) ?_
    exact g_iret rfl dX3_tell_107 ⟨congrArg (fun z => some (Value.int z)) (e_if (fun q => by first | rfl | (exfalso; first | exact c_95 q | exact q c_95)) (fun q => by first | rfl | (exfalso; first | exact c_95 q | exact q c_95))), rfl⟩
  · skip
    refine g_ald0 dX3_tell_98 ?_
    refine g_getI fb_3_6 mw_1_155 (by first | assumption | exact lay_item (by omega) | exact lay_drive (by omega) | exact lay_job (by omega) | rfl) (by omega) dX3_tell_99 ?_
    refine g_goto (tgt := 107) dX3_tell_102 (by decide) ?_
    show Go _ _ _ _ _ _ 107 _ _
    exact g_iret rfl dX3_tell_107 ⟨congrArg (fun z => some (Value.int z)) (e_if (fun q => by first | rfl | (exfalso; first | exact c_95 q | exact q c_95)) (fun q => by first | rfl | (exfalso; first | exact c_95 q | exact q c_95))), rfl⟩
theorem c_item_n (x y : Int32) (n : Nat) (hS : Sh h) (hn : h.1 2 1 = nI n) (hx : x < 0 ∨ nI n ≤ x) : Ct G mX9_item [ga G 0, .int x, .int y] h 456 456 (dI (-1) h) := by
  refine Ct.of rfl (by simp [Value.category, ga]) (Nat.le_of_ble_eq_true rfl) (Nat.le_refl _) ?_
  show Go _ _ _ _ _ _ _ [some (ga G 0), some (.int x), some (.int y), none] []
  refine g_ald0 dX9_item_0 ?_
  refine g_getQ fb_9_0 mw_2_95 (by first | assumption | exact lay_item (by omega) | exact lay_drive (by omega) | exact lay_job (by omega) | rfl) (by omega) (sh_now hS) dX9_item_1 ?_
  refine g_getQ fb_6_0 mw_2_1 (by first | assumption | exact lay_item (by omega) | exact lay_drive (by omega) | exact lay_job (by omega) | rfl) (by omega) (sh_store hS) dX9_item_4 ?_
  refine g_ild1 dX9_item_7 ?_
  refine g_callV1 (c_itemAt_n (h := h) x n hn hx) mw_2_129 ok_X7_itemAt ⟨by decide, by decide⟩ (by first | assumption | exact lay_item (by omega) | exact lay_drive (by omega) | exact lay_job (by omega) | rfl) (by omega) rfl (by omega) (by omega) (Nat.le_of_ble_eq_true rfl) dX9_item_8 (dQ_Kn ?_)
  show Go _ _ _ _ _ _ 11 _ _
  refine g_zst3 (by decide) dX9_item_11 ?_
  refine g_zld3 dX9_item_12 ?_
  refine g_ifnonnullN dX9_item_13 ?_
  refine g_iconst (v := -1) dX9_item_16 (by decide +kernel) ?_
  exact g_iret rfl dX9_item_17 ⟨rfl, rfl⟩
theorem c_item_8 (i n : Nat) (hS : Sh h) (hn : h.1 2 1 = nI n) (hn9 : n ≤ 18) (hi : i < n) : Ct G mX9_item [ga G 0, .int (nI i), .int (nI 8)] h 456 456 (dI (-2) h) := by
  refine Ct.of rfl (by simp [Value.category, ga]) (Nat.le_of_ble_eq_true rfl) (Nat.le_refl _) ?_
  show Go _ _ _ _ _ _ _ [some (ga G 0), some (.int (nI i)), some (.int (nI 8)), none] []
  refine g_ald0 dX9_item_0 ?_
  refine g_getQ fb_9_0 mw_2_95 (by first | assumption | exact lay_item (by omega) | exact lay_drive (by omega) | exact lay_job (by omega) | rfl) (by omega) (sh_now hS) dX9_item_1 ?_
  refine g_getQ fb_6_0 mw_2_1 (by first | assumption | exact lay_item (by omega) | exact lay_drive (by omega) | exact lay_job (by omega) | rfl) (by omega) (sh_store hS) dX9_item_4 ?_
  refine g_ild1 dX9_item_7 ?_
  refine g_callV1 (c_itemAt (h := h) i n hS.1 hn hn9 hi) mw_2_129 ok_X7_itemAt ⟨by decide, by decide⟩ (by first | assumption | exact lay_item (by omega) | exact lay_drive (by omega) | exact lay_job (by omega) | rfl) (by omega) rfl (by omega) (by omega) (Nat.le_of_ble_eq_true rfl) dX9_item_8 (dQ_K ?_)
  show Go _ _ _ _ _ _ 11 _ _
  refine g_ast3 (by decide) dX9_item_11 ?_
  refine g_ald3 dX9_item_12 ?_
  refine g_ifnonnull (tgt := 18) dX9_item_13 (by decide) ?_
  refine g_ild2 dX9_item_18 ?_
  refine g_iconst (v := nI 0) dX9_item_19 (by decide +kernel) ?_
  refine g_bipush (v := nI 7) dX9_item_20 (by decide +kernel) ?_
  show Go _ _ _ _ _ _ 22 _ _
  refine g_callS3 (c_isFrom (h := h) (nI 8) (nI 0) (nI 7)) mw_2_133 ok_X9_isFrom ⟨by decide, by decide⟩ (by omega) (by omega) (Nat.le_of_ble_eq_true rfl) dX9_item_22 (dI_K ?_)
  rw [if_neg (by decide)]
  refine g_if_ne_f (tgt := 31) dX9_item_25 (by decide) (by decide) ?_
  refine g_bipush (v := -2) dX9_item_28 (by decide +kernel) ?_
  exact g_iret rfl dX9_item_30 ⟨rfl, rfl⟩
theorem c_item_7 (i n nj : Nat) (hS : Sh h) (hn : h.1 2 1 = nI n) (hn9 : n ≤ 18) (hi : i < n) (n3 : h.1 27 1 = nI nj) (hj : nj ≤ 30) : Ct G mX9_item [ga G 0, .int (nI i), .int (nI 7)] h 456 456 (dI (cnI (fun j => jwB h (nI i) j = true) nj) h) := by
  refine Ct.of rfl (by simp [Value.category, ga]) (Nat.le_of_ble_eq_true rfl) (Nat.le_refl _) ?_
  show Go _ _ _ _ _ _ _ [some (ga G 0), some (.int (nI i)), some (.int (nI 7)), none] []
  refine g_ald0 dX9_item_0 ?_
  refine g_getQ fb_9_0 mw_2_95 (by first | assumption | exact lay_item (by omega) | exact lay_drive (by omega) | exact lay_job (by omega) | rfl) (by omega) (sh_now hS) dX9_item_1 ?_
  refine g_getQ fb_6_0 mw_2_1 (by first | assumption | exact lay_item (by omega) | exact lay_drive (by omega) | exact lay_job (by omega) | rfl) (by omega) (sh_store hS) dX9_item_4 ?_
  refine g_ild1 dX9_item_7 ?_
  refine g_callV1 (c_itemAt (h := h) i n hS.1 hn hn9 hi) mw_2_129 ok_X7_itemAt ⟨by decide, by decide⟩ (by first | assumption | exact lay_item (by omega) | exact lay_drive (by omega) | exact lay_job (by omega) | rfl) (by omega) rfl (by omega) (by omega) (Nat.le_of_ble_eq_true rfl) dX9_item_8 (dQ_K ?_)
  show Go _ _ _ _ _ _ 11 _ _
  refine g_ast3 (by decide) dX9_item_11 ?_
  refine g_ald3 dX9_item_12 ?_
  refine g_ifnonnull (tgt := 18) dX9_item_13 (by decide) ?_
  refine g_ild2 dX9_item_18 ?_
  refine g_iconst (v := nI 0) dX9_item_19 (by decide +kernel) ?_
  refine g_bipush (v := nI 7) dX9_item_20 (by decide +kernel) ?_
  show Go _ _ _ _ _ _ 22 _ _
  refine g_callS3 (c_isFrom (h := h) (nI 7) (nI 0) (nI 7)) mw_2_133 ok_X9_isFrom ⟨by decide, by decide⟩ (by omega) (by omega) (Nat.le_of_ble_eq_true rfl) dX9_item_22 (dI_K ?_)
  rw [if_pos (show nI 0 ≤ nI 7 ∧ nI 7 ≤ nI 7 by decide)]
  refine g_if_ne_t (tgt := 31) dX9_item_25 (by decide) (by decide) ?_
  refine g_ild2 dX9_item_31 ?_
  refine g_bipush (v := nI 7) dX9_item_32 (by decide +kernel) ?_
  refine g_icmp_ne_f (tgt := 51) dX9_item_34 (by decide) rfl ?_
  refine g_ald0 dX9_item_37 ?_
  show Go _ _ _ _ _ _ 38 _ _
  refine g_getQ fb_9_0 mw_2_95 (by first | assumption | exact lay_item (by omega) | exact lay_drive (by omega) | exact lay_job (by omega) | rfl) (by omega) (sh_now hS) dX9_item_38 ?_
  refine g_getQ fb_6_1 mw_2_3 (by first | assumption | exact lay_item (by omega) | exact lay_drive (by omega) | exact lay_job (by omega) | rfl) (by omega) (sh_queue hS) dX9_item_41 ?_
  refine g_ild1 dX9_item_44 ?_
  refine g_callV1 (c_jobsWith (h := h) (nI i) nj hS.1 n3 hj) mw_2_136 ok_X5_jobsWith ⟨by decide, by decide⟩ (by first | assumption | exact lay_item (by omega) | exact lay_drive (by omega) | exact lay_job (by omega) | rfl) (by omega) rfl (by omega) (by omega) (Nat.le_of_ble_eq_true rfl) dX9_item_45 (dI_K ?_)
  refine g_goto (tgt := 56) dX9_item_48 (by decide) ?_
  exact g_iret rfl dX9_item_56 ⟨rfl, rfl⟩
theorem c_item_0 (i n : Nat) (hS : Sh h) (hn : h.1 2 1 = nI n) (hn9 : n ≤ 18) (hi : i < n) : Ct G mX9_item [ga G 0, .int (nI i), .int (nI 0)] h 456 456 (dI (if h.1 (4 + i) 0 = 0 then nI 0 else nI 1) h) := by
  refine Ct.of rfl (by simp [Value.category, ga]) (Nat.le_of_ble_eq_true rfl) (Nat.le_refl _) ?_
  show Go _ _ _ _ _ _ _ [some (ga G 0), some (.int (nI i)), some (.int (nI 0)), none] []
  refine g_ald0 dX9_item_0 ?_
  refine g_getQ fb_9_0 mw_2_95 (by first | assumption | exact lay_item (by omega) | exact lay_drive (by omega) | exact lay_job (by omega) | rfl) (by omega) (sh_now hS) dX9_item_1 ?_
  refine g_getQ fb_6_0 mw_2_1 (by first | assumption | exact lay_item (by omega) | exact lay_drive (by omega) | exact lay_job (by omega) | rfl) (by omega) (sh_store hS) dX9_item_4 ?_
  refine g_ild1 dX9_item_7 ?_
  refine g_callV1 (c_itemAt (h := h) i n hS.1 hn hn9 hi) mw_2_129 ok_X7_itemAt ⟨by decide, by decide⟩ (by first | assumption | exact lay_item (by omega) | exact lay_drive (by omega) | exact lay_job (by omega) | rfl) (by omega) rfl (by omega) (by omega) (Nat.le_of_ble_eq_true rfl) dX9_item_8 (dQ_K ?_)
  show Go _ _ _ _ _ _ 11 _ _
  refine g_ast3 (by decide) dX9_item_11 ?_
  refine g_ald3 dX9_item_12 ?_
  refine g_ifnonnull (tgt := 18) dX9_item_13 (by decide) ?_
  refine g_ild2 dX9_item_18 ?_
  refine g_iconst (v := nI 0) dX9_item_19 (by decide +kernel) ?_
  refine g_bipush (v := nI 7) dX9_item_20 (by decide +kernel) ?_
  show Go _ _ _ _ _ _ 22 _ _
  refine g_callS3 (c_isFrom (h := h) (nI 0) (nI 0) (nI 7)) mw_2_133 ok_X9_isFrom ⟨by decide, by decide⟩ (by omega) (by omega) (Nat.le_of_ble_eq_true rfl) dX9_item_22 (dI_K ?_)
  rw [if_pos (show nI 0 ≤ nI 0 ∧ nI 0 ≤ nI 7 by decide)]
  refine g_if_ne_t (tgt := 31) dX9_item_25 (by decide) (by decide) ?_
  refine g_ild2 dX9_item_31 ?_
  refine g_bipush (v := nI 7) dX9_item_32 (by decide +kernel) ?_
  refine g_icmp_ne_t (tgt := 51) dX9_item_34 (by decide) (by decide) ?_
  refine g_ald3 dX9_item_51 ?_
  show Go _ _ _ _ _ _ 52 _ _
  refine g_ild2 dX9_item_52 ?_
  refine g_callV1 (c_itell_0 (h := h) (4 + i) (lay_item (by omega)) (by omega)) mw_2_148 ok_X2_tell ⟨by decide, by decide⟩ (by first | assumption | exact lay_item (by omega) | exact lay_drive (by omega) | exact lay_job (by omega) | rfl) (by omega) rfl (by omega) (by omega) (Nat.le_of_ble_eq_true rfl) dX9_item_53 (dI_K ?_)
  exact g_iret rfl dX9_item_56 ⟨rfl, rfl⟩
theorem c_item_1 (i n : Nat) (hS : Sh h) (hn : h.1 2 1 = nI n) (hn9 : n ≤ 18) (hi : i < n) : Ct G mX9_item [ga G 0, .int (nI i), .int (nI 1)] h 456 456 (dI (h.1 (4 + i) 1) h) := by
  refine Ct.of rfl (by simp [Value.category, ga]) (Nat.le_of_ble_eq_true rfl) (Nat.le_refl _) ?_
  show Go _ _ _ _ _ _ _ [some (ga G 0), some (.int (nI i)), some (.int (nI 1)), none] []
  refine g_ald0 dX9_item_0 ?_
  refine g_getQ fb_9_0 mw_2_95 (by first | assumption | exact lay_item (by omega) | exact lay_drive (by omega) | exact lay_job (by omega) | rfl) (by omega) (sh_now hS) dX9_item_1 ?_
  refine g_getQ fb_6_0 mw_2_1 (by first | assumption | exact lay_item (by omega) | exact lay_drive (by omega) | exact lay_job (by omega) | rfl) (by omega) (sh_store hS) dX9_item_4 ?_
  refine g_ild1 dX9_item_7 ?_
  refine g_callV1 (c_itemAt (h := h) i n hS.1 hn hn9 hi) mw_2_129 ok_X7_itemAt ⟨by decide, by decide⟩ (by first | assumption | exact lay_item (by omega) | exact lay_drive (by omega) | exact lay_job (by omega) | rfl) (by omega) rfl (by omega) (by omega) (Nat.le_of_ble_eq_true rfl) dX9_item_8 (dQ_K ?_)
  show Go _ _ _ _ _ _ 11 _ _
  refine g_ast3 (by decide) dX9_item_11 ?_
  refine g_ald3 dX9_item_12 ?_
  refine g_ifnonnull (tgt := 18) dX9_item_13 (by decide) ?_
  refine g_ild2 dX9_item_18 ?_
  refine g_iconst (v := nI 0) dX9_item_19 (by decide +kernel) ?_
  refine g_bipush (v := nI 7) dX9_item_20 (by decide +kernel) ?_
  show Go _ _ _ _ _ _ 22 _ _
  refine g_callS3 (c_isFrom (h := h) (nI 1) (nI 0) (nI 7)) mw_2_133 ok_X9_isFrom ⟨by decide, by decide⟩ (by omega) (by omega) (Nat.le_of_ble_eq_true rfl) dX9_item_22 (dI_K ?_)
  rw [if_pos (show nI 0 ≤ nI 1 ∧ nI 1 ≤ nI 7 by decide)]
  refine g_if_ne_t (tgt := 31) dX9_item_25 (by decide) (by decide) ?_
  refine g_ild2 dX9_item_31 ?_
  refine g_bipush (v := nI 7) dX9_item_32 (by decide +kernel) ?_
  refine g_icmp_ne_t (tgt := 51) dX9_item_34 (by decide) (by decide) ?_
  refine g_ald3 dX9_item_51 ?_
  show Go _ _ _ _ _ _ 52 _ _
  refine g_ild2 dX9_item_52 ?_
  refine g_callV1 (c_itell_1 (h := h) (4 + i) (lay_item (by omega)) (by omega)) mw_2_148 ok_X2_tell ⟨by decide, by decide⟩ (by first | assumption | exact lay_item (by omega) | exact lay_drive (by omega) | exact lay_job (by omega) | rfl) (by omega) rfl (by omega) (by omega) (Nat.le_of_ble_eq_true rfl) dX9_item_53 (dI_K ?_)
  exact g_iret rfl dX9_item_56 ⟨rfl, rfl⟩
theorem c_item_2 (i n : Nat) (hS : Sh h) (hn : h.1 2 1 = nI n) (hn9 : n ≤ 18) (hi : i < n) : Ct G mX9_item [ga G 0, .int (nI i), .int (nI 2)] h 456 456 (dI (h.1 (4 + i) 2) h) := by
  refine Ct.of rfl (by simp [Value.category, ga]) (Nat.le_of_ble_eq_true rfl) (Nat.le_refl _) ?_
  show Go _ _ _ _ _ _ _ [some (ga G 0), some (.int (nI i)), some (.int (nI 2)), none] []
  refine g_ald0 dX9_item_0 ?_
  refine g_getQ fb_9_0 mw_2_95 (by first | assumption | exact lay_item (by omega) | exact lay_drive (by omega) | exact lay_job (by omega) | rfl) (by omega) (sh_now hS) dX9_item_1 ?_
  refine g_getQ fb_6_0 mw_2_1 (by first | assumption | exact lay_item (by omega) | exact lay_drive (by omega) | exact lay_job (by omega) | rfl) (by omega) (sh_store hS) dX9_item_4 ?_
  refine g_ild1 dX9_item_7 ?_
  refine g_callV1 (c_itemAt (h := h) i n hS.1 hn hn9 hi) mw_2_129 ok_X7_itemAt ⟨by decide, by decide⟩ (by first | assumption | exact lay_item (by omega) | exact lay_drive (by omega) | exact lay_job (by omega) | rfl) (by omega) rfl (by omega) (by omega) (Nat.le_of_ble_eq_true rfl) dX9_item_8 (dQ_K ?_)
  show Go _ _ _ _ _ _ 11 _ _
  refine g_ast3 (by decide) dX9_item_11 ?_
  refine g_ald3 dX9_item_12 ?_
  refine g_ifnonnull (tgt := 18) dX9_item_13 (by decide) ?_
  refine g_ild2 dX9_item_18 ?_
  refine g_iconst (v := nI 0) dX9_item_19 (by decide +kernel) ?_
  refine g_bipush (v := nI 7) dX9_item_20 (by decide +kernel) ?_
  show Go _ _ _ _ _ _ 22 _ _
  refine g_callS3 (c_isFrom (h := h) (nI 2) (nI 0) (nI 7)) mw_2_133 ok_X9_isFrom ⟨by decide, by decide⟩ (by omega) (by omega) (Nat.le_of_ble_eq_true rfl) dX9_item_22 (dI_K ?_)
  rw [if_pos (show nI 0 ≤ nI 2 ∧ nI 2 ≤ nI 7 by decide)]
  refine g_if_ne_t (tgt := 31) dX9_item_25 (by decide) (by decide) ?_
  refine g_ild2 dX9_item_31 ?_
  refine g_bipush (v := nI 7) dX9_item_32 (by decide +kernel) ?_
  refine g_icmp_ne_t (tgt := 51) dX9_item_34 (by decide) (by decide) ?_
  refine g_ald3 dX9_item_51 ?_
  show Go _ _ _ _ _ _ 52 _ _
  refine g_ild2 dX9_item_52 ?_
  refine g_callV1 (c_itell_2 (h := h) (4 + i) (lay_item (by omega)) (by omega)) mw_2_148 ok_X2_tell ⟨by decide, by decide⟩ (by first | assumption | exact lay_item (by omega) | exact lay_drive (by omega) | exact lay_job (by omega) | rfl) (by omega) rfl (by omega) (by omega) (Nat.le_of_ble_eq_true rfl) dX9_item_53 (dI_K ?_)
  exact g_iret rfl dX9_item_56 ⟨rfl, rfl⟩
theorem c_item_3 (i n : Nat) (hS : Sh h) (hn : h.1 2 1 = nI n) (hn9 : n ≤ 18) (hi : i < n) : Ct G mX9_item [ga G 0, .int (nI i), .int (nI 3)] h 456 456 (dI (h.1 (4 + i) 3) h) := by
  refine Ct.of rfl (by simp [Value.category, ga]) (Nat.le_of_ble_eq_true rfl) (Nat.le_refl _) ?_
  show Go _ _ _ _ _ _ _ [some (ga G 0), some (.int (nI i)), some (.int (nI 3)), none] []
  refine g_ald0 dX9_item_0 ?_
  refine g_getQ fb_9_0 mw_2_95 (by first | assumption | exact lay_item (by omega) | exact lay_drive (by omega) | exact lay_job (by omega) | rfl) (by omega) (sh_now hS) dX9_item_1 ?_
  refine g_getQ fb_6_0 mw_2_1 (by first | assumption | exact lay_item (by omega) | exact lay_drive (by omega) | exact lay_job (by omega) | rfl) (by omega) (sh_store hS) dX9_item_4 ?_
  refine g_ild1 dX9_item_7 ?_
  refine g_callV1 (c_itemAt (h := h) i n hS.1 hn hn9 hi) mw_2_129 ok_X7_itemAt ⟨by decide, by decide⟩ (by first | assumption | exact lay_item (by omega) | exact lay_drive (by omega) | exact lay_job (by omega) | rfl) (by omega) rfl (by omega) (by omega) (Nat.le_of_ble_eq_true rfl) dX9_item_8 (dQ_K ?_)
  show Go _ _ _ _ _ _ 11 _ _
  refine g_ast3 (by decide) dX9_item_11 ?_
  refine g_ald3 dX9_item_12 ?_
  refine g_ifnonnull (tgt := 18) dX9_item_13 (by decide) ?_
  refine g_ild2 dX9_item_18 ?_
  refine g_iconst (v := nI 0) dX9_item_19 (by decide +kernel) ?_
  refine g_bipush (v := nI 7) dX9_item_20 (by decide +kernel) ?_
  show Go _ _ _ _ _ _ 22 _ _
  refine g_callS3 (c_isFrom (h := h) (nI 3) (nI 0) (nI 7)) mw_2_133 ok_X9_isFrom ⟨by decide, by decide⟩ (by omega) (by omega) (Nat.le_of_ble_eq_true rfl) dX9_item_22 (dI_K ?_)
  rw [if_pos (show nI 0 ≤ nI 3 ∧ nI 3 ≤ nI 7 by decide)]
  refine g_if_ne_t (tgt := 31) dX9_item_25 (by decide) (by decide) ?_
  refine g_ild2 dX9_item_31 ?_
  refine g_bipush (v := nI 7) dX9_item_32 (by decide +kernel) ?_
  refine g_icmp_ne_t (tgt := 51) dX9_item_34 (by decide) (by decide) ?_
  refine g_ald3 dX9_item_51 ?_
  show Go _ _ _ _ _ _ 52 _ _
  refine g_ild2 dX9_item_52 ?_
  refine g_callV1 (c_itell_3 (h := h) (4 + i) (lay_item (by omega)) (by omega)) mw_2_148 ok_X2_tell ⟨by decide, by decide⟩ (by first | assumption | exact lay_item (by omega) | exact lay_drive (by omega) | exact lay_job (by omega) | rfl) (by omega) rfl (by omega) (by omega) (Nat.le_of_ble_eq_true rfl) dX9_item_53 (dI_K ?_)
  exact g_iret rfl dX9_item_56 ⟨rfl, rfl⟩
theorem c_item_4 (i n : Nat) (hS : Sh h) (hn : h.1 2 1 = nI n) (hn9 : n ≤ 18) (hi : i < n) : Ct G mX9_item [ga G 0, .int (nI i), .int (nI 4)] h 456 456 (dI (h.1 (4 + i) 4) h) := by
  refine Ct.of rfl (by simp [Value.category, ga]) (Nat.le_of_ble_eq_true rfl) (Nat.le_refl _) ?_
  show Go _ _ _ _ _ _ _ [some (ga G 0), some (.int (nI i)), some (.int (nI 4)), none] []
  refine g_ald0 dX9_item_0 ?_
  refine g_getQ fb_9_0 mw_2_95 (by first | assumption | exact lay_item (by omega) | exact lay_drive (by omega) | exact lay_job (by omega) | rfl) (by omega) (sh_now hS) dX9_item_1 ?_
  refine g_getQ fb_6_0 mw_2_1 (by first | assumption | exact lay_item (by omega) | exact lay_drive (by omega) | exact lay_job (by omega) | rfl) (by omega) (sh_store hS) dX9_item_4 ?_
  refine g_ild1 dX9_item_7 ?_
  refine g_callV1 (c_itemAt (h := h) i n hS.1 hn hn9 hi) mw_2_129 ok_X7_itemAt ⟨by decide, by decide⟩ (by first | assumption | exact lay_item (by omega) | exact lay_drive (by omega) | exact lay_job (by omega) | rfl) (by omega) rfl (by omega) (by omega) (Nat.le_of_ble_eq_true rfl) dX9_item_8 (dQ_K ?_)
  show Go _ _ _ _ _ _ 11 _ _
  refine g_ast3 (by decide) dX9_item_11 ?_
  refine g_ald3 dX9_item_12 ?_
  refine g_ifnonnull (tgt := 18) dX9_item_13 (by decide) ?_
  refine g_ild2 dX9_item_18 ?_
  refine g_iconst (v := nI 0) dX9_item_19 (by decide +kernel) ?_
  refine g_bipush (v := nI 7) dX9_item_20 (by decide +kernel) ?_
  show Go _ _ _ _ _ _ 22 _ _
  refine g_callS3 (c_isFrom (h := h) (nI 4) (nI 0) (nI 7)) mw_2_133 ok_X9_isFrom ⟨by decide, by decide⟩ (by omega) (by omega) (Nat.le_of_ble_eq_true rfl) dX9_item_22 (dI_K ?_)
  rw [if_pos (show nI 0 ≤ nI 4 ∧ nI 4 ≤ nI 7 by decide)]
  refine g_if_ne_t (tgt := 31) dX9_item_25 (by decide) (by decide) ?_
  refine g_ild2 dX9_item_31 ?_
  refine g_bipush (v := nI 7) dX9_item_32 (by decide +kernel) ?_
  refine g_icmp_ne_t (tgt := 51) dX9_item_34 (by decide) (by decide) ?_
  refine g_ald3 dX9_item_51 ?_
  show Go _ _ _ _ _ _ 52 _ _
  refine g_ild2 dX9_item_52 ?_
  refine g_callV1 (c_itell_4 (h := h) (4 + i) (lay_item (by omega)) (by omega)) mw_2_148 ok_X2_tell ⟨by decide, by decide⟩ (by first | assumption | exact lay_item (by omega) | exact lay_drive (by omega) | exact lay_job (by omega) | rfl) (by omega) rfl (by omega) (by omega) (Nat.le_of_ble_eq_true rfl) dX9_item_53 (dI_K ?_)
  exact g_iret rfl dX9_item_56 ⟨rfl, rfl⟩
theorem c_item_5 (i n : Nat) (hS : Sh h) (hn : h.1 2 1 = nI n) (hn9 : n ≤ 18) (hi : i < n) : Ct G mX9_item [ga G 0, .int (nI i), .int (nI 5)] h 456 456 (dI (h.1 (4 + i) 5) h) := by
  refine Ct.of rfl (by simp [Value.category, ga]) (Nat.le_of_ble_eq_true rfl) (Nat.le_refl _) ?_
  show Go _ _ _ _ _ _ _ [some (ga G 0), some (.int (nI i)), some (.int (nI 5)), none] []
  refine g_ald0 dX9_item_0 ?_
  refine g_getQ fb_9_0 mw_2_95 (by first | assumption | exact lay_item (by omega) | exact lay_drive (by omega) | exact lay_job (by omega) | rfl) (by omega) (sh_now hS) dX9_item_1 ?_
  refine g_getQ fb_6_0 mw_2_1 (by first | assumption | exact lay_item (by omega) | exact lay_drive (by omega) | exact lay_job (by omega) | rfl) (by omega) (sh_store hS) dX9_item_4 ?_
  refine g_ild1 dX9_item_7 ?_
  refine g_callV1 (c_itemAt (h := h) i n hS.1 hn hn9 hi) mw_2_129 ok_X7_itemAt ⟨by decide, by decide⟩ (by first | assumption | exact lay_item (by omega) | exact lay_drive (by omega) | exact lay_job (by omega) | rfl) (by omega) rfl (by omega) (by omega) (Nat.le_of_ble_eq_true rfl) dX9_item_8 (dQ_K ?_)
  show Go _ _ _ _ _ _ 11 _ _
  refine g_ast3 (by decide) dX9_item_11 ?_
  refine g_ald3 dX9_item_12 ?_
  refine g_ifnonnull (tgt := 18) dX9_item_13 (by decide) ?_
  refine g_ild2 dX9_item_18 ?_
  refine g_iconst (v := nI 0) dX9_item_19 (by decide +kernel) ?_
  refine g_bipush (v := nI 7) dX9_item_20 (by decide +kernel) ?_
  show Go _ _ _ _ _ _ 22 _ _
  refine g_callS3 (c_isFrom (h := h) (nI 5) (nI 0) (nI 7)) mw_2_133 ok_X9_isFrom ⟨by decide, by decide⟩ (by omega) (by omega) (Nat.le_of_ble_eq_true rfl) dX9_item_22 (dI_K ?_)
  rw [if_pos (show nI 0 ≤ nI 5 ∧ nI 5 ≤ nI 7 by decide)]
  refine g_if_ne_t (tgt := 31) dX9_item_25 (by decide) (by decide) ?_
  refine g_ild2 dX9_item_31 ?_
  refine g_bipush (v := nI 7) dX9_item_32 (by decide +kernel) ?_
  refine g_icmp_ne_t (tgt := 51) dX9_item_34 (by decide) (by decide) ?_
  refine g_ald3 dX9_item_51 ?_
  show Go _ _ _ _ _ _ 52 _ _
  refine g_ild2 dX9_item_52 ?_
  refine g_callV1 (c_itell_5 (h := h) (4 + i) (lay_item (by omega)) (by omega)) mw_2_148 ok_X2_tell ⟨by decide, by decide⟩ (by first | assumption | exact lay_item (by omega) | exact lay_drive (by omega) | exact lay_job (by omega) | rfl) (by omega) rfl (by omega) (by omega) (Nat.le_of_ble_eq_true rfl) dX9_item_53 (dI_K ?_)
  exact g_iret rfl dX9_item_56 ⟨rfl, rfl⟩
theorem c_item_6 (i n : Nat) (hS : Sh h) (hn : h.1 2 1 = nI n) (hn9 : n ≤ 18) (hi : i < n) : Ct G mX9_item [ga G 0, .int (nI i), .int (nI 6)] h 456 456 (dI (h.1 (4 + i) 7) h) := by
  refine Ct.of rfl (by simp [Value.category, ga]) (Nat.le_of_ble_eq_true rfl) (Nat.le_refl _) ?_
  show Go _ _ _ _ _ _ _ [some (ga G 0), some (.int (nI i)), some (.int (nI 6)), none] []
  refine g_ald0 dX9_item_0 ?_
  refine g_getQ fb_9_0 mw_2_95 (by first | assumption | exact lay_item (by omega) | exact lay_drive (by omega) | exact lay_job (by omega) | rfl) (by omega) (sh_now hS) dX9_item_1 ?_
  refine g_getQ fb_6_0 mw_2_1 (by first | assumption | exact lay_item (by omega) | exact lay_drive (by omega) | exact lay_job (by omega) | rfl) (by omega) (sh_store hS) dX9_item_4 ?_
  refine g_ild1 dX9_item_7 ?_
  refine g_callV1 (c_itemAt (h := h) i n hS.1 hn hn9 hi) mw_2_129 ok_X7_itemAt ⟨by decide, by decide⟩ (by first | assumption | exact lay_item (by omega) | exact lay_drive (by omega) | exact lay_job (by omega) | rfl) (by omega) rfl (by omega) (by omega) (Nat.le_of_ble_eq_true rfl) dX9_item_8 (dQ_K ?_)
  show Go _ _ _ _ _ _ 11 _ _
  refine g_ast3 (by decide) dX9_item_11 ?_
  refine g_ald3 dX9_item_12 ?_
  refine g_ifnonnull (tgt := 18) dX9_item_13 (by decide) ?_
  refine g_ild2 dX9_item_18 ?_
  refine g_iconst (v := nI 0) dX9_item_19 (by decide +kernel) ?_
  refine g_bipush (v := nI 7) dX9_item_20 (by decide +kernel) ?_
  show Go _ _ _ _ _ _ 22 _ _
  refine g_callS3 (c_isFrom (h := h) (nI 6) (nI 0) (nI 7)) mw_2_133 ok_X9_isFrom ⟨by decide, by decide⟩ (by omega) (by omega) (Nat.le_of_ble_eq_true rfl) dX9_item_22 (dI_K ?_)
  rw [if_pos (show nI 0 ≤ nI 6 ∧ nI 6 ≤ nI 7 by decide)]
  refine g_if_ne_t (tgt := 31) dX9_item_25 (by decide) (by decide) ?_
  refine g_ild2 dX9_item_31 ?_
  refine g_bipush (v := nI 7) dX9_item_32 (by decide +kernel) ?_
  refine g_icmp_ne_t (tgt := 51) dX9_item_34 (by decide) (by decide) ?_
  refine g_ald3 dX9_item_51 ?_
  show Go _ _ _ _ _ _ 52 _ _
  refine g_ild2 dX9_item_52 ?_
  refine g_callV1 (c_itell_6 (h := h) (4 + i) (lay_item (by omega)) (by omega)) mw_2_148 ok_X2_tell ⟨by decide, by decide⟩ (by first | assumption | exact lay_item (by omega) | exact lay_drive (by omega) | exact lay_job (by omega) | rfl) (by omega) rfl (by omega) (by omega) (Nat.le_of_ble_eq_true rfl) dX9_item_53 (dI_K ?_)
  exact g_iret rfl dX9_item_56 ⟨rfl, rfl⟩
theorem c_homeOf (s n : Nat) (hs : s < 24) (hS : Sh h) (hn : h.1 2 1 = nI n) (hn9 : n ≤ 18) : Ct G mX9_homeOf [ga G 0, .int (nI s)] h 456 456 (rI (fun r h' => h' = h ∧ IsMin (fun i => h.1 (4 + i) 1 = nI s) (fun _ => 0) n r)) := by
  refine Ct.of rfl (by simp [Value.category, ga]) (Nat.le_of_ble_eq_true rfl) (Nat.le_refl _) ?_
  show Go _ _ _ _ _ _ _ [some (ga G 0), some (.int (nI s))] []
  refine g_ild1 dX9_homeOf_0 ?_
  refine g_callS1 (c_hasSlot (h := h) s (by omega)) mw_2_159 ok_X7_hasSlot ⟨by decide, by decide⟩ (by omega) (by omega) (Nat.le_of_ble_eq_true rfl) dX9_homeOf_1 (dI_K ?_)
  rw [if_pos hs]
  refine g_if_eq_f (tgt := 21) dX9_homeOf_4 (by decide) (by decide) ?_
  refine g_ald0 dX9_homeOf_7 ?_
  refine g_getQ fb_9_0 mw_2_95 (by first | assumption | exact lay_item (by omega) | exact lay_drive (by omega) | exact lay_job (by omega) | rfl) (by omega) (sh_now hS) dX9_homeOf_8 ?_
  show Go _ _ _ _ _ _ 11 _ _
  refine g_getQ fb_6_0 mw_2_1 (by first | assumption | exact lay_item (by omega) | exact lay_drive (by omega) | exact lay_job (by omega) | rfl) (by omega) (sh_store hS) dX9_homeOf_11 ?_
  refine g_ild1 dX9_homeOf_14 ?_
  refine g_callV1 (c_itemWithHome (h := h) (nI s) n hS.1 hn hn9) mw_2_162 ok_X7_itemWithHome ⟨by decide, by decide⟩ (by first | assumption | exact lay_item (by omega) | exact lay_drive (by omega) | exact lay_job (by omega) | rfl) (by omega) rfl (by omega) (by omega) (Nat.le_of_ble_eq_true rfl) dX9_homeOf_15 (rI_K ?_)
  intro r h2 hr
  refine g_goto (tgt := 22) dX9_homeOf_18 (by decide) ?_
  exact g_iret rfl dX9_homeOf_22 ⟨r, rfl, hr⟩
theorem c_drive_n (x y : Int32) (n : Nat) (hS : Sh h) (hn : h.1 2 3 = nI n) (hx : x < 0 ∨ nI n ≤ x) : Ct G mX9_drive [ga G 0, .int x, .int y] h 456 456 (dI (-1) h) := by
  refine Ct.of rfl (by simp [Value.category, ga]) (Nat.le_of_ble_eq_true rfl) (Nat.le_refl _) ?_
  show Go _ _ _ _ _ _ _ [some (ga G 0), some (.int x), some (.int y), none] []
  refine g_ald0 dX9_drive_0 ?_
  refine g_getQ fb_9_0 mw_2_95 (by first | assumption | exact lay_item (by omega) | exact lay_drive (by omega) | exact lay_job (by omega) | rfl) (by omega) (sh_now hS) dX9_drive_1 ?_
  refine g_getQ fb_6_0 mw_2_1 (by first | assumption | exact lay_item (by omega) | exact lay_drive (by omega) | exact lay_job (by omega) | rfl) (by omega) (sh_store hS) dX9_drive_4 ?_
  refine g_ild1 dX9_drive_7 ?_
  refine g_callV1 (c_driveAt_n (h := h) x n hn hx) mw_2_173 ok_X7_driveAt ⟨by decide, by decide⟩ (by first | assumption | exact lay_item (by omega) | exact lay_drive (by omega) | exact lay_job (by omega) | rfl) (by omega) rfl (by omega) (by omega) (Nat.le_of_ble_eq_true rfl) dX9_drive_8 (dQ_Kn ?_)
  show Go _ _ _ _ _ _ 11 _ _
  refine g_zst3 (by decide) dX9_drive_11 ?_
  refine g_zld3 dX9_drive_12 ?_
  refine g_ifnonnullN dX9_drive_13 ?_
  refine g_iconst (v := -1) dX9_drive_16 (by decide +kernel) ?_
  exact g_iret rfl dX9_drive_17 ⟨rfl, rfl⟩
theorem c_drive_0 (k n : Nat) (hS : Sh h) (hn : h.1 2 3 = nI n) (hn9 : n ≤ 4) (hk : k < n) : Ct G mX9_drive [ga G 0, .int (nI k), .int (nI 0)] h 456 456 (dI (h.1 (23 + k) 0) h) := by
  refine Ct.of rfl (by simp [Value.category, ga]) (Nat.le_of_ble_eq_true rfl) (Nat.le_refl _) ?_
  show Go _ _ _ _ _ _ _ [some (ga G 0), some (.int (nI k)), some (.int (nI 0)), none] []
  refine g_ald0 dX9_drive_0 ?_
  refine g_getQ fb_9_0 mw_2_95 (by first | assumption | exact lay_item (by omega) | exact lay_drive (by omega) | exact lay_job (by omega) | rfl) (by omega) (sh_now hS) dX9_drive_1 ?_
  refine g_getQ fb_6_0 mw_2_1 (by first | assumption | exact lay_item (by omega) | exact lay_drive (by omega) | exact lay_job (by omega) | rfl) (by omega) (sh_store hS) dX9_drive_4 ?_
  refine g_ild1 dX9_drive_7 ?_
  refine g_callV1 (c_driveAt (h := h) k n hS.1 hn hn9 hk) mw_2_173 ok_X7_driveAt ⟨by decide, by decide⟩ (by first | assumption | exact lay_item (by omega) | exact lay_drive (by omega) | exact lay_job (by omega) | rfl) (by omega) rfl (by omega) (by omega) (Nat.le_of_ble_eq_true rfl) dX9_drive_8 (dQ_K ?_)
  show Go _ _ _ _ _ _ 11 _ _
  refine g_ast3 (by decide) dX9_drive_11 ?_
  refine g_ald3 dX9_drive_12 ?_
  refine g_ifnonnull (tgt := 18) dX9_drive_13 (by decide) ?_
  refine g_ild2 dX9_drive_18 ?_
  refine g_iconst (v := nI 0) dX9_drive_19 (by decide +kernel) ?_
  refine g_iconst (v := nI 5) dX9_drive_20 (by decide +kernel) ?_
  show Go _ _ _ _ _ _ 21 _ _
  refine g_callS3 (c_isFrom (h := h) (nI 0) (nI 0) (nI 5)) mw_2_133 ok_X9_isFrom ⟨by decide, by decide⟩ (by omega) (by omega) (Nat.le_of_ble_eq_true rfl) dX9_drive_21 (dI_K ?_)
  rw [if_pos (show nI 0 ≤ nI 0 ∧ nI 0 ≤ nI 5 by decide)]
  refine g_if_eq_f (tgt := 35) dX9_drive_24 (by decide) (by decide) ?_
  refine g_ald3 dX9_drive_27 ?_
  refine g_ild2 dX9_drive_28 ?_
  refine g_callV1 (c_dtell_0 (h := h) (23 + k) (lay_drive (by omega)) (by omega)) mw_2_177 ok_X0_tell ⟨by decide, by decide⟩ (by first | assumption | exact lay_item (by omega) | exact lay_drive (by omega) | exact lay_job (by omega) | rfl) (by omega) rfl (by omega) (by omega) (Nat.le_of_ble_eq_true rfl) dX9_drive_29 (dI_K ?_)
  refine g_goto (tgt := 37) dX9_drive_32 (by decide) ?_
  show Go _ _ _ _ _ _ 37 _ _
  exact g_iret rfl dX9_drive_37 ⟨rfl, rfl⟩
theorem c_drive_1 (k n : Nat) (hS : Sh h) (hn : h.1 2 3 = nI n) (hn9 : n ≤ 4) (hk : k < n) : Ct G mX9_drive [ga G 0, .int (nI k), .int (nI 1)] h 456 456 (dI (h.1 (23 + k) 3) h) := by
  refine Ct.of rfl (by simp [Value.category, ga]) (Nat.le_of_ble_eq_true rfl) (Nat.le_refl _) ?_
  show Go _ _ _ _ _ _ _ [some (ga G 0), some (.int (nI k)), some (.int (nI 1)), none] []
  refine g_ald0 dX9_drive_0 ?_
  refine g_getQ fb_9_0 mw_2_95 (by first | assumption | exact lay_item (by omega) | exact lay_drive (by omega) | exact lay_job (by omega) | rfl) (by omega) (sh_now hS) dX9_drive_1 ?_
  refine g_getQ fb_6_0 mw_2_1 (by first | assumption | exact lay_item (by omega) | exact lay_drive (by omega) | exact lay_job (by omega) | rfl) (by omega) (sh_store hS) dX9_drive_4 ?_
  refine g_ild1 dX9_drive_7 ?_
  refine g_callV1 (c_driveAt (h := h) k n hS.1 hn hn9 hk) mw_2_173 ok_X7_driveAt ⟨by decide, by decide⟩ (by first | assumption | exact lay_item (by omega) | exact lay_drive (by omega) | exact lay_job (by omega) | rfl) (by omega) rfl (by omega) (by omega) (Nat.le_of_ble_eq_true rfl) dX9_drive_8 (dQ_K ?_)
  show Go _ _ _ _ _ _ 11 _ _
  refine g_ast3 (by decide) dX9_drive_11 ?_
  refine g_ald3 dX9_drive_12 ?_
  refine g_ifnonnull (tgt := 18) dX9_drive_13 (by decide) ?_
  refine g_ild2 dX9_drive_18 ?_
  refine g_iconst (v := nI 0) dX9_drive_19 (by decide +kernel) ?_
  refine g_iconst (v := nI 5) dX9_drive_20 (by decide +kernel) ?_
  show Go _ _ _ _ _ _ 21 _ _
  refine g_callS3 (c_isFrom (h := h) (nI 1) (nI 0) (nI 5)) mw_2_133 ok_X9_isFrom ⟨by decide, by decide⟩ (by omega) (by omega) (Nat.le_of_ble_eq_true rfl) dX9_drive_21 (dI_K ?_)
  rw [if_pos (show nI 0 ≤ nI 1 ∧ nI 1 ≤ nI 5 by decide)]
  refine g_if_eq_f (tgt := 35) dX9_drive_24 (by decide) (by decide) ?_
  refine g_ald3 dX9_drive_27 ?_
  refine g_ild2 dX9_drive_28 ?_
  refine g_callV1 (c_dtell_1 (h := h) (23 + k) (lay_drive (by omega)) (by omega)) mw_2_177 ok_X0_tell ⟨by decide, by decide⟩ (by first | assumption | exact lay_item (by omega) | exact lay_drive (by omega) | exact lay_job (by omega) | rfl) (by omega) rfl (by omega) (by omega) (Nat.le_of_ble_eq_true rfl) dX9_drive_29 (dI_K ?_)
  refine g_goto (tgt := 37) dX9_drive_32 (by decide) ?_
  show Go _ _ _ _ _ _ 37 _ _
  exact g_iret rfl dX9_drive_37 ⟨rfl, rfl⟩
theorem c_drive_2 (k n : Nat) (hS : Sh h) (hn : h.1 2 3 = nI n) (hn9 : n ≤ 4) (hk : k < n) : Ct G mX9_drive [ga G 0, .int (nI k), .int (nI 2)] h 456 456 (dI (h.1 (23 + k) 4) h) := by
  refine Ct.of rfl (by simp [Value.category, ga]) (Nat.le_of_ble_eq_true rfl) (Nat.le_refl _) ?_
  show Go _ _ _ _ _ _ _ [some (ga G 0), some (.int (nI k)), some (.int (nI 2)), none] []
  refine g_ald0 dX9_drive_0 ?_
  refine g_getQ fb_9_0 mw_2_95 (by first | assumption | exact lay_item (by omega) | exact lay_drive (by omega) | exact lay_job (by omega) | rfl) (by omega) (sh_now hS) dX9_drive_1 ?_
  refine g_getQ fb_6_0 mw_2_1 (by first | assumption | exact lay_item (by omega) | exact lay_drive (by omega) | exact lay_job (by omega) | rfl) (by omega) (sh_store hS) dX9_drive_4 ?_
  refine g_ild1 dX9_drive_7 ?_
  refine g_callV1 (c_driveAt (h := h) k n hS.1 hn hn9 hk) mw_2_173 ok_X7_driveAt ⟨by decide, by decide⟩ (by first | assumption | exact lay_item (by omega) | exact lay_drive (by omega) | exact lay_job (by omega) | rfl) (by omega) rfl (by omega) (by omega) (Nat.le_of_ble_eq_true rfl) dX9_drive_8 (dQ_K ?_)
  show Go _ _ _ _ _ _ 11 _ _
  refine g_ast3 (by decide) dX9_drive_11 ?_
  refine g_ald3 dX9_drive_12 ?_
  refine g_ifnonnull (tgt := 18) dX9_drive_13 (by decide) ?_
  refine g_ild2 dX9_drive_18 ?_
  refine g_iconst (v := nI 0) dX9_drive_19 (by decide +kernel) ?_
  refine g_iconst (v := nI 5) dX9_drive_20 (by decide +kernel) ?_
  show Go _ _ _ _ _ _ 21 _ _
  refine g_callS3 (c_isFrom (h := h) (nI 2) (nI 0) (nI 5)) mw_2_133 ok_X9_isFrom ⟨by decide, by decide⟩ (by omega) (by omega) (Nat.le_of_ble_eq_true rfl) dX9_drive_21 (dI_K ?_)
  rw [if_pos (show nI 0 ≤ nI 2 ∧ nI 2 ≤ nI 5 by decide)]
  refine g_if_eq_f (tgt := 35) dX9_drive_24 (by decide) (by decide) ?_
  refine g_ald3 dX9_drive_27 ?_
  refine g_ild2 dX9_drive_28 ?_
  refine g_callV1 (c_dtell_2 (h := h) (23 + k) (lay_drive (by omega)) (by omega)) mw_2_177 ok_X0_tell ⟨by decide, by decide⟩ (by first | assumption | exact lay_item (by omega) | exact lay_drive (by omega) | exact lay_job (by omega) | rfl) (by omega) rfl (by omega) (by omega) (Nat.le_of_ble_eq_true rfl) dX9_drive_29 (dI_K ?_)
  refine g_goto (tgt := 37) dX9_drive_32 (by decide) ?_
  show Go _ _ _ _ _ _ 37 _ _
  exact g_iret rfl dX9_drive_37 ⟨rfl, rfl⟩
theorem c_drive_3 (k n : Nat) (hS : Sh h) (hn : h.1 2 3 = nI n) (hn9 : n ≤ 4) (hk : k < n) : Ct G mX9_drive [ga G 0, .int (nI k), .int (nI 3)] h 456 456 (dI (h.1 (23 + k) 5) h) := by
  refine Ct.of rfl (by simp [Value.category, ga]) (Nat.le_of_ble_eq_true rfl) (Nat.le_refl _) ?_
  show Go _ _ _ _ _ _ _ [some (ga G 0), some (.int (nI k)), some (.int (nI 3)), none] []
  refine g_ald0 dX9_drive_0 ?_
  refine g_getQ fb_9_0 mw_2_95 (by first | assumption | exact lay_item (by omega) | exact lay_drive (by omega) | exact lay_job (by omega) | rfl) (by omega) (sh_now hS) dX9_drive_1 ?_
  refine g_getQ fb_6_0 mw_2_1 (by first | assumption | exact lay_item (by omega) | exact lay_drive (by omega) | exact lay_job (by omega) | rfl) (by omega) (sh_store hS) dX9_drive_4 ?_
  refine g_ild1 dX9_drive_7 ?_
  refine g_callV1 (c_driveAt (h := h) k n hS.1 hn hn9 hk) mw_2_173 ok_X7_driveAt ⟨by decide, by decide⟩ (by first | assumption | exact lay_item (by omega) | exact lay_drive (by omega) | exact lay_job (by omega) | rfl) (by omega) rfl (by omega) (by omega) (Nat.le_of_ble_eq_true rfl) dX9_drive_8 (dQ_K ?_)
  show Go _ _ _ _ _ _ 11 _ _
  refine g_ast3 (by decide) dX9_drive_11 ?_
  refine g_ald3 dX9_drive_12 ?_
  refine g_ifnonnull (tgt := 18) dX9_drive_13 (by decide) ?_
  refine g_ild2 dX9_drive_18 ?_
  refine g_iconst (v := nI 0) dX9_drive_19 (by decide +kernel) ?_
  refine g_iconst (v := nI 5) dX9_drive_20 (by decide +kernel) ?_
  show Go _ _ _ _ _ _ 21 _ _
  refine g_callS3 (c_isFrom (h := h) (nI 3) (nI 0) (nI 5)) mw_2_133 ok_X9_isFrom ⟨by decide, by decide⟩ (by omega) (by omega) (Nat.le_of_ble_eq_true rfl) dX9_drive_21 (dI_K ?_)
  rw [if_pos (show nI 0 ≤ nI 3 ∧ nI 3 ≤ nI 5 by decide)]
  refine g_if_eq_f (tgt := 35) dX9_drive_24 (by decide) (by decide) ?_
  refine g_ald3 dX9_drive_27 ?_
  refine g_ild2 dX9_drive_28 ?_
  refine g_callV1 (c_dtell_3 (h := h) (23 + k) (lay_drive (by omega)) (by omega)) mw_2_177 ok_X0_tell ⟨by decide, by decide⟩ (by first | assumption | exact lay_item (by omega) | exact lay_drive (by omega) | exact lay_job (by omega) | rfl) (by omega) rfl (by omega) (by omega) (Nat.le_of_ble_eq_true rfl) dX9_drive_29 (dI_K ?_)
  refine g_goto (tgt := 37) dX9_drive_32 (by decide) ?_
  show Go _ _ _ _ _ _ 37 _ _
  exact g_iret rfl dX9_drive_37 ⟨rfl, rfl⟩
theorem c_drive_4 (k n : Nat) (hS : Sh h) (hn : h.1 2 3 = nI n) (hn9 : n ≤ 4) (hk : k < n) : Ct G mX9_drive [ga G 0, .int (nI k), .int (nI 4)] h 456 456 (dI (h.1 (23 + k) 6) h) := by
  refine Ct.of rfl (by simp [Value.category, ga]) (Nat.le_of_ble_eq_true rfl) (Nat.le_refl _) ?_
  show Go _ _ _ _ _ _ _ [some (ga G 0), some (.int (nI k)), some (.int (nI 4)), none] []
  refine g_ald0 dX9_drive_0 ?_
  refine g_getQ fb_9_0 mw_2_95 (by first | assumption | exact lay_item (by omega) | exact lay_drive (by omega) | exact lay_job (by omega) | rfl) (by omega) (sh_now hS) dX9_drive_1 ?_
  refine g_getQ fb_6_0 mw_2_1 (by first | assumption | exact lay_item (by omega) | exact lay_drive (by omega) | exact lay_job (by omega) | rfl) (by omega) (sh_store hS) dX9_drive_4 ?_
  refine g_ild1 dX9_drive_7 ?_
  refine g_callV1 (c_driveAt (h := h) k n hS.1 hn hn9 hk) mw_2_173 ok_X7_driveAt ⟨by decide, by decide⟩ (by first | assumption | exact lay_item (by omega) | exact lay_drive (by omega) | exact lay_job (by omega) | rfl) (by omega) rfl (by omega) (by omega) (Nat.le_of_ble_eq_true rfl) dX9_drive_8 (dQ_K ?_)
  show Go _ _ _ _ _ _ 11 _ _
  refine g_ast3 (by decide) dX9_drive_11 ?_
  refine g_ald3 dX9_drive_12 ?_
  refine g_ifnonnull (tgt := 18) dX9_drive_13 (by decide) ?_
  refine g_ild2 dX9_drive_18 ?_
  refine g_iconst (v := nI 0) dX9_drive_19 (by decide +kernel) ?_
  refine g_iconst (v := nI 5) dX9_drive_20 (by decide +kernel) ?_
  show Go _ _ _ _ _ _ 21 _ _
  refine g_callS3 (c_isFrom (h := h) (nI 4) (nI 0) (nI 5)) mw_2_133 ok_X9_isFrom ⟨by decide, by decide⟩ (by omega) (by omega) (Nat.le_of_ble_eq_true rfl) dX9_drive_21 (dI_K ?_)
  rw [if_pos (show nI 0 ≤ nI 4 ∧ nI 4 ≤ nI 5 by decide)]
  refine g_if_eq_f (tgt := 35) dX9_drive_24 (by decide) (by decide) ?_
  refine g_ald3 dX9_drive_27 ?_
  refine g_ild2 dX9_drive_28 ?_
  refine g_callV1 (c_dtell_4 (h := h) (23 + k) (lay_drive (by omega)) (by omega)) mw_2_177 ok_X0_tell ⟨by decide, by decide⟩ (by first | assumption | exact lay_item (by omega) | exact lay_drive (by omega) | exact lay_job (by omega) | rfl) (by omega) rfl (by omega) (by omega) (Nat.le_of_ble_eq_true rfl) dX9_drive_29 (dI_K ?_)
  refine g_goto (tgt := 37) dX9_drive_32 (by decide) ?_
  show Go _ _ _ _ _ _ 37 _ _
  exact g_iret rfl dX9_drive_37 ⟨rfl, rfl⟩
theorem c_drive_5 (k n : Nat) (hS : Sh h) (hn : h.1 2 3 = nI n) (hn9 : n ≤ 4) (hk : k < n) (g1 : Gd (h.2.1 (23 + k) 1)) (g2 : Gd (h.2.1 (23 + k) 2)) : Ct G mX9_drive [ga G 0, .int (nI k), .int (nI 5)] h 456 456 (dI (if (h.2.1 (23 + k) 2).toNat < (h.2.1 (23 + k) 1).toNat then nI 1 else nI 0) h) := by
  refine Ct.of rfl (by simp [Value.category, ga]) (Nat.le_of_ble_eq_true rfl) (Nat.le_refl _) ?_
  show Go _ _ _ _ _ _ _ [some (ga G 0), some (.int (nI k)), some (.int (nI 5)), none] []
  refine g_ald0 dX9_drive_0 ?_
  refine g_getQ fb_9_0 mw_2_95 (by first | assumption | exact lay_item (by omega) | exact lay_drive (by omega) | exact lay_job (by omega) | rfl) (by omega) (sh_now hS) dX9_drive_1 ?_
  refine g_getQ fb_6_0 mw_2_1 (by first | assumption | exact lay_item (by omega) | exact lay_drive (by omega) | exact lay_job (by omega) | rfl) (by omega) (sh_store hS) dX9_drive_4 ?_
  refine g_ild1 dX9_drive_7 ?_
  refine g_callV1 (c_driveAt (h := h) k n hS.1 hn hn9 hk) mw_2_173 ok_X7_driveAt ⟨by decide, by decide⟩ (by first | assumption | exact lay_item (by omega) | exact lay_drive (by omega) | exact lay_job (by omega) | rfl) (by omega) rfl (by omega) (by omega) (Nat.le_of_ble_eq_true rfl) dX9_drive_8 (dQ_K ?_)
  show Go _ _ _ _ _ _ 11 _ _
  refine g_ast3 (by decide) dX9_drive_11 ?_
  refine g_ald3 dX9_drive_12 ?_
  refine g_ifnonnull (tgt := 18) dX9_drive_13 (by decide) ?_
  refine g_ild2 dX9_drive_18 ?_
  refine g_iconst (v := nI 0) dX9_drive_19 (by decide +kernel) ?_
  refine g_iconst (v := nI 5) dX9_drive_20 (by decide +kernel) ?_
  show Go _ _ _ _ _ _ 21 _ _
  refine g_callS3 (c_isFrom (h := h) (nI 5) (nI 0) (nI 5)) mw_2_133 ok_X9_isFrom ⟨by decide, by decide⟩ (by omega) (by omega) (Nat.le_of_ble_eq_true rfl) dX9_drive_21 (dI_K ?_)
  rw [if_pos (show nI 0 ≤ nI 5 ∧ nI 5 ≤ nI 5 by decide)]
  refine g_if_eq_f (tgt := 35) dX9_drive_24 (by decide) (by decide) ?_
  refine g_ald3 dX9_drive_27 ?_
  refine g_ild2 dX9_drive_28 ?_
  refine g_callV1 (c_dtell_5 (h := h) (23 + k) (lay_drive (by omega)) (by omega) g1 g2) mw_2_177 ok_X0_tell ⟨by decide, by decide⟩ (by first | assumption | exact lay_item (by omega) | exact lay_drive (by omega) | exact lay_job (by omega) | rfl) (by omega) rfl (by omega) (by omega) (Nat.le_of_ble_eq_true rfl) dX9_drive_29 (dI_K ?_)
  refine g_goto (tgt := 37) dX9_drive_32 (by decide) ?_
  show Go _ _ _ _ _ _ 37 _ _
  exact g_iret rfl dX9_drive_37 ⟨rfl, rfl⟩
theorem c_dust (k n : Nat) (hS : Sh h) (hn : h.1 2 3 = nI n) (hn9 : n ≤ 4) (hk : k < n) : Ct G mX9_dust [ga G 0, .int (nI k)] h 456 456 (dF (h.2.1 (23 + k) 1) h) := by
  refine Ct.of rfl (by simp [Value.category, ga]) (Nat.le_of_ble_eq_true rfl) (Nat.le_refl _) ?_
  show Go _ _ _ _ _ _ _ [some (ga G 0), some (.int (nI k)), none] []
  refine g_ald0 dX9_dust_0 ?_
  refine g_getQ fb_9_0 mw_2_95 (by first | assumption | exact lay_item (by omega) | exact lay_drive (by omega) | exact lay_job (by omega) | rfl) (by omega) (sh_now hS) dX9_dust_1 ?_
  refine g_getQ fb_6_0 mw_2_1 (by first | assumption | exact lay_item (by omega) | exact lay_drive (by omega) | exact lay_job (by omega) | rfl) (by omega) (sh_store hS) dX9_dust_4 ?_
  refine g_ild1 dX9_dust_7 ?_
  refine g_callV1 (c_driveAt (h := h) k n hS.1 hn hn9 hk) mw_2_173 ok_X7_driveAt ⟨by decide, by decide⟩ (by first | assumption | exact lay_item (by omega) | exact lay_drive (by omega) | exact lay_job (by omega) | rfl) (by omega) rfl (by omega) (by omega) (Nat.le_of_ble_eq_true rfl) dX9_dust_8 (dQ_K ?_)
  show Go _ _ _ _ _ _ 11 _ _
  refine g_ast2 (by decide) dX9_dust_11 ?_
  refine g_ald2 dX9_dust_12 ?_
  refine g_ifnonnull (tgt := 22) dX9_dust_13 (by decide) ?_
  refine g_ald2 dX9_dust_22 ?_
  refine g_getF fb_0_1 mw_1_89 (by first | assumption | exact lay_item (by omega) | exact lay_drive (by omega) | exact lay_job (by omega) | rfl) (by omega) dX9_dust_23 ?_
  exact g_fret rfl dX9_dust_26 ⟨rfl, rfl⟩
theorem c_ceiling (k n : Nat) (hS : Sh h) (hn : h.1 2 3 = nI n) (hn9 : n ≤ 4) (hk : k < n) : Ct G mX9_ceiling [ga G 0, .int (nI k)] h 456 456 (dF (h.2.1 (23 + k) 2) h) := by
  refine Ct.of rfl (by simp [Value.category, ga]) (Nat.le_of_ble_eq_true rfl) (Nat.le_refl _) ?_
  show Go _ _ _ _ _ _ _ [some (ga G 0), some (.int (nI k)), none] []
  refine g_ald0 dX9_ceiling_0 ?_
  refine g_getQ fb_9_0 mw_2_95 (by first | assumption | exact lay_item (by omega) | exact lay_drive (by omega) | exact lay_job (by omega) | rfl) (by omega) (sh_now hS) dX9_ceiling_1 ?_
  refine g_getQ fb_6_0 mw_2_1 (by first | assumption | exact lay_item (by omega) | exact lay_drive (by omega) | exact lay_job (by omega) | rfl) (by omega) (sh_store hS) dX9_ceiling_4 ?_
  refine g_ild1 dX9_ceiling_7 ?_
  refine g_callV1 (c_driveAt (h := h) k n hS.1 hn hn9 hk) mw_2_173 ok_X7_driveAt ⟨by decide, by decide⟩ (by first | assumption | exact lay_item (by omega) | exact lay_drive (by omega) | exact lay_job (by omega) | rfl) (by omega) rfl (by omega) (by omega) (Nat.le_of_ble_eq_true rfl) dX9_ceiling_8 (dQ_K ?_)
  show Go _ _ _ _ _ _ 11 _ _
  refine g_ast2 (by decide) dX9_ceiling_11 ?_
  refine g_ald2 dX9_ceiling_12 ?_
  refine g_ifnonnull (tgt := 22) dX9_ceiling_13 (by decide) ?_
  refine g_ald2 dX9_ceiling_22 ?_
  refine g_getF fb_0_2 mw_1_91 (by first | assumption | exact lay_item (by omega) | exact lay_drive (by omega) | exact lay_job (by omega) | rfl) (by omega) dX9_ceiling_23 ?_
  exact g_fret rfl dX9_ceiling_26 ⟨rfl, rfl⟩
theorem c_meter_0 (hS : Sh h) : Ct G mX9_meter [ga G 0, .int (nI 0)] h 456 456 (dF (h.2.1 1 3) h) := by
  refine Ct.of rfl (by simp [Value.category, ga]) (Nat.le_of_ble_eq_true rfl) (Nat.le_refl _) ?_
  show Go _ _ _ _ _ _ _ [some (ga G 0), some (.int (nI 0))] []
  refine g_ild1 dX9_meter_0 ?_
  refine g_tabIn (tgt := 28) (off := 27) dX9_meter_1 (by decide +kernel) (by decide +kernel) (by decide +kernel) (by decide) ?_
  refine g_ald0 dX9_meter_28 ?_
  refine g_getQ fb_9_0 mw_2_95 (by first | assumption | exact lay_item (by omega) | exact lay_drive (by omega) | exact lay_job (by omega) | rfl) (by omega) (sh_now hS) dX9_meter_29 ?_
  refine g_getF fb_6_3 mw_2_6 (by first | assumption | exact lay_item (by omega) | exact lay_drive (by omega) | exact lay_job (by omega) | rfl) (by omega) dX9_meter_32 ?_
  show Go _ _ _ _ _ _ 35 _ _
  exact g_fret rfl dX9_meter_35 ⟨rfl, rfl⟩
theorem c_meter_1 (hS : Sh h) : Ct G mX9_meter [ga G 0, .int (nI 1)] h 456 456 (dF (h.2.1 1 4) h) := by
  refine Ct.of rfl (by simp [Value.category, ga]) (Nat.le_of_ble_eq_true rfl) (Nat.le_refl _) ?_
  show Go _ _ _ _ _ _ _ [some (ga G 0), some (.int (nI 1))] []
  refine g_ild1 dX9_meter_0 ?_
  refine g_tabIn (tgt := 36) (off := 35) dX9_meter_1 (by decide +kernel) (by decide +kernel) (by decide +kernel) (by decide) ?_
  refine g_ald0 dX9_meter_36 ?_
  refine g_getQ fb_9_0 mw_2_95 (by first | assumption | exact lay_item (by omega) | exact lay_drive (by omega) | exact lay_job (by omega) | rfl) (by omega) (sh_now hS) dX9_meter_37 ?_
  refine g_getF fb_6_4 mw_2_8 (by first | assumption | exact lay_item (by omega) | exact lay_drive (by omega) | exact lay_job (by omega) | rfl) (by omega) dX9_meter_40 ?_
  show Go _ _ _ _ _ _ 43 _ _
  exact g_fret rfl dX9_meter_43 ⟨rfl, rfl⟩
theorem c_job_n (x y : Int32) (n : Nat) (hS : Sh h) (hn : h.1 27 1 = nI n) (hx : x < 0 ∨ nI n ≤ x) : Ct G mX9_job [ga G 0, .int x, .int y] h 456 456 (dI (-1) h) := by
  refine Ct.of rfl (by simp [Value.category, ga]) (Nat.le_of_ble_eq_true rfl) (Nat.le_refl _) ?_
  show Go _ _ _ _ _ _ _ [some (ga G 0), some (.int x), some (.int y), none] []
  refine g_ald0 dX9_job_0 ?_
  refine g_getQ fb_9_0 mw_2_95 (by first | assumption | exact lay_item (by omega) | exact lay_drive (by omega) | exact lay_job (by omega) | rfl) (by omega) (sh_now hS) dX9_job_1 ?_
  refine g_getQ fb_6_1 mw_2_3 (by first | assumption | exact lay_item (by omega) | exact lay_drive (by omega) | exact lay_job (by omega) | rfl) (by omega) (sh_queue hS) dX9_job_4 ?_
  refine g_ild1 dX9_job_7 ?_
  refine g_callV1 (c_jobAt_n (h := h) x n hn hx) mw_2_215 ok_X5_jobAt ⟨by decide, by decide⟩ (by first | assumption | exact lay_item (by omega) | exact lay_drive (by omega) | exact lay_job (by omega) | rfl) (by omega) rfl (by omega) (by omega) (Nat.le_of_ble_eq_true rfl) dX9_job_8 (dQ_Kn ?_)
  show Go _ _ _ _ _ _ 11 _ _
  refine g_zst3 (by decide) dX9_job_11 ?_
  refine g_zld3 dX9_job_12 ?_
  refine g_ifnonnullN dX9_job_13 ?_
  refine g_iconst (v := -1) dX9_job_16 (by decide +kernel) ?_
  exact g_iret rfl dX9_job_17 ⟨rfl, rfl⟩
theorem c_job_12 (j n : Nat) (hS : Sh h) (hn : h.1 27 1 = nI n) (hn9 : n ≤ 30) (hj : j < n) : Ct G mX9_job [ga G 0, .int (nI j), .int (nI 12)] h 456 456 (dI (-2) h) := by
  refine Ct.of rfl (by simp [Value.category, ga]) (Nat.le_of_ble_eq_true rfl) (Nat.le_refl _) ?_
  show Go _ _ _ _ _ _ _ [some (ga G 0), some (.int (nI j)), some (.int (nI 12)), none] []
  refine g_ald0 dX9_job_0 ?_
  refine g_getQ fb_9_0 mw_2_95 (by first | assumption | exact lay_item (by omega) | exact lay_drive (by omega) | exact lay_job (by omega) | rfl) (by omega) (sh_now hS) dX9_job_1 ?_
  refine g_getQ fb_6_1 mw_2_3 (by first | assumption | exact lay_item (by omega) | exact lay_drive (by omega) | exact lay_job (by omega) | rfl) (by omega) (sh_queue hS) dX9_job_4 ?_
  refine g_ild1 dX9_job_7 ?_
  refine g_callV1 (c_jobAt (h := h) j n hS.1 hn hn9 hj) mw_2_215 ok_X5_jobAt ⟨by decide, by decide⟩ (by first | assumption | exact lay_item (by omega) | exact lay_drive (by omega) | exact lay_job (by omega) | rfl) (by omega) rfl (by omega) (by omega) (Nat.le_of_ble_eq_true rfl) dX9_job_8 (dQ_K ?_)
  show Go _ _ _ _ _ _ 11 _ _
  refine g_ast3 (by decide) dX9_job_11 ?_
  refine g_ald3 dX9_job_12 ?_
  refine g_ifnonnull (tgt := 18) dX9_job_13 (by decide) ?_
  refine g_ild2 dX9_job_18 ?_
  refine g_iconst (v := nI 0) dX9_job_19 (by decide +kernel) ?_
  refine g_bipush (v := nI 11) dX9_job_20 (by decide +kernel) ?_
  show Go _ _ _ _ _ _ 22 _ _
  refine g_callS3 (c_isFrom (h := h) (nI 12) (nI 0) (nI 11)) mw_2_133 ok_X9_isFrom ⟨by decide, by decide⟩ (by omega) (by omega) (Nat.le_of_ble_eq_true rfl) dX9_job_22 (dI_K ?_)
  rw [if_neg (by decide)]
  refine g_if_eq_t (tgt := 36) dX9_job_25 (by decide) (by decide) ?_
  refine g_bipush (v := -2) dX9_job_36 (by decide +kernel) ?_
  exact g_iret rfl dX9_job_38 ⟨rfl, rfl⟩
theorem c_job_0 (j n : Nat) (hS : Sh h) (hn : h.1 27 1 = nI n) (hn9 : n ≤ 30) (hj : j < n) : Ct G mX9_job [ga G 0, .int (nI j), .int (nI 0)] h 456 456 (dI (h.1 (29 + j) 0) h) := by
  refine Ct.of rfl (by simp [Value.category, ga]) (Nat.le_of_ble_eq_true rfl) (Nat.le_refl _) ?_
  show Go _ _ _ _ _ _ _ [some (ga G 0), some (.int (nI j)), some (.int (nI 0)), none] []
  refine g_ald0 dX9_job_0 ?_
  refine g_getQ fb_9_0 mw_2_95 (by first | assumption | exact lay_item (by omega) | exact lay_drive (by omega) | exact lay_job (by omega) | rfl) (by omega) (sh_now hS) dX9_job_1 ?_
  refine g_getQ fb_6_1 mw_2_3 (by first | assumption | exact lay_item (by omega) | exact lay_drive (by omega) | exact lay_job (by omega) | rfl) (by omega) (sh_queue hS) dX9_job_4 ?_
  refine g_ild1 dX9_job_7 ?_
  refine g_callV1 (c_jobAt (h := h) j n hS.1 hn hn9 hj) mw_2_215 ok_X5_jobAt ⟨by decide, by decide⟩ (by first | assumption | exact lay_item (by omega) | exact lay_drive (by omega) | exact lay_job (by omega) | rfl) (by omega) rfl (by omega) (by omega) (Nat.le_of_ble_eq_true rfl) dX9_job_8 (dQ_K ?_)
  show Go _ _ _ _ _ _ 11 _ _
  refine g_ast3 (by decide) dX9_job_11 ?_
  refine g_ald3 dX9_job_12 ?_
  refine g_ifnonnull (tgt := 18) dX9_job_13 (by decide) ?_
  refine g_ild2 dX9_job_18 ?_
  refine g_iconst (v := nI 0) dX9_job_19 (by decide +kernel) ?_
  refine g_bipush (v := nI 11) dX9_job_20 (by decide +kernel) ?_
  show Go _ _ _ _ _ _ 22 _ _
  refine g_callS3 (c_isFrom (h := h) (nI 0) (nI 0) (nI 11)) mw_2_133 ok_X9_isFrom ⟨by decide, by decide⟩ (by omega) (by omega) (Nat.le_of_ble_eq_true rfl) dX9_job_22 (dI_K ?_)
  rw [if_pos (show nI 0 ≤ nI 0 ∧ nI 0 ≤ nI 11 by decide)]
  refine g_if_eq_f (tgt := 36) dX9_job_25 (by decide) (by decide) ?_
  refine g_ald3 dX9_job_28 ?_
  refine g_ild2 dX9_job_29 ?_
  refine g_callV1 (c_jtell_0 (h := h) (29 + j) (lay_job (by omega)) (by omega)) mw_2_219 ok_X3_tell ⟨by decide, by decide⟩ (by first | assumption | exact lay_item (by omega) | exact lay_drive (by omega) | exact lay_job (by omega) | rfl) (by omega) rfl (by omega) (by omega) (Nat.le_of_ble_eq_true rfl) dX9_job_30 (dI_K ?_)
  refine g_goto (tgt := 38) dX9_job_33 (by decide) ?_
  show Go _ _ _ _ _ _ 38 _ _
  exact g_iret rfl dX9_job_38 ⟨rfl, rfl⟩
theorem c_job_1 (j n : Nat) (hS : Sh h) (hn : h.1 27 1 = nI n) (hn9 : n ≤ 30) (hj : j < n) : Ct G mX9_job [ga G 0, .int (nI j), .int (nI 1)] h 456 456 (dI (h.1 (29 + j) 1) h) := by
  refine Ct.of rfl (by simp [Value.category, ga]) (Nat.le_of_ble_eq_true rfl) (Nat.le_refl _) ?_
  show Go _ _ _ _ _ _ _ [some (ga G 0), some (.int (nI j)), some (.int (nI 1)), none] []
  refine g_ald0 dX9_job_0 ?_
  refine g_getQ fb_9_0 mw_2_95 (by first | assumption | exact lay_item (by omega) | exact lay_drive (by omega) | exact lay_job (by omega) | rfl) (by omega) (sh_now hS) dX9_job_1 ?_
  refine g_getQ fb_6_1 mw_2_3 (by first | assumption | exact lay_item (by omega) | exact lay_drive (by omega) | exact lay_job (by omega) | rfl) (by omega) (sh_queue hS) dX9_job_4 ?_
  refine g_ild1 dX9_job_7 ?_
  refine g_callV1 (c_jobAt (h := h) j n hS.1 hn hn9 hj) mw_2_215 ok_X5_jobAt ⟨by decide, by decide⟩ (by first | assumption | exact lay_item (by omega) | exact lay_drive (by omega) | exact lay_job (by omega) | rfl) (by omega) rfl (by omega) (by omega) (Nat.le_of_ble_eq_true rfl) dX9_job_8 (dQ_K ?_)
  show Go _ _ _ _ _ _ 11 _ _
  refine g_ast3 (by decide) dX9_job_11 ?_
  refine g_ald3 dX9_job_12 ?_
  refine g_ifnonnull (tgt := 18) dX9_job_13 (by decide) ?_
  refine g_ild2 dX9_job_18 ?_
  refine g_iconst (v := nI 0) dX9_job_19 (by decide +kernel) ?_
  refine g_bipush (v := nI 11) dX9_job_20 (by decide +kernel) ?_
  show Go _ _ _ _ _ _ 22 _ _
  refine g_callS3 (c_isFrom (h := h) (nI 1) (nI 0) (nI 11)) mw_2_133 ok_X9_isFrom ⟨by decide, by decide⟩ (by omega) (by omega) (Nat.le_of_ble_eq_true rfl) dX9_job_22 (dI_K ?_)
  rw [if_pos (show nI 0 ≤ nI 1 ∧ nI 1 ≤ nI 11 by decide)]
  refine g_if_eq_f (tgt := 36) dX9_job_25 (by decide) (by decide) ?_
  refine g_ald3 dX9_job_28 ?_
  refine g_ild2 dX9_job_29 ?_
  refine g_callV1 (c_jtell_1 (h := h) (29 + j) (lay_job (by omega)) (by omega)) mw_2_219 ok_X3_tell ⟨by decide, by decide⟩ (by first | assumption | exact lay_item (by omega) | exact lay_drive (by omega) | exact lay_job (by omega) | rfl) (by omega) rfl (by omega) (by omega) (Nat.le_of_ble_eq_true rfl) dX9_job_30 (dI_K ?_)
  refine g_goto (tgt := 38) dX9_job_33 (by decide) ?_
  show Go _ _ _ _ _ _ 38 _ _
  exact g_iret rfl dX9_job_38 ⟨rfl, rfl⟩
theorem c_job_2 (j n : Nat) (hS : Sh h) (hn : h.1 27 1 = nI n) (hn9 : n ≤ 30) (hj : j < n) : Ct G mX9_job [ga G 0, .int (nI j), .int (nI 2)] h 456 456 (dI (h.1 (29 + j) 2) h) := by
  refine Ct.of rfl (by simp [Value.category, ga]) (Nat.le_of_ble_eq_true rfl) (Nat.le_refl _) ?_
  show Go _ _ _ _ _ _ _ [some (ga G 0), some (.int (nI j)), some (.int (nI 2)), none] []
  refine g_ald0 dX9_job_0 ?_
  refine g_getQ fb_9_0 mw_2_95 (by first | assumption | exact lay_item (by omega) | exact lay_drive (by omega) | exact lay_job (by omega) | rfl) (by omega) (sh_now hS) dX9_job_1 ?_
  refine g_getQ fb_6_1 mw_2_3 (by first | assumption | exact lay_item (by omega) | exact lay_drive (by omega) | exact lay_job (by omega) | rfl) (by omega) (sh_queue hS) dX9_job_4 ?_
  refine g_ild1 dX9_job_7 ?_
  refine g_callV1 (c_jobAt (h := h) j n hS.1 hn hn9 hj) mw_2_215 ok_X5_jobAt ⟨by decide, by decide⟩ (by first | assumption | exact lay_item (by omega) | exact lay_drive (by omega) | exact lay_job (by omega) | rfl) (by omega) rfl (by omega) (by omega) (Nat.le_of_ble_eq_true rfl) dX9_job_8 (dQ_K ?_)
  show Go _ _ _ _ _ _ 11 _ _
  refine g_ast3 (by decide) dX9_job_11 ?_
  refine g_ald3 dX9_job_12 ?_
  refine g_ifnonnull (tgt := 18) dX9_job_13 (by decide) ?_
  refine g_ild2 dX9_job_18 ?_
  refine g_iconst (v := nI 0) dX9_job_19 (by decide +kernel) ?_
  refine g_bipush (v := nI 11) dX9_job_20 (by decide +kernel) ?_
  show Go _ _ _ _ _ _ 22 _ _
  refine g_callS3 (c_isFrom (h := h) (nI 2) (nI 0) (nI 11)) mw_2_133 ok_X9_isFrom ⟨by decide, by decide⟩ (by omega) (by omega) (Nat.le_of_ble_eq_true rfl) dX9_job_22 (dI_K ?_)
  rw [if_pos (show nI 0 ≤ nI 2 ∧ nI 2 ≤ nI 11 by decide)]
  refine g_if_eq_f (tgt := 36) dX9_job_25 (by decide) (by decide) ?_
  refine g_ald3 dX9_job_28 ?_
  refine g_ild2 dX9_job_29 ?_
  refine g_callV1 (c_jtell_2 (h := h) (29 + j) (lay_job (by omega)) (by omega)) mw_2_219 ok_X3_tell ⟨by decide, by decide⟩ (by first | assumption | exact lay_item (by omega) | exact lay_drive (by omega) | exact lay_job (by omega) | rfl) (by omega) rfl (by omega) (by omega) (Nat.le_of_ble_eq_true rfl) dX9_job_30 (dI_K ?_)
  refine g_goto (tgt := 38) dX9_job_33 (by decide) ?_
  show Go _ _ _ _ _ _ 38 _ _
  exact g_iret rfl dX9_job_38 ⟨rfl, rfl⟩
theorem c_job_3 (j n : Nat) (hS : Sh h) (hn : h.1 27 1 = nI n) (hn9 : n ≤ 30) (hj : j < n) : Ct G mX9_job [ga G 0, .int (nI j), .int (nI 3)] h 456 456 (dI (h.1 (29 + j) 3) h) := by
  refine Ct.of rfl (by simp [Value.category, ga]) (Nat.le_of_ble_eq_true rfl) (Nat.le_refl _) ?_
  show Go _ _ _ _ _ _ _ [some (ga G 0), some (.int (nI j)), some (.int (nI 3)), none] []
  refine g_ald0 dX9_job_0 ?_
  refine g_getQ fb_9_0 mw_2_95 (by first | assumption | exact lay_item (by omega) | exact lay_drive (by omega) | exact lay_job (by omega) | rfl) (by omega) (sh_now hS) dX9_job_1 ?_
  refine g_getQ fb_6_1 mw_2_3 (by first | assumption | exact lay_item (by omega) | exact lay_drive (by omega) | exact lay_job (by omega) | rfl) (by omega) (sh_queue hS) dX9_job_4 ?_
  refine g_ild1 dX9_job_7 ?_
  refine g_callV1 (c_jobAt (h := h) j n hS.1 hn hn9 hj) mw_2_215 ok_X5_jobAt ⟨by decide, by decide⟩ (by first | assumption | exact lay_item (by omega) | exact lay_drive (by omega) | exact lay_job (by omega) | rfl) (by omega) rfl (by omega) (by omega) (Nat.le_of_ble_eq_true rfl) dX9_job_8 (dQ_K ?_)
  show Go _ _ _ _ _ _ 11 _ _
  refine g_ast3 (by decide) dX9_job_11 ?_
  refine g_ald3 dX9_job_12 ?_
  refine g_ifnonnull (tgt := 18) dX9_job_13 (by decide) ?_
  refine g_ild2 dX9_job_18 ?_
  refine g_iconst (v := nI 0) dX9_job_19 (by decide +kernel) ?_
  refine g_bipush (v := nI 11) dX9_job_20 (by decide +kernel) ?_
  show Go _ _ _ _ _ _ 22 _ _
  refine g_callS3 (c_isFrom (h := h) (nI 3) (nI 0) (nI 11)) mw_2_133 ok_X9_isFrom ⟨by decide, by decide⟩ (by omega) (by omega) (Nat.le_of_ble_eq_true rfl) dX9_job_22 (dI_K ?_)
  rw [if_pos (show nI 0 ≤ nI 3 ∧ nI 3 ≤ nI 11 by decide)]
  refine g_if_eq_f (tgt := 36) dX9_job_25 (by decide) (by decide) ?_
  refine g_ald3 dX9_job_28 ?_
  refine g_ild2 dX9_job_29 ?_
  refine g_callV1 (c_jtell_3 (h := h) (29 + j) (lay_job (by omega)) (by omega)) mw_2_219 ok_X3_tell ⟨by decide, by decide⟩ (by first | assumption | exact lay_item (by omega) | exact lay_drive (by omega) | exact lay_job (by omega) | rfl) (by omega) rfl (by omega) (by omega) (Nat.le_of_ble_eq_true rfl) dX9_job_30 (dI_K ?_)
  refine g_goto (tgt := 38) dX9_job_33 (by decide) ?_
  show Go _ _ _ _ _ _ 38 _ _
  exact g_iret rfl dX9_job_38 ⟨rfl, rfl⟩
theorem c_job_4 (j n : Nat) (hS : Sh h) (hn : h.1 27 1 = nI n) (hn9 : n ≤ 30) (hj : j < n) : Ct G mX9_job [ga G 0, .int (nI j), .int (nI 4)] h 456 456 (dI (h.1 (29 + j) 4) h) := by
  refine Ct.of rfl (by simp [Value.category, ga]) (Nat.le_of_ble_eq_true rfl) (Nat.le_refl _) ?_
  show Go _ _ _ _ _ _ _ [some (ga G 0), some (.int (nI j)), some (.int (nI 4)), none] []
  refine g_ald0 dX9_job_0 ?_
  refine g_getQ fb_9_0 mw_2_95 (by first | assumption | exact lay_item (by omega) | exact lay_drive (by omega) | exact lay_job (by omega) | rfl) (by omega) (sh_now hS) dX9_job_1 ?_
  refine g_getQ fb_6_1 mw_2_3 (by first | assumption | exact lay_item (by omega) | exact lay_drive (by omega) | exact lay_job (by omega) | rfl) (by omega) (sh_queue hS) dX9_job_4 ?_
  refine g_ild1 dX9_job_7 ?_
  refine g_callV1 (c_jobAt (h := h) j n hS.1 hn hn9 hj) mw_2_215 ok_X5_jobAt ⟨by decide, by decide⟩ (by first | assumption | exact lay_item (by omega) | exact lay_drive (by omega) | exact lay_job (by omega) | rfl) (by omega) rfl (by omega) (by omega) (Nat.le_of_ble_eq_true rfl) dX9_job_8 (dQ_K ?_)
  show Go _ _ _ _ _ _ 11 _ _
  refine g_ast3 (by decide) dX9_job_11 ?_
  refine g_ald3 dX9_job_12 ?_
  refine g_ifnonnull (tgt := 18) dX9_job_13 (by decide) ?_
  refine g_ild2 dX9_job_18 ?_
  refine g_iconst (v := nI 0) dX9_job_19 (by decide +kernel) ?_
  refine g_bipush (v := nI 11) dX9_job_20 (by decide +kernel) ?_
  show Go _ _ _ _ _ _ 22 _ _
  refine g_callS3 (c_isFrom (h := h) (nI 4) (nI 0) (nI 11)) mw_2_133 ok_X9_isFrom ⟨by decide, by decide⟩ (by omega) (by omega) (Nat.le_of_ble_eq_true rfl) dX9_job_22 (dI_K ?_)
  rw [if_pos (show nI 0 ≤ nI 4 ∧ nI 4 ≤ nI 11 by decide)]
  refine g_if_eq_f (tgt := 36) dX9_job_25 (by decide) (by decide) ?_
  refine g_ald3 dX9_job_28 ?_
  refine g_ild2 dX9_job_29 ?_
  refine g_callV1 (c_jtell_4 (h := h) (29 + j) (lay_job (by omega)) (by omega)) mw_2_219 ok_X3_tell ⟨by decide, by decide⟩ (by first | assumption | exact lay_item (by omega) | exact lay_drive (by omega) | exact lay_job (by omega) | rfl) (by omega) rfl (by omega) (by omega) (Nat.le_of_ble_eq_true rfl) dX9_job_30 (dI_K ?_)
  refine g_goto (tgt := 38) dX9_job_33 (by decide) ?_
  show Go _ _ _ _ _ _ 38 _ _
  exact g_iret rfl dX9_job_38 ⟨rfl, rfl⟩
theorem c_job_5 (j n : Nat) (hS : Sh h) (hn : h.1 27 1 = nI n) (hn9 : n ≤ 30) (hj : j < n) : Ct G mX9_job [ga G 0, .int (nI j), .int (nI 5)] h 456 456 (dI (h.1 (29 + j) 5) h) := by
  refine Ct.of rfl (by simp [Value.category, ga]) (Nat.le_of_ble_eq_true rfl) (Nat.le_refl _) ?_
  show Go _ _ _ _ _ _ _ [some (ga G 0), some (.int (nI j)), some (.int (nI 5)), none] []
  refine g_ald0 dX9_job_0 ?_
  refine g_getQ fb_9_0 mw_2_95 (by first | assumption | exact lay_item (by omega) | exact lay_drive (by omega) | exact lay_job (by omega) | rfl) (by omega) (sh_now hS) dX9_job_1 ?_
  refine g_getQ fb_6_1 mw_2_3 (by first | assumption | exact lay_item (by omega) | exact lay_drive (by omega) | exact lay_job (by omega) | rfl) (by omega) (sh_queue hS) dX9_job_4 ?_
  refine g_ild1 dX9_job_7 ?_
  refine g_callV1 (c_jobAt (h := h) j n hS.1 hn hn9 hj) mw_2_215 ok_X5_jobAt ⟨by decide, by decide⟩ (by first | assumption | exact lay_item (by omega) | exact lay_drive (by omega) | exact lay_job (by omega) | rfl) (by omega) rfl (by omega) (by omega) (Nat.le_of_ble_eq_true rfl) dX9_job_8 (dQ_K ?_)
  show Go _ _ _ _ _ _ 11 _ _
  refine g_ast3 (by decide) dX9_job_11 ?_
  refine g_ald3 dX9_job_12 ?_
  refine g_ifnonnull (tgt := 18) dX9_job_13 (by decide) ?_
  refine g_ild2 dX9_job_18 ?_
  refine g_iconst (v := nI 0) dX9_job_19 (by decide +kernel) ?_
  refine g_bipush (v := nI 11) dX9_job_20 (by decide +kernel) ?_
  show Go _ _ _ _ _ _ 22 _ _
  refine g_callS3 (c_isFrom (h := h) (nI 5) (nI 0) (nI 11)) mw_2_133 ok_X9_isFrom ⟨by decide, by decide⟩ (by omega) (by omega) (Nat.le_of_ble_eq_true rfl) dX9_job_22 (dI_K ?_)
  rw [if_pos (show nI 0 ≤ nI 5 ∧ nI 5 ≤ nI 11 by decide)]
  refine g_if_eq_f (tgt := 36) dX9_job_25 (by decide) (by decide) ?_
  refine g_ald3 dX9_job_28 ?_
  refine g_ild2 dX9_job_29 ?_
  refine g_callV1 (c_jtell_5 (h := h) (29 + j) (lay_job (by omega)) (by omega)) mw_2_219 ok_X3_tell ⟨by decide, by decide⟩ (by first | assumption | exact lay_item (by omega) | exact lay_drive (by omega) | exact lay_job (by omega) | rfl) (by omega) rfl (by omega) (by omega) (Nat.le_of_ble_eq_true rfl) dX9_job_30 (dI_K ?_)
  refine g_goto (tgt := 38) dX9_job_33 (by decide) ?_
  show Go _ _ _ _ _ _ 38 _ _
  exact g_iret rfl dX9_job_38 ⟨rfl, rfl⟩
theorem c_job_6 (j n : Nat) (hS : Sh h) (hn : h.1 27 1 = nI n) (hn9 : n ≤ 30) (hj : j < n) : Ct G mX9_job [ga G 0, .int (nI j), .int (nI 6)] h 456 456 (dI (if h.1 (29 + j) 3 = 1 then h.1 (29 + j) 6 else -5) h) := by
  refine Ct.of rfl (by simp [Value.category, ga]) (Nat.le_of_ble_eq_true rfl) (Nat.le_refl _) ?_
  show Go _ _ _ _ _ _ _ [some (ga G 0), some (.int (nI j)), some (.int (nI 6)), none] []
  refine g_ald0 dX9_job_0 ?_
  refine g_getQ fb_9_0 mw_2_95 (by first | assumption | exact lay_item (by omega) | exact lay_drive (by omega) | exact lay_job (by omega) | rfl) (by omega) (sh_now hS) dX9_job_1 ?_
  refine g_getQ fb_6_1 mw_2_3 (by first | assumption | exact lay_item (by omega) | exact lay_drive (by omega) | exact lay_job (by omega) | rfl) (by omega) (sh_queue hS) dX9_job_4 ?_
  refine g_ild1 dX9_job_7 ?_
  refine g_callV1 (c_jobAt (h := h) j n hS.1 hn hn9 hj) mw_2_215 ok_X5_jobAt ⟨by decide, by decide⟩ (by first | assumption | exact lay_item (by omega) | exact lay_drive (by omega) | exact lay_job (by omega) | rfl) (by omega) rfl (by omega) (by omega) (Nat.le_of_ble_eq_true rfl) dX9_job_8 (dQ_K ?_)
  show Go _ _ _ _ _ _ 11 _ _
  refine g_ast3 (by decide) dX9_job_11 ?_
  refine g_ald3 dX9_job_12 ?_
  refine g_ifnonnull (tgt := 18) dX9_job_13 (by decide) ?_
  refine g_ild2 dX9_job_18 ?_
  refine g_iconst (v := nI 0) dX9_job_19 (by decide +kernel) ?_
  refine g_bipush (v := nI 11) dX9_job_20 (by decide +kernel) ?_
  show Go _ _ _ _ _ _ 22 _ _
  refine g_callS3 (c_isFrom (h := h) (nI 6) (nI 0) (nI 11)) mw_2_133 ok_X9_isFrom ⟨by decide, by decide⟩ (by omega) (by omega) (Nat.le_of_ble_eq_true rfl) dX9_job_22 (dI_K ?_)
  rw [if_pos (show nI 0 ≤ nI 6 ∧ nI 6 ≤ nI 11 by decide)]
  refine g_if_eq_f (tgt := 36) dX9_job_25 (by decide) (by decide) ?_
  refine g_ald3 dX9_job_28 ?_
  refine g_ild2 dX9_job_29 ?_
  refine g_callV1 (c_jtell_6 (h := h) (29 + j) (lay_job (by omega)) (by omega)) mw_2_219 ok_X3_tell ⟨by decide, by decide⟩ (by first | assumption | exact lay_item (by omega) | exact lay_drive (by omega) | exact lay_job (by omega) | rfl) (by omega) rfl (by omega) (by omega) (Nat.le_of_ble_eq_true rfl) dX9_job_30 (dI_K ?_)
  refine g_goto (tgt := 38) dX9_job_33 (by decide) ?_
  show Go _ _ _ _ _ _ 38 _ _
  exact g_iret rfl dX9_job_38 ⟨rfl, rfl⟩
theorem c_job_7 (j n : Nat) (hS : Sh h) (hn : h.1 27 1 = nI n) (hn9 : n ≤ 30) (hj : j < n) : Ct G mX9_job [ga G 0, .int (nI j), .int (nI 7)] h 456 456 (dI (h.1 (29 + j) 7) h) := by
  refine Ct.of rfl (by simp [Value.category, ga]) (Nat.le_of_ble_eq_true rfl) (Nat.le_refl _) ?_
  show Go _ _ _ _ _ _ _ [some (ga G 0), some (.int (nI j)), some (.int (nI 7)), none] []
  refine g_ald0 dX9_job_0 ?_
  refine g_getQ fb_9_0 mw_2_95 (by first | assumption | exact lay_item (by omega) | exact lay_drive (by omega) | exact lay_job (by omega) | rfl) (by omega) (sh_now hS) dX9_job_1 ?_
  refine g_getQ fb_6_1 mw_2_3 (by first | assumption | exact lay_item (by omega) | exact lay_drive (by omega) | exact lay_job (by omega) | rfl) (by omega) (sh_queue hS) dX9_job_4 ?_
  refine g_ild1 dX9_job_7 ?_
  refine g_callV1 (c_jobAt (h := h) j n hS.1 hn hn9 hj) mw_2_215 ok_X5_jobAt ⟨by decide, by decide⟩ (by first | assumption | exact lay_item (by omega) | exact lay_drive (by omega) | exact lay_job (by omega) | rfl) (by omega) rfl (by omega) (by omega) (Nat.le_of_ble_eq_true rfl) dX9_job_8 (dQ_K ?_)
  show Go _ _ _ _ _ _ 11 _ _
  refine g_ast3 (by decide) dX9_job_11 ?_
  refine g_ald3 dX9_job_12 ?_
  refine g_ifnonnull (tgt := 18) dX9_job_13 (by decide) ?_
  refine g_ild2 dX9_job_18 ?_
  refine g_iconst (v := nI 0) dX9_job_19 (by decide +kernel) ?_
  refine g_bipush (v := nI 11) dX9_job_20 (by decide +kernel) ?_
  show Go _ _ _ _ _ _ 22 _ _
  refine g_callS3 (c_isFrom (h := h) (nI 7) (nI 0) (nI 11)) mw_2_133 ok_X9_isFrom ⟨by decide, by decide⟩ (by omega) (by omega) (Nat.le_of_ble_eq_true rfl) dX9_job_22 (dI_K ?_)
  rw [if_pos (show nI 0 ≤ nI 7 ∧ nI 7 ≤ nI 11 by decide)]
  refine g_if_eq_f (tgt := 36) dX9_job_25 (by decide) (by decide) ?_
  refine g_ald3 dX9_job_28 ?_
  refine g_ild2 dX9_job_29 ?_
  refine g_callV1 (c_jtell_7 (h := h) (29 + j) (lay_job (by omega)) (by omega)) mw_2_219 ok_X3_tell ⟨by decide, by decide⟩ (by first | assumption | exact lay_item (by omega) | exact lay_drive (by omega) | exact lay_job (by omega) | rfl) (by omega) rfl (by omega) (by omega) (Nat.le_of_ble_eq_true rfl) dX9_job_30 (dI_K ?_)
  refine g_goto (tgt := 38) dX9_job_33 (by decide) ?_
  show Go _ _ _ _ _ _ 38 _ _
  exact g_iret rfl dX9_job_38 ⟨rfl, rfl⟩
theorem c_job_8 (j n : Nat) (hS : Sh h) (hn : h.1 27 1 = nI n) (hn9 : n ≤ 30) (hj : j < n) : Ct G mX9_job [ga G 0, .int (nI j), .int (nI 8)] h 456 456 (dI (h.1 (29 + j) 8) h) := by
  refine Ct.of rfl (by simp [Value.category, ga]) (Nat.le_of_ble_eq_true rfl) (Nat.le_refl _) ?_
  show Go _ _ _ _ _ _ _ [some (ga G 0), some (.int (nI j)), some (.int (nI 8)), none] []
  refine g_ald0 dX9_job_0 ?_
  refine g_getQ fb_9_0 mw_2_95 (by first | assumption | exact lay_item (by omega) | exact lay_drive (by omega) | exact lay_job (by omega) | rfl) (by omega) (sh_now hS) dX9_job_1 ?_
  refine g_getQ fb_6_1 mw_2_3 (by first | assumption | exact lay_item (by omega) | exact lay_drive (by omega) | exact lay_job (by omega) | rfl) (by omega) (sh_queue hS) dX9_job_4 ?_
  refine g_ild1 dX9_job_7 ?_
  refine g_callV1 (c_jobAt (h := h) j n hS.1 hn hn9 hj) mw_2_215 ok_X5_jobAt ⟨by decide, by decide⟩ (by first | assumption | exact lay_item (by omega) | exact lay_drive (by omega) | exact lay_job (by omega) | rfl) (by omega) rfl (by omega) (by omega) (Nat.le_of_ble_eq_true rfl) dX9_job_8 (dQ_K ?_)
  show Go _ _ _ _ _ _ 11 _ _
  refine g_ast3 (by decide) dX9_job_11 ?_
  refine g_ald3 dX9_job_12 ?_
  refine g_ifnonnull (tgt := 18) dX9_job_13 (by decide) ?_
  refine g_ild2 dX9_job_18 ?_
  refine g_iconst (v := nI 0) dX9_job_19 (by decide +kernel) ?_
  refine g_bipush (v := nI 11) dX9_job_20 (by decide +kernel) ?_
  show Go _ _ _ _ _ _ 22 _ _
  refine g_callS3 (c_isFrom (h := h) (nI 8) (nI 0) (nI 11)) mw_2_133 ok_X9_isFrom ⟨by decide, by decide⟩ (by omega) (by omega) (Nat.le_of_ble_eq_true rfl) dX9_job_22 (dI_K ?_)
  rw [if_pos (show nI 0 ≤ nI 8 ∧ nI 8 ≤ nI 11 by decide)]
  refine g_if_eq_f (tgt := 36) dX9_job_25 (by decide) (by decide) ?_
  refine g_ald3 dX9_job_28 ?_
  refine g_ild2 dX9_job_29 ?_
  refine g_callV1 (c_jtell_8 (h := h) (29 + j) (lay_job (by omega)) (by omega)) mw_2_219 ok_X3_tell ⟨by decide, by decide⟩ (by first | assumption | exact lay_item (by omega) | exact lay_drive (by omega) | exact lay_job (by omega) | rfl) (by omega) rfl (by omega) (by omega) (Nat.le_of_ble_eq_true rfl) dX9_job_30 (dI_K ?_)
  refine g_goto (tgt := 38) dX9_job_33 (by decide) ?_
  show Go _ _ _ _ _ _ 38 _ _
  exact g_iret rfl dX9_job_38 ⟨rfl, rfl⟩
theorem c_job_9 (j n : Nat) (hS : Sh h) (hn : h.1 27 1 = nI n) (hn9 : n ≤ 30) (hj : j < n) : Ct G mX9_job [ga G 0, .int (nI j), .int (nI 9)] h 456 456 (dI (h.1 (29 + j) 9) h) := by
  refine Ct.of rfl (by simp [Value.category, ga]) (Nat.le_of_ble_eq_true rfl) (Nat.le_refl _) ?_
  show Go _ _ _ _ _ _ _ [some (ga G 0), some (.int (nI j)), some (.int (nI 9)), none] []
  refine g_ald0 dX9_job_0 ?_
  refine g_getQ fb_9_0 mw_2_95 (by first | assumption | exact lay_item (by omega) | exact lay_drive (by omega) | exact lay_job (by omega) | rfl) (by omega) (sh_now hS) dX9_job_1 ?_
  refine g_getQ fb_6_1 mw_2_3 (by first | assumption | exact lay_item (by omega) | exact lay_drive (by omega) | exact lay_job (by omega) | rfl) (by omega) (sh_queue hS) dX9_job_4 ?_
  refine g_ild1 dX9_job_7 ?_
  refine g_callV1 (c_jobAt (h := h) j n hS.1 hn hn9 hj) mw_2_215 ok_X5_jobAt ⟨by decide, by decide⟩ (by first | assumption | exact lay_item (by omega) | exact lay_drive (by omega) | exact lay_job (by omega) | rfl) (by omega) rfl (by omega) (by omega) (Nat.le_of_ble_eq_true rfl) dX9_job_8 (dQ_K ?_)
  show Go _ _ _ _ _ _ 11 _ _
  refine g_ast3 (by decide) dX9_job_11 ?_
  refine g_ald3 dX9_job_12 ?_
  refine g_ifnonnull (tgt := 18) dX9_job_13 (by decide) ?_
  refine g_ild2 dX9_job_18 ?_
  refine g_iconst (v := nI 0) dX9_job_19 (by decide +kernel) ?_
  refine g_bipush (v := nI 11) dX9_job_20 (by decide +kernel) ?_
  show Go _ _ _ _ _ _ 22 _ _
  refine g_callS3 (c_isFrom (h := h) (nI 9) (nI 0) (nI 11)) mw_2_133 ok_X9_isFrom ⟨by decide, by decide⟩ (by omega) (by omega) (Nat.le_of_ble_eq_true rfl) dX9_job_22 (dI_K ?_)
  rw [if_pos (show nI 0 ≤ nI 9 ∧ nI 9 ≤ nI 11 by decide)]
  refine g_if_eq_f (tgt := 36) dX9_job_25 (by decide) (by decide) ?_
  refine g_ald3 dX9_job_28 ?_
  refine g_ild2 dX9_job_29 ?_
  refine g_callV1 (c_jtell_9 (h := h) (29 + j) (lay_job (by omega)) (by omega)) mw_2_219 ok_X3_tell ⟨by decide, by decide⟩ (by first | assumption | exact lay_item (by omega) | exact lay_drive (by omega) | exact lay_job (by omega) | rfl) (by omega) rfl (by omega) (by omega) (Nat.le_of_ble_eq_true rfl) dX9_job_30 (dI_K ?_)
  refine g_goto (tgt := 38) dX9_job_33 (by decide) ?_
  show Go _ _ _ _ _ _ 38 _ _
  exact g_iret rfl dX9_job_38 ⟨rfl, rfl⟩
theorem c_job_10 (j n : Nat) (hS : Sh h) (hn : h.1 27 1 = nI n) (hn9 : n ≤ 30) (hj : j < n) : Ct G mX9_job [ga G 0, .int (nI j), .int (nI 10)] h 456 456 (dI (h.1 (29 + j) 10) h) := by
  refine Ct.of rfl (by simp [Value.category, ga]) (Nat.le_of_ble_eq_true rfl) (Nat.le_refl _) ?_
  show Go _ _ _ _ _ _ _ [some (ga G 0), some (.int (nI j)), some (.int (nI 10)), none] []
  refine g_ald0 dX9_job_0 ?_
  refine g_getQ fb_9_0 mw_2_95 (by first | assumption | exact lay_item (by omega) | exact lay_drive (by omega) | exact lay_job (by omega) | rfl) (by omega) (sh_now hS) dX9_job_1 ?_
  refine g_getQ fb_6_1 mw_2_3 (by first | assumption | exact lay_item (by omega) | exact lay_drive (by omega) | exact lay_job (by omega) | rfl) (by omega) (sh_queue hS) dX9_job_4 ?_
  refine g_ild1 dX9_job_7 ?_
  refine g_callV1 (c_jobAt (h := h) j n hS.1 hn hn9 hj) mw_2_215 ok_X5_jobAt ⟨by decide, by decide⟩ (by first | assumption | exact lay_item (by omega) | exact lay_drive (by omega) | exact lay_job (by omega) | rfl) (by omega) rfl (by omega) (by omega) (Nat.le_of_ble_eq_true rfl) dX9_job_8 (dQ_K ?_)
  show Go _ _ _ _ _ _ 11 _ _
  refine g_ast3 (by decide) dX9_job_11 ?_
  refine g_ald3 dX9_job_12 ?_
  refine g_ifnonnull (tgt := 18) dX9_job_13 (by decide) ?_
  refine g_ild2 dX9_job_18 ?_
  refine g_iconst (v := nI 0) dX9_job_19 (by decide +kernel) ?_
  refine g_bipush (v := nI 11) dX9_job_20 (by decide +kernel) ?_
  show Go _ _ _ _ _ _ 22 _ _
  refine g_callS3 (c_isFrom (h := h) (nI 10) (nI 0) (nI 11)) mw_2_133 ok_X9_isFrom ⟨by decide, by decide⟩ (by omega) (by omega) (Nat.le_of_ble_eq_true rfl) dX9_job_22 (dI_K ?_)
  rw [if_pos (show nI 0 ≤ nI 10 ∧ nI 10 ≤ nI 11 by decide)]
  refine g_if_eq_f (tgt := 36) dX9_job_25 (by decide) (by decide) ?_
  refine g_ald3 dX9_job_28 ?_
  refine g_ild2 dX9_job_29 ?_
  refine g_callV1 (c_jtell_10 (h := h) (29 + j) (lay_job (by omega)) (by omega)) mw_2_219 ok_X3_tell ⟨by decide, by decide⟩ (by first | assumption | exact lay_item (by omega) | exact lay_drive (by omega) | exact lay_job (by omega) | rfl) (by omega) rfl (by omega) (by omega) (Nat.le_of_ble_eq_true rfl) dX9_job_30 (dI_K ?_)
  refine g_goto (tgt := 38) dX9_job_33 (by decide) ?_
  show Go _ _ _ _ _ _ 38 _ _
  exact g_iret rfl dX9_job_38 ⟨rfl, rfl⟩
theorem c_job_11 (j n : Nat) (hS : Sh h) (hn : h.1 27 1 = nI n) (hn9 : n ≤ 30) (hj : j < n) : Ct G mX9_job [ga G 0, .int (nI j), .int (nI 11)] h 456 456 (dI (h.1 (29 + j) 11) h) := by
  refine Ct.of rfl (by simp [Value.category, ga]) (Nat.le_of_ble_eq_true rfl) (Nat.le_refl _) ?_
  show Go _ _ _ _ _ _ _ [some (ga G 0), some (.int (nI j)), some (.int (nI 11)), none] []
  refine g_ald0 dX9_job_0 ?_
  refine g_getQ fb_9_0 mw_2_95 (by first | assumption | exact lay_item (by omega) | exact lay_drive (by omega) | exact lay_job (by omega) | rfl) (by omega) (sh_now hS) dX9_job_1 ?_
  refine g_getQ fb_6_1 mw_2_3 (by first | assumption | exact lay_item (by omega) | exact lay_drive (by omega) | exact lay_job (by omega) | rfl) (by omega) (sh_queue hS) dX9_job_4 ?_
  refine g_ild1 dX9_job_7 ?_
  refine g_callV1 (c_jobAt (h := h) j n hS.1 hn hn9 hj) mw_2_215 ok_X5_jobAt ⟨by decide, by decide⟩ (by first | assumption | exact lay_item (by omega) | exact lay_drive (by omega) | exact lay_job (by omega) | rfl) (by omega) rfl (by omega) (by omega) (Nat.le_of_ble_eq_true rfl) dX9_job_8 (dQ_K ?_)
  show Go _ _ _ _ _ _ 11 _ _
  refine g_ast3 (by decide) dX9_job_11 ?_
  refine g_ald3 dX9_job_12 ?_
  refine g_ifnonnull (tgt := 18) dX9_job_13 (by decide) ?_
  refine g_ild2 dX9_job_18 ?_
  refine g_iconst (v := nI 0) dX9_job_19 (by decide +kernel) ?_
  refine g_bipush (v := nI 11) dX9_job_20 (by decide +kernel) ?_
  show Go _ _ _ _ _ _ 22 _ _
  refine g_callS3 (c_isFrom (h := h) (nI 11) (nI 0) (nI 11)) mw_2_133 ok_X9_isFrom ⟨by decide, by decide⟩ (by omega) (by omega) (Nat.le_of_ble_eq_true rfl) dX9_job_22 (dI_K ?_)
  rw [if_pos (show nI 0 ≤ nI 11 ∧ nI 11 ≤ nI 11 by decide)]
  refine g_if_eq_f (tgt := 36) dX9_job_25 (by decide) (by decide) ?_
  refine g_ald3 dX9_job_28 ?_
  refine g_ild2 dX9_job_29 ?_
  refine g_callV1 (c_jtell_11 (h := h) (29 + j) (lay_job (by omega)) (by omega)) mw_2_219 ok_X3_tell ⟨by decide, by decide⟩ (by first | assumption | exact lay_item (by omega) | exact lay_drive (by omega) | exact lay_job (by omega) | rfl) (by omega) rfl (by omega) (by omega) (Nat.le_of_ble_eq_true rfl) dX9_job_30 (dI_K ?_)
  refine g_goto (tgt := 38) dX9_job_33 (by decide) ?_
  show Go _ _ _ _ _ _ 38 _ _
  exact g_iret rfl dX9_job_38 ⟨rfl, rfl⟩
end P53
