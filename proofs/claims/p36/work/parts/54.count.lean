/-! ===== count, next ===== -/
section P54
variable {G : Gl} {h : Hp}
theorem c_sumD_1 (nd : Nat) (hS : Sh h) (hn : h.1 2 3 = nI nd) (hd : nd ≤ 4) : Ct G mX7_sumOverDrives [ga G 2, .int (nI 1)] h 456 456 (dI (sumI (fun k => h.1 (23 + k) 3) nd) h) := by
  refine Ct.of rfl (by simp [Value.category, ga]) (Nat.le_of_ble_eq_true rfl) (Nat.le_refl _) ?_
  show Go _ _ _ _ _ _ _ [some (ga G 2), some (.int (nI 1)), none, none] []
  have loop : ∀ m i, m + i = nd → Go G mX7_sumOverDrives 456 (dI (sumI (fun k => h.1 (23 + k) 3) nd) h) h 456 4 [some (ga G 2), some (.int (nI 1)), some (.int (sumI (fun k => h.1 (23 + k) 3) i)), some (.int (nI i))] [] := by
    intro m
    induction m with
    | zero =>
      intro i hi
      obtain rfl : i = nd := by omega
      refine g_ild3 dX7_sumOverDrives_4 ?_
      refine g_ald0 dX7_sumOverDrives_5 ?_
      refine g_getI_a fb_7_3 mw_1_116 (by first | assumption | exact lay_item (by omega) | exact lay_drive (by omega) | exact lay_job (by omega) | rfl) (by omega) dX7_sumOverDrives_6 (fun xx6 ee6 => ?_)
      obtain rfl : xx6 = (nI i) := ee6.symm.trans hn
      refine g_icmp_ge_t (tgt := 31) dX7_sumOverDrives_9 (by decide) (nI_le (by omega) (by omega)) ?_
      refine g_ild2 dX7_sumOverDrives_31 ?_
      show Go _ _ _ _ _ _ 32 _ _
      exact g_iret rfl dX7_sumOverDrives_32 ⟨rfl, rfl⟩
    | succ m ih =>
      intro i hi
      refine g_ild3 dX7_sumOverDrives_4 ?_
      refine g_ald0 dX7_sumOverDrives_5 ?_
      refine g_getI_a fb_7_3 mw_1_116 (by first | assumption | exact lay_item (by omega) | exact lay_drive (by omega) | exact lay_job (by omega) | rfl) (by omega) dX7_sumOverDrives_6 (fun xx6 ee6 => ?_)
      obtain rfl : xx6 = (nI nd) := ee6.symm.trans hn
      refine g_icmp_ge_f (tgt := 31) dX7_sumOverDrives_9 (by decide) (nI_ge (by omega) (by omega)) ?_
      refine g_ild2 dX7_sumOverDrives_12 ?_
      show Go _ _ _ _ _ _ 13 _ _
      refine g_ald0 dX7_sumOverDrives_13 ?_
      refine g_getQ fb_7_2 mw_1_115 (by first | assumption | exact lay_item (by omega) | exact lay_drive (by omega) | exact lay_job (by omega) | rfl) (by omega) (sh_drives hS) dX7_sumOverDrives_14 ?_
      refine g_ild3 dX7_sumOverDrives_17 ?_
      refine g_qald4 (by first | assumption | exact lay_item (by omega) | exact lay_drive (by omega) | exact lay_job (by omega) | rfl) (by omega) rfl (by omega) (sh_drive hS (i := i) (by omega)) dX7_sumOverDrives_18 ?_
      refine g_ild1 dX7_sumOverDrives_19 ?_
      refine g_callV1 (c_dtell_1 (h := h) (23 + i) (lay_drive (by omega)) (by omega)) mw_2_238 ok_X0_tell ⟨by decide, by decide⟩ (by first | assumption | exact lay_item (by omega) | exact lay_drive (by omega) | exact lay_job (by omega) | rfl) (by omega) rfl (by omega) (by omega) (Nat.le_of_ble_eq_true rfl) dX7_sumOverDrives_20 (dI_K ?_)
      show Go _ _ _ _ _ _ 23 _ _
      refine g_iadd_v dX7_sumOverDrives_23 (v := sumI (fun k => h.1 (23 + k) 3) (i + 1)) rfl ?_
      refine g_ist2 (by decide) dX7_sumOverDrives_24 ?_
      refine g_iinc3 (by decide) dX7_sumOverDrives_25 (nI_1 i) ?_
      refine g_goto (tgt := 4) dX7_sumOverDrives_28 (by decide) ?_
      exact ih (i + 1) (by omega)
  refine g_iconst (v := nI 0) dX7_sumOverDrives_0 (by decide +kernel) ?_
  refine g_ist2 (by decide) dX7_sumOverDrives_1 ?_
  refine g_iconst (v := nI 0) dX7_sumOverDrives_2 (by decide +kernel) ?_
  refine g_ist3 (by decide) dX7_sumOverDrives_3 ?_
  exact loop nd 0 (by omega)
theorem c_sumD_2 (nd : Nat) (hS : Sh h) (hn : h.1 2 3 = nI nd) (hd : nd ≤ 4) : Ct G mX7_sumOverDrives [ga G 2, .int (nI 2)] h 456 456 (dI (sumI (fun k => h.1 (23 + k) 4) nd) h) := by
  refine Ct.of rfl (by simp [Value.category, ga]) (Nat.le_of_ble_eq_true rfl) (Nat.le_refl _) ?_
  show Go _ _ _ _ _ _ _ [some (ga G 2), some (.int (nI 2)), none, none] []
  have loop : ∀ m i, m + i = nd → Go G mX7_sumOverDrives 456 (dI (sumI (fun k => h.1 (23 + k) 4) nd) h) h 456 4 [some (ga G 2), some (.int (nI 2)), some (.int (sumI (fun k => h.1 (23 + k) 4) i)), some (.int (nI i))] [] := by
    intro m
    induction m with
    | zero =>
      intro i hi
      obtain rfl : i = nd := by omega
      refine g_ild3 dX7_sumOverDrives_4 ?_
      refine g_ald0 dX7_sumOverDrives_5 ?_
      refine g_getI_a fb_7_3 mw_1_116 (by first | assumption | exact lay_item (by omega) | exact lay_drive (by omega) | exact lay_job (by omega) | rfl) (by omega) dX7_sumOverDrives_6 (fun xx6 ee6 => ?_)
      obtain rfl : xx6 = (nI i) := ee6.symm.trans hn
      refine g_icmp_ge_t (tgt := 31) dX7_sumOverDrives_9 (by decide) (nI_le (by omega) (by omega)) ?_
      refine g_ild2 dX7_sumOverDrives_31 ?_
      show Go _ _ _ _ _ _ 32 _ _
      exact g_iret rfl dX7_sumOverDrives_32 ⟨rfl, rfl⟩
    | succ m ih =>
      intro i hi
      refine g_ild3 dX7_sumOverDrives_4 ?_
      refine g_ald0 dX7_sumOverDrives_5 ?_
      refine g_getI_a fb_7_3 mw_1_116 (by first | assumption | exact lay_item (by omega) | exact lay_drive (by omega) | exact lay_job (by omega) | rfl) (by omega) dX7_sumOverDrives_6 (fun xx6 ee6 => ?_)
      obtain rfl : xx6 = (nI nd) := ee6.symm.trans hn
      refine g_icmp_ge_f (tgt := 31) dX7_sumOverDrives_9 (by decide) (nI_ge (by omega) (by omega)) ?_
      refine g_ild2 dX7_sumOverDrives_12 ?_
      show Go _ _ _ _ _ _ 13 _ _
      refine g_ald0 dX7_sumOverDrives_13 ?_
      refine g_getQ fb_7_2 mw_1_115 (by first | assumption | exact lay_item (by omega) | exact lay_drive (by omega) | exact lay_job (by omega) | rfl) (by omega) (sh_drives hS) dX7_sumOverDrives_14 ?_
      refine g_ild3 dX7_sumOverDrives_17 ?_
      refine g_qald4 (by first | assumption | exact lay_item (by omega) | exact lay_drive (by omega) | exact lay_job (by omega) | rfl) (by omega) rfl (by omega) (sh_drive hS (i := i) (by omega)) dX7_sumOverDrives_18 ?_
      refine g_ild1 dX7_sumOverDrives_19 ?_
      refine g_callV1 (c_dtell_2 (h := h) (23 + i) (lay_drive (by omega)) (by omega)) mw_2_238 ok_X0_tell ⟨by decide, by decide⟩ (by first | assumption | exact lay_item (by omega) | exact lay_drive (by omega) | exact lay_job (by omega) | rfl) (by omega) rfl (by omega) (by omega) (Nat.le_of_ble_eq_true rfl) dX7_sumOverDrives_20 (dI_K ?_)
      show Go _ _ _ _ _ _ 23 _ _
      refine g_iadd_v dX7_sumOverDrives_23 (v := sumI (fun k => h.1 (23 + k) 4) (i + 1)) rfl ?_
      refine g_ist2 (by decide) dX7_sumOverDrives_24 ?_
      refine g_iinc3 (by decide) dX7_sumOverDrives_25 (nI_1 i) ?_
      refine g_goto (tgt := 4) dX7_sumOverDrives_28 (by decide) ?_
      exact ih (i + 1) (by omega)
  refine g_iconst (v := nI 0) dX7_sumOverDrives_0 (by decide +kernel) ?_
  refine g_ist2 (by decide) dX7_sumOverDrives_1 ?_
  refine g_iconst (v := nI 0) dX7_sumOverDrives_2 (by decide +kernel) ?_
  refine g_ist3 (by decide) dX7_sumOverDrives_3 ?_
  exact loop nd 0 (by omega)
theorem c_sumD_3 (nd : Nat) (hS : Sh h) (hn : h.1 2 3 = nI nd) (hd : nd ≤ 4) : Ct G mX7_sumOverDrives [ga G 2, .int (nI 3)] h 456 456 (dI (sumI (fun k => h.1 (23 + k) 5) nd) h) := by
  refine Ct.of rfl (by simp [Value.category, ga]) (Nat.le_of_ble_eq_true rfl) (Nat.le_refl _) ?_
  show Go _ _ _ _ _ _ _ [some (ga G 2), some (.int (nI 3)), none, none] []
  have loop : ∀ m i, m + i = nd → Go G mX7_sumOverDrives 456 (dI (sumI (fun k => h.1 (23 + k) 5) nd) h) h 456 4 [some (ga G 2), some (.int (nI 3)), some (.int (sumI (fun k => h.1 (23 + k) 5) i)), some (.int (nI i))] [] := by
    intro m
    induction m with
    | zero =>
      intro i hi
      obtain rfl : i = nd := by omega
      refine g_ild3 dX7_sumOverDrives_4 ?_
      refine g_ald0 dX7_sumOverDrives_5 ?_
      refine g_getI_a fb_7_3 mw_1_116 (by first | assumption | exact lay_item (by omega) | exact lay_drive (by omega) | exact lay_job (by omega) | rfl) (by omega) dX7_sumOverDrives_6 (fun xx6 ee6 => ?_)
      obtain rfl : xx6 = (nI i) := ee6.symm.trans hn
      refine g_icmp_ge_t (tgt := 31) dX7_sumOverDrives_9 (by decide) (nI_le (by omega) (by omega)) ?_
      refine g_ild2 dX7_sumOverDrives_31 ?_
      show Go _ _ _ _ _ _ 32 _ _
      exact g_iret rfl dX7_sumOverDrives_32 ⟨rfl, rfl⟩
    | succ m ih =>
      intro i hi
      refine g_ild3 dX7_sumOverDrives_4 ?_
      refine g_ald0 dX7_sumOverDrives_5 ?_
      refine g_getI_a fb_7_3 mw_1_116 (by first | assumption | exact lay_item (by omega) | exact lay_drive (by omega) | exact lay_job (by omega) | rfl) (by omega) dX7_sumOverDrives_6 (fun xx6 ee6 => ?_)
      obtain rfl : xx6 = (nI nd) := ee6.symm.trans hn
      refine g_icmp_ge_f (tgt := 31) dX7_sumOverDrives_9 (by decide) (nI_ge (by omega) (by omega)) ?_
      refine g_ild2 dX7_sumOverDrives_12 ?_
      show Go _ _ _ _ _ _ 13 _ _
      refine g_ald0 dX7_sumOverDrives_13 ?_
      refine g_getQ fb_7_2 mw_1_115 (by first | assumption | exact lay_item (by omega) | exact lay_drive (by omega) | exact lay_job (by omega) | rfl) (by omega) (sh_drives hS) dX7_sumOverDrives_14 ?_
      refine g_ild3 dX7_sumOverDrives_17 ?_
      refine g_qald4 (by first | assumption | exact lay_item (by omega) | exact lay_drive (by omega) | exact lay_job (by omega) | rfl) (by omega) rfl (by omega) (sh_drive hS (i := i) (by omega)) dX7_sumOverDrives_18 ?_
      refine g_ild1 dX7_sumOverDrives_19 ?_
      refine g_callV1 (c_dtell_3 (h := h) (23 + i) (lay_drive (by omega)) (by omega)) mw_2_238 ok_X0_tell ⟨by decide, by decide⟩ (by first | assumption | exact lay_item (by omega) | exact lay_drive (by omega) | exact lay_job (by omega) | rfl) (by omega) rfl (by omega) (by omega) (Nat.le_of_ble_eq_true rfl) dX7_sumOverDrives_20 (dI_K ?_)
      show Go _ _ _ _ _ _ 23 _ _
      refine g_iadd_v dX7_sumOverDrives_23 (v := sumI (fun k => h.1 (23 + k) 5) (i + 1)) rfl ?_
      refine g_ist2 (by decide) dX7_sumOverDrives_24 ?_
      refine g_iinc3 (by decide) dX7_sumOverDrives_25 (nI_1 i) ?_
      refine g_goto (tgt := 4) dX7_sumOverDrives_28 (by decide) ?_
      exact ih (i + 1) (by omega)
  refine g_iconst (v := nI 0) dX7_sumOverDrives_0 (by decide +kernel) ?_
  refine g_ist2 (by decide) dX7_sumOverDrives_1 ?_
  refine g_iconst (v := nI 0) dX7_sumOverDrives_2 (by decide +kernel) ?_
  refine g_ist3 (by decide) dX7_sumOverDrives_3 ?_
  exact loop nd 0 (by omega)
def usB (h : Hp) (i : Nat) : Int32 := if h.1 (4 + i) 0 = 0 then nI 0 else h.1 (4 + i) 4
theorem c_uses (ni : Nat) (hS : Sh h) (hn : h.1 2 1 = nI ni) (hi18 : ni ≤ 18) : Ct G mX7_usesOfAll [ga G 2] h 456 456 (dI (sumI (usB h) ni) h) := by
  refine Ct.of rfl (by simp [Value.category, ga]) (Nat.le_of_ble_eq_true rfl) (Nat.le_refl _) ?_
  show Go _ _ _ _ _ _ _ [some (ga G 2), none, none] []
  have loop : ∀ m i, m + i = ni → Go G mX7_usesOfAll 456 (dI (sumI (usB h) ni) h) h 456 4 [some (ga G 2), some (.int (sumI (usB h) i)), some (.int (nI i))] [] := by
    intro m
    induction m with
    | zero =>
      intro i hi
      obtain rfl : i = ni := by omega
      refine g_ild2 dX7_usesOfAll_4 ?_
      refine g_ald0 dX7_usesOfAll_5 ?_
      refine g_getI_a fb_7_1 mw_1_113 (by first | assumption | exact lay_item (by omega) | exact lay_drive (by omega) | exact lay_job (by omega) | rfl) (by omega) dX7_usesOfAll_6 (fun xx6 ee6 => ?_)
      obtain rfl : xx6 = (nI i) := ee6.symm.trans hn
      refine g_icmp_ge_t (tgt := 46) dX7_usesOfAll_9 (by decide) (nI_le (by omega) (by omega)) ?_
      refine g_ild1 dX7_usesOfAll_46 ?_
      show Go _ _ _ _ _ _ 47 _ _
      exact g_iret rfl dX7_usesOfAll_47 ⟨rfl, rfl⟩
    | succ m ih =>
      intro i hi
      refine g_ild2 dX7_usesOfAll_4 ?_
      refine g_ald0 dX7_usesOfAll_5 ?_
      refine g_getI_a fb_7_1 mw_1_113 (by first | assumption | exact lay_item (by omega) | exact lay_drive (by omega) | exact lay_job (by omega) | rfl) (by omega) dX7_usesOfAll_6 (fun xx6 ee6 => ?_)
      obtain rfl : xx6 = (nI ni) := ee6.symm.trans hn
      refine g_icmp_ge_f (tgt := 46) dX7_usesOfAll_9 (by decide) (nI_ge (by omega) (by omega)) ?_
      refine g_ild1 dX7_usesOfAll_12 ?_
      show Go _ _ _ _ _ _ 13 _ _
      refine g_ald0 dX7_usesOfAll_13 ?_
      refine g_getQ fb_7_0 mw_1_112 (by first | assumption | exact lay_item (by omega) | exact lay_drive (by omega) | exact lay_job (by omega) | rfl) (by omega) (sh_items hS) dX7_usesOfAll_14 ?_
      refine g_ild2 dX7_usesOfAll_17 ?_
      refine g_qald3 (by first | assumption | exact lay_item (by omega) | exact lay_drive (by omega) | exact lay_job (by omega) | rfl) (by omega) rfl (by omega) (sh_item hS (i := i) (by omega)) dX7_usesOfAll_18 ?_
      refine g_getI fb_2_0 mw_1_43 (by first | assumption | exact lay_item (by omega) | exact lay_drive (by omega) | exact lay_job (by omega) | rfl) (by omega) dX7_usesOfAll_19 ?_
      refine g_if_eq (tgt := 37) dX7_usesOfAll_22 (by decide) (fun c_22 => ?_) (fun c_22 => ?_)
      · skip
        show Go _ _ _ _ _ _ 37 _ _
        refine g_iconst (v := nI 0) dX7_usesOfAll_37 (by decide +kernel) ?_
        refine g_iadd_v dX7_usesOfAll_38 (v := sumI (usB h) (i + 1)) (congrArg (fun z => sumI (usB h) i + z) (by first | exact (if_pos c_22).symm | exact (if_neg c_22).symm)) ?_
        refine g_ist1 (by decide) dX7_usesOfAll_39 ?_
        refine g_iinc2 (by decide) dX7_usesOfAll_40 (nI_1 i) ?_
        refine g_goto (tgt := 4) dX7_usesOfAll_43 (by decide) ?_
        exact ih (i + 1) (by omega)
      · skip
        refine g_ald0 dX7_usesOfAll_25 ?_
        show Go _ _ _ _ _ _ 26 _ _
        refine g_getQ fb_7_0 mw_1_112 (by first | assumption | exact lay_item (by omega) | exact lay_drive (by omega) | exact lay_job (by omega) | rfl) (by omega) (sh_items hS) dX7_usesOfAll_26 ?_
        refine g_ild2 dX7_usesOfAll_29 ?_
        refine g_qald3 (by first | assumption | exact lay_item (by omega) | exact lay_drive (by omega) | exact lay_job (by omega) | rfl) (by omega) rfl (by omega) (sh_item hS (i := i) (by omega)) dX7_usesOfAll_30 ?_
        refine g_getI fb_2_4 mw_1_54 (by first | assumption | exact lay_item (by omega) | exact lay_drive (by omega) | exact lay_job (by omega) | rfl) (by omega) dX7_usesOfAll_31 ?_
        refine g_goto (tgt := 38) dX7_usesOfAll_34 (by decide) ?_
        refine g_iadd_v dX7_usesOfAll_38 (v := sumI (usB h) (i + 1)) (congrArg (fun z => sumI (usB h) i + z) (by first | exact (if_pos c_22).symm | exact (if_neg c_22).symm)) ?_
        show Go _ _ _ _ _ _ 39 _ _
        refine g_ist1 (by decide) dX7_usesOfAll_39 ?_
        refine g_iinc2 (by decide) dX7_usesOfAll_40 (nI_1 i) ?_
        refine g_goto (tgt := 4) dX7_usesOfAll_43 (by decide) ?_
        exact ih (i + 1) (by omega)
  refine g_iconst (v := nI 0) dX7_usesOfAll_0 (by decide +kernel) ?_
  refine g_ist1 (by decide) dX7_usesOfAll_1 ?_
  refine g_iconst (v := nI 0) dX7_usesOfAll_2 (by decide +kernel) ?_
  refine g_ist2 (by decide) dX7_usesOfAll_3 ?_
  exact loop ni 0 (by omega)
theorem c_count_0 (hS : Sh h) : Ct G mX9_count [ga G 0, .int (nI 0)] h 456 456 (dI (h.1 1 5) h) := by
  refine Ct.of rfl (by simp [Value.category, ga]) (Nat.le_of_ble_eq_true rfl) (Nat.le_refl _) ?_
  show Go _ _ _ _ _ _ _ [some (ga G 0), some (.int (nI 0))] []
  refine g_ild1 dX9_count_0 ?_
  refine g_tabIn (tgt := 96) (off := 95) dX9_count_1 (by decide +kernel) (by decide +kernel) (by decide +kernel) (by decide) ?_
  refine g_ald0 dX9_count_96 ?_
  refine g_getQ fb_9_0 mw_2_95 (by first | assumption | exact lay_item (by omega) | exact lay_drive (by omega) | exact lay_job (by omega) | rfl) (by omega) (sh_now hS) dX9_count_97 ?_
  refine g_getI fb_6_5 mw_2_10 (by first | assumption | exact lay_item (by omega) | exact lay_drive (by omega) | exact lay_job (by omega) | rfl) (by omega) dX9_count_100 ?_
  show Go _ _ _ _ _ _ 103 _ _
  exact g_iret rfl dX9_count_103 ⟨rfl, rfl⟩
theorem c_count_1 (hS : Sh h) : Ct G mX9_count [ga G 0, .int (nI 1)] h 456 456 (dI (h.1 1 6) h) := by
  refine Ct.of rfl (by simp [Value.category, ga]) (Nat.le_of_ble_eq_true rfl) (Nat.le_refl _) ?_
  show Go _ _ _ _ _ _ _ [some (ga G 0), some (.int (nI 1))] []
  refine g_ild1 dX9_count_0 ?_
  refine g_tabIn (tgt := 104) (off := 103) dX9_count_1 (by decide +kernel) (by decide +kernel) (by decide +kernel) (by decide) ?_
  refine g_ald0 dX9_count_104 ?_
  refine g_getQ fb_9_0 mw_2_95 (by first | assumption | exact lay_item (by omega) | exact lay_drive (by omega) | exact lay_job (by omega) | rfl) (by omega) (sh_now hS) dX9_count_105 ?_
  refine g_getI fb_6_6 mw_2_12 (by first | assumption | exact lay_item (by omega) | exact lay_drive (by omega) | exact lay_job (by omega) | rfl) (by omega) dX9_count_108 ?_
  show Go _ _ _ _ _ _ 111 _ _
  exact g_iret rfl dX9_count_111 ⟨rfl, rfl⟩
theorem c_count_2 (hS : Sh h) : Ct G mX9_count [ga G 0, .int (nI 2)] h 456 456 (dI (h.1 1 7) h) := by
  refine Ct.of rfl (by simp [Value.category, ga]) (Nat.le_of_ble_eq_true rfl) (Nat.le_refl _) ?_
  show Go _ _ _ _ _ _ _ [some (ga G 0), some (.int (nI 2))] []
  refine g_ild1 dX9_count_0 ?_
  refine g_tabIn (tgt := 112) (off := 111) dX9_count_1 (by decide +kernel) (by decide +kernel) (by decide +kernel) (by decide) ?_
  refine g_ald0 dX9_count_112 ?_
  refine g_getQ fb_9_0 mw_2_95 (by first | assumption | exact lay_item (by omega) | exact lay_drive (by omega) | exact lay_job (by omega) | rfl) (by omega) (sh_now hS) dX9_count_113 ?_
  refine g_getI fb_6_7 mw_2_14 (by first | assumption | exact lay_item (by omega) | exact lay_drive (by omega) | exact lay_job (by omega) | rfl) (by omega) dX9_count_116 ?_
  show Go _ _ _ _ _ _ 119 _ _
  exact g_iret rfl dX9_count_119 ⟨rfl, rfl⟩
theorem c_count_3 (hS : Sh h) : Ct G mX9_count [ga G 0, .int (nI 3)] h 456 456 (dI (h.1 1 8) h) := by
  refine Ct.of rfl (by simp [Value.category, ga]) (Nat.le_of_ble_eq_true rfl) (Nat.le_refl _) ?_
  show Go _ _ _ _ _ _ _ [some (ga G 0), some (.int (nI 3))] []
  refine g_ild1 dX9_count_0 ?_
  refine g_tabIn (tgt := 120) (off := 119) dX9_count_1 (by decide +kernel) (by decide +kernel) (by decide +kernel) (by decide) ?_
  refine g_ald0 dX9_count_120 ?_
  refine g_getQ fb_9_0 mw_2_95 (by first | assumption | exact lay_item (by omega) | exact lay_drive (by omega) | exact lay_job (by omega) | rfl) (by omega) (sh_now hS) dX9_count_121 ?_
  refine g_getI fb_6_8 mw_2_16 (by first | assumption | exact lay_item (by omega) | exact lay_drive (by omega) | exact lay_job (by omega) | rfl) (by omega) dX9_count_124 ?_
  show Go _ _ _ _ _ _ 127 _ _
  exact g_iret rfl dX9_count_127 ⟨rfl, rfl⟩
theorem c_count_14 (hS : Sh h) : Ct G mX9_count [ga G 0, .int (nI 14)] h 456 456 (dI (h.1 1 9) h) := by
  refine Ct.of rfl (by simp [Value.category, ga]) (Nat.le_of_ble_eq_true rfl) (Nat.le_refl _) ?_
  show Go _ _ _ _ _ _ _ [some (ga G 0), some (.int (nI 14))] []
  refine g_ild1 dX9_count_0 ?_
  refine g_tabIn (tgt := 179) (off := 178) dX9_count_1 (by decide +kernel) (by decide +kernel) (by decide +kernel) (by decide) ?_
  refine g_ald0 dX9_count_179 ?_
  refine g_getQ fb_9_0 mw_2_95 (by first | assumption | exact lay_item (by omega) | exact lay_drive (by omega) | exact lay_job (by omega) | rfl) (by omega) (sh_now hS) dX9_count_180 ?_
  refine g_getI fb_6_9 mw_2_18 (by first | assumption | exact lay_item (by omega) | exact lay_drive (by omega) | exact lay_job (by omega) | rfl) (by omega) dX9_count_183 ?_
  show Go _ _ _ _ _ _ 186 _ _
  exact g_iret rfl dX9_count_186 ⟨rfl, rfl⟩
theorem c_count_15 (hS : Sh h) : Ct G mX9_count [ga G 0, .int (nI 15)] h 456 456 (dI (h.1 1 10) h) := by
  refine Ct.of rfl (by simp [Value.category, ga]) (Nat.le_of_ble_eq_true rfl) (Nat.le_refl _) ?_
  show Go _ _ _ _ _ _ _ [some (ga G 0), some (.int (nI 15))] []
  refine g_ild1 dX9_count_0 ?_
  refine g_tabIn (tgt := 187) (off := 186) dX9_count_1 (by decide +kernel) (by decide +kernel) (by decide +kernel) (by decide) ?_
  refine g_ald0 dX9_count_187 ?_
  refine g_getQ fb_9_0 mw_2_95 (by first | assumption | exact lay_item (by omega) | exact lay_drive (by omega) | exact lay_job (by omega) | rfl) (by omega) (sh_now hS) dX9_count_188 ?_
  refine g_getI fb_6_10 mw_2_20 (by first | assumption | exact lay_item (by omega) | exact lay_drive (by omega) | exact lay_job (by omega) | rfl) (by omega) dX9_count_191 ?_
  show Go _ _ _ _ _ _ 194 _ _
  exact g_iret rfl dX9_count_194 ⟨rfl, rfl⟩
theorem c_count_16 (hS : Sh h) : Ct G mX9_count [ga G 0, .int (nI 16)] h 456 456 (dI (h.1 1 11) h) := by
  refine Ct.of rfl (by simp [Value.category, ga]) (Nat.le_of_ble_eq_true rfl) (Nat.le_refl _) ?_
  show Go _ _ _ _ _ _ _ [some (ga G 0), some (.int (nI 16))] []
  refine g_ild1 dX9_count_0 ?_
  refine g_tabIn (tgt := 195) (off := 194) dX9_count_1 (by decide +kernel) (by decide +kernel) (by decide +kernel) (by decide) ?_
  refine g_ald0 dX9_count_195 ?_
  refine g_getQ fb_9_0 mw_2_95 (by first | assumption | exact lay_item (by omega) | exact lay_drive (by omega) | exact lay_job (by omega) | rfl) (by omega) (sh_now hS) dX9_count_196 ?_
  refine g_getI fb_6_11 mw_2_22 (by first | assumption | exact lay_item (by omega) | exact lay_drive (by omega) | exact lay_job (by omega) | rfl) (by omega) dX9_count_199 ?_
  show Go _ _ _ _ _ _ 202 _ _
  exact g_iret rfl dX9_count_202 ⟨rfl, rfl⟩
theorem c_count_9 (hS : Sh h) : Ct G mX9_count [ga G 0, .int (nI 9)] h 456 456 (dI (h.1 2 1) h) := by
  refine Ct.of rfl (by simp [Value.category, ga]) (Nat.le_of_ble_eq_true rfl) (Nat.le_refl _) ?_
  show Go _ _ _ _ _ _ _ [some (ga G 0), some (.int (nI 9))] []
  refine g_ild1 dX9_count_0 ?_
  refine g_tabIn (tgt := 142) (off := 141) dX9_count_1 (by decide +kernel) (by decide +kernel) (by decide +kernel) (by decide) ?_
  refine g_ald0 dX9_count_142 ?_
  refine g_getQ fb_9_0 mw_2_95 (by first | assumption | exact lay_item (by omega) | exact lay_drive (by omega) | exact lay_job (by omega) | rfl) (by omega) (sh_now hS) dX9_count_143 ?_
  refine g_getQ fb_6_0 mw_2_1 (by first | assumption | exact lay_item (by omega) | exact lay_drive (by omega) | exact lay_job (by omega) | rfl) (by omega) (sh_store hS) dX9_count_146 ?_
  show Go _ _ _ _ _ _ 149 _ _
  refine g_getI fb_7_1 mw_1_114 (by first | assumption | exact lay_item (by omega) | exact lay_drive (by omega) | exact lay_job (by omega) | rfl) (by omega) dX9_count_149 ?_
  exact g_iret rfl dX9_count_152 ⟨rfl, rfl⟩
theorem c_count_10 (hS : Sh h) : Ct G mX9_count [ga G 0, .int (nI 10)] h 456 456 (dI (h.1 2 3) h) := by
  refine Ct.of rfl (by simp [Value.category, ga]) (Nat.le_of_ble_eq_true rfl) (Nat.le_refl _) ?_
  show Go _ _ _ _ _ _ _ [some (ga G 0), some (.int (nI 10))] []
  refine g_ild1 dX9_count_0 ?_
  refine g_tabIn (tgt := 153) (off := 152) dX9_count_1 (by decide +kernel) (by decide +kernel) (by decide +kernel) (by decide) ?_
  refine g_ald0 dX9_count_153 ?_
  refine g_getQ fb_9_0 mw_2_95 (by first | assumption | exact lay_item (by omega) | exact lay_drive (by omega) | exact lay_job (by omega) | rfl) (by omega) (sh_now hS) dX9_count_154 ?_
  refine g_getQ fb_6_0 mw_2_1 (by first | assumption | exact lay_item (by omega) | exact lay_drive (by omega) | exact lay_job (by omega) | rfl) (by omega) (sh_store hS) dX9_count_157 ?_
  show Go _ _ _ _ _ _ 160 _ _
  refine g_getI fb_7_3 mw_1_117 (by first | assumption | exact lay_item (by omega) | exact lay_drive (by omega) | exact lay_job (by omega) | rfl) (by omega) dX9_count_160 ?_
  exact g_iret rfl dX9_count_163 ⟨rfl, rfl⟩
theorem c_count_20 : Ct G mX9_count [ga G 0, .int (nI 20)] h 456 456 (dI (-2) h) := by
  refine Ct.of rfl (by simp [Value.category, ga]) (Nat.le_of_ble_eq_true rfl) (Nat.le_refl _) ?_
  show Go _ _ _ _ _ _ _ [some (ga G 0), some (.int (nI 20))] []
  refine g_ild1 dX9_count_0 ?_
  refine g_tabOut (tgt := 230) dX9_count_1 (by decide +kernel) (by decide) ?_
  refine g_bipush (v := -2) dX9_count_230 (by decide +kernel) ?_
  exact g_iret rfl dX9_count_232 ⟨rfl, rfl⟩
theorem c_count_17 (ni : Nat) (hS : Sh h) (hn : h.1 2 1 = nI ni) (hi18 : ni ≤ 18) : Ct G mX9_count [ga G 0, .int (nI 17)] h 456 456 (dI (sumI (usB h) ni) h) := by
  refine Ct.of rfl (by simp [Value.category, ga]) (Nat.le_of_ble_eq_true rfl) (Nat.le_refl _) ?_
  show Go _ _ _ _ _ _ _ [some (ga G 0), some (.int (nI 17))] []
  refine g_ild1 dX9_count_0 ?_
  refine g_tabIn (tgt := 203) (off := 202) dX9_count_1 (by decide +kernel) (by decide +kernel) (by decide +kernel) (by decide) ?_
  refine g_ald0 dX9_count_203 ?_
  refine g_getQ fb_9_0 mw_2_95 (by first | assumption | exact lay_item (by omega) | exact lay_drive (by omega) | exact lay_job (by omega) | rfl) (by omega) (sh_now hS) dX9_count_204 ?_
  refine g_getQ fb_6_0 mw_2_1 (by first | assumption | exact lay_item (by omega) | exact lay_drive (by omega) | exact lay_job (by omega) | rfl) (by omega) (sh_store hS) dX9_count_207 ?_
  show Go _ _ _ _ _ _ 210 _ _
  refine g_callV0 (c_uses (h := h) ni hS hn hi18) mw_2_239 ok_X7_usesOfAll ⟨by decide, by decide⟩ (by first | assumption | exact lay_item (by omega) | exact lay_drive (by omega) | exact lay_job (by omega) | rfl) (by omega) rfl (by omega) (by omega) (Nat.le_of_ble_eq_true rfl) dX9_count_210 (dI_K ?_)
  exact g_iret rfl dX9_count_213 ⟨rfl, rfl⟩
theorem c_count_11 (nd : Nat) (hS : Sh h) (hn : h.1 2 3 = nI nd) (hd : nd ≤ 4) : Ct G mX9_count [ga G 0, .int (nI 11)] h 456 456 (dI (sumI (fun k => h.1 (23 + k) 3) nd) h) := by
  refine Ct.of rfl (by simp [Value.category, ga]) (Nat.le_of_ble_eq_true rfl) (Nat.le_refl _) ?_
  show Go _ _ _ _ _ _ _ [some (ga G 0), some (.int (nI 11))] []
  refine g_ild1 dX9_count_0 ?_
  refine g_tabIn (tgt := 164) (off := 163) dX9_count_1 (by decide +kernel) (by decide +kernel) (by decide +kernel) (by decide) ?_
  refine g_ald0 dX9_count_164 ?_
  refine g_getQ fb_9_0 mw_2_95 (by first | assumption | exact lay_item (by omega) | exact lay_drive (by omega) | exact lay_job (by omega) | rfl) (by omega) (sh_now hS) dX9_count_165 ?_
  refine g_getQ fb_6_0 mw_2_1 (by first | assumption | exact lay_item (by omega) | exact lay_drive (by omega) | exact lay_job (by omega) | rfl) (by omega) (sh_store hS) dX9_count_168 ?_
  show Go _ _ _ _ _ _ 171 _ _
  refine g_ild1 dX9_count_171 ?_
  refine g_bipush (v := nI 10) dX9_count_172 (by decide +kernel) ?_
  refine g_isub_v dX9_count_174 (v := nI 1) (by decide) ?_
  refine g_callV1 (c_sumD_1 (h := h) nd hS hn hd) mw_2_234 ok_X7_sumOverDrives ⟨by decide, by decide⟩ (by first | assumption | exact lay_item (by omega) | exact lay_drive (by omega) | exact lay_job (by omega) | rfl) (by omega) rfl (by omega) (by omega) (Nat.le_of_ble_eq_true rfl) dX9_count_175 (dI_K ?_)
  exact g_iret rfl dX9_count_178 ⟨rfl, rfl⟩
theorem c_count_12 (nd : Nat) (hS : Sh h) (hn : h.1 2 3 = nI nd) (hd : nd ≤ 4) : Ct G mX9_count [ga G 0, .int (nI 12)] h 456 456 (dI (sumI (fun k => h.1 (23 + k) 4) nd) h) := by
  refine Ct.of rfl (by simp [Value.category, ga]) (Nat.le_of_ble_eq_true rfl) (Nat.le_refl _) ?_
  show Go _ _ _ _ _ _ _ [some (ga G 0), some (.int (nI 12))] []
  refine g_ild1 dX9_count_0 ?_
  refine g_tabIn (tgt := 164) (off := 163) dX9_count_1 (by decide +kernel) (by decide +kernel) (by decide +kernel) (by decide) ?_
  refine g_ald0 dX9_count_164 ?_
  refine g_getQ fb_9_0 mw_2_95 (by first | assumption | exact lay_item (by omega) | exact lay_drive (by omega) | exact lay_job (by omega) | rfl) (by omega) (sh_now hS) dX9_count_165 ?_
  refine g_getQ fb_6_0 mw_2_1 (by first | assumption | exact lay_item (by omega) | exact lay_drive (by omega) | exact lay_job (by omega) | rfl) (by omega) (sh_store hS) dX9_count_168 ?_
  show Go _ _ _ _ _ _ 171 _ _
  refine g_ild1 dX9_count_171 ?_
  refine g_bipush (v := nI 10) dX9_count_172 (by decide +kernel) ?_
  refine g_isub_v dX9_count_174 (v := nI 2) (by decide) ?_
  refine g_callV1 (c_sumD_2 (h := h) nd hS hn hd) mw_2_234 ok_X7_sumOverDrives ⟨by decide, by decide⟩ (by first | assumption | exact lay_item (by omega) | exact lay_drive (by omega) | exact lay_job (by omega) | rfl) (by omega) rfl (by omega) (by omega) (Nat.le_of_ble_eq_true rfl) dX9_count_175 (dI_K ?_)
  exact g_iret rfl dX9_count_178 ⟨rfl, rfl⟩
theorem c_count_13 (nd : Nat) (hS : Sh h) (hn : h.1 2 3 = nI nd) (hd : nd ≤ 4) : Ct G mX9_count [ga G 0, .int (nI 13)] h 456 456 (dI (sumI (fun k => h.1 (23 + k) 5) nd) h) := by
  refine Ct.of rfl (by simp [Value.category, ga]) (Nat.le_of_ble_eq_true rfl) (Nat.le_refl _) ?_
  show Go _ _ _ _ _ _ _ [some (ga G 0), some (.int (nI 13))] []
  refine g_ild1 dX9_count_0 ?_
  refine g_tabIn (tgt := 164) (off := 163) dX9_count_1 (by decide +kernel) (by decide +kernel) (by decide +kernel) (by decide) ?_
  refine g_ald0 dX9_count_164 ?_
  refine g_getQ fb_9_0 mw_2_95 (by first | assumption | exact lay_item (by omega) | exact lay_drive (by omega) | exact lay_job (by omega) | rfl) (by omega) (sh_now hS) dX9_count_165 ?_
  refine g_getQ fb_6_0 mw_2_1 (by first | assumption | exact lay_item (by omega) | exact lay_drive (by omega) | exact lay_job (by omega) | rfl) (by omega) (sh_store hS) dX9_count_168 ?_
  show Go _ _ _ _ _ _ 171 _ _
  refine g_ild1 dX9_count_171 ?_
  refine g_bipush (v := nI 10) dX9_count_172 (by decide +kernel) ?_
  refine g_isub_v dX9_count_174 (v := nI 3) (by decide) ?_
  refine g_callV1 (c_sumD_3 (h := h) nd hS hn hd) mw_2_234 ok_X7_sumOverDrives ⟨by decide, by decide⟩ (by first | assumption | exact lay_item (by omega) | exact lay_drive (by omega) | exact lay_job (by omega) | rfl) (by omega) rfl (by omega) (by omega) (Nat.le_of_ble_eq_true rfl) dX9_count_175 (dI_K ?_)
  exact g_iret rfl dX9_count_178 ⟨rfl, rfl⟩
theorem c_count_st (w nj : Nat) (hw : 4 ≤ w ∧ w ≤ 8) (hS : Sh h) (hn : h.1 27 1 = nI nj) (hj : nj ≤ 30) : Ct G mX9_count [ga G 0, .int (nI w)] h 456 456 (dI (cnI (fun j => h.1 (29 + j) 3 = nI w - nI 4) nj) h) := by
  obtain rfl | rfl | rfl | rfl | rfl : w = 4 ∨ w = 5 ∨ w = 6 ∨ w = 7 ∨ w = 8 := by omega
  · refine Ct.of rfl (by simp [Value.category, ga]) (Nat.le_of_ble_eq_true rfl) (Nat.le_refl _) ?_
    show Go _ _ _ _ _ _ _ [some (ga G 0), some (.int (nI 4))] []
    refine g_ild1 dX9_count_0 ?_
    refine g_tabIn (tgt := 128) (off := 127) dX9_count_1 (by decide +kernel) (by decide +kernel) (by decide +kernel) (by decide) ?_
    refine g_ald0 dX9_count_128 ?_
    refine g_getQ fb_9_0 mw_2_95 (by first | assumption | exact lay_item (by omega) | exact lay_drive (by omega) | exact lay_job (by omega) | rfl) (by omega) (sh_now hS) dX9_count_129 ?_
    refine g_getQ fb_6_1 mw_2_3 (by first | assumption | exact lay_item (by omega) | exact lay_drive (by omega) | exact lay_job (by omega) | rfl) (by omega) (sh_queue hS) dX9_count_132 ?_
    show Go _ _ _ _ _ _ 135 _ _
    refine g_ild1 dX9_count_135 ?_
    refine g_iconst (v := nI 4) dX9_count_136 (by decide +kernel) ?_
    refine g_isub dX9_count_137 ?_
    refine g_callV1 (c_jobsInState (h := h) (nI 4 - nI 4) nj hS.1 hn hj) mw_2_230 ok_X5_jobsInState ⟨by decide, by decide⟩ (by first | assumption | exact lay_item (by omega) | exact lay_drive (by omega) | exact lay_job (by omega) | rfl) (by omega) rfl (by omega) (by omega) (Nat.le_of_ble_eq_true rfl) dX9_count_138 (dI_K ?_)
    exact g_iret rfl dX9_count_141 ⟨rfl, rfl⟩
  · refine Ct.of rfl (by simp [Value.category, ga]) (Nat.le_of_ble_eq_true rfl) (Nat.le_refl _) ?_
    show Go _ _ _ _ _ _ _ [some (ga G 0), some (.int (nI 5))] []
    refine g_ild1 dX9_count_0 ?_
    refine g_tabIn (tgt := 128) (off := 127) dX9_count_1 (by decide +kernel) (by decide +kernel) (by decide +kernel) (by decide) ?_
    refine g_ald0 dX9_count_128 ?_
    refine g_getQ fb_9_0 mw_2_95 (by first | assumption | exact lay_item (by omega) | exact lay_drive (by omega) | exact lay_job (by omega) | rfl) (by omega) (sh_now hS) dX9_count_129 ?_
    refine g_getQ fb_6_1 mw_2_3 (by first | assumption | exact lay_item (by omega) | exact lay_drive (by omega) | exact lay_job (by omega) | rfl) (by omega) (sh_queue hS) dX9_count_132 ?_
    show Go _ _ _ _ _ _ 135 _ _
    refine g_ild1 dX9_count_135 ?_
    refine g_iconst (v := nI 4) dX9_count_136 (by decide +kernel) ?_
    refine g_isub dX9_count_137 ?_
    refine g_callV1 (c_jobsInState (h := h) (nI 5 - nI 4) nj hS.1 hn hj) mw_2_230 ok_X5_jobsInState ⟨by decide, by decide⟩ (by first | assumption | exact lay_item (by omega) | exact lay_drive (by omega) | exact lay_job (by omega) | rfl) (by omega) rfl (by omega) (by omega) (Nat.le_of_ble_eq_true rfl) dX9_count_138 (dI_K ?_)
    exact g_iret rfl dX9_count_141 ⟨rfl, rfl⟩
  · refine Ct.of rfl (by simp [Value.category, ga]) (Nat.le_of_ble_eq_true rfl) (Nat.le_refl _) ?_
    show Go _ _ _ _ _ _ _ [some (ga G 0), some (.int (nI 6))] []
    refine g_ild1 dX9_count_0 ?_
    refine g_tabIn (tgt := 128) (off := 127) dX9_count_1 (by decide +kernel) (by decide +kernel) (by decide +kernel) (by decide) ?_
    refine g_ald0 dX9_count_128 ?_
    refine g_getQ fb_9_0 mw_2_95 (by first | assumption | exact lay_item (by omega) | exact lay_drive (by omega) | exact lay_job (by omega) | rfl) (by omega) (sh_now hS) dX9_count_129 ?_
    refine g_getQ fb_6_1 mw_2_3 (by first | assumption | exact lay_item (by omega) | exact lay_drive (by omega) | exact lay_job (by omega) | rfl) (by omega) (sh_queue hS) dX9_count_132 ?_
    show Go _ _ _ _ _ _ 135 _ _
    refine g_ild1 dX9_count_135 ?_
    refine g_iconst (v := nI 4) dX9_count_136 (by decide +kernel) ?_
    refine g_isub dX9_count_137 ?_
    refine g_callV1 (c_jobsInState (h := h) (nI 6 - nI 4) nj hS.1 hn hj) mw_2_230 ok_X5_jobsInState ⟨by decide, by decide⟩ (by first | assumption | exact lay_item (by omega) | exact lay_drive (by omega) | exact lay_job (by omega) | rfl) (by omega) rfl (by omega) (by omega) (Nat.le_of_ble_eq_true rfl) dX9_count_138 (dI_K ?_)
    exact g_iret rfl dX9_count_141 ⟨rfl, rfl⟩
  · refine Ct.of rfl (by simp [Value.category, ga]) (Nat.le_of_ble_eq_true rfl) (Nat.le_refl _) ?_
    show Go _ _ _ _ _ _ _ [some (ga G 0), some (.int (nI 7))] []
    refine g_ild1 dX9_count_0 ?_
    refine g_tabIn (tgt := 128) (off := 127) dX9_count_1 (by decide +kernel) (by decide +kernel) (by decide +kernel) (by decide) ?_
    refine g_ald0 dX9_count_128 ?_
    refine g_getQ fb_9_0 mw_2_95 (by first | assumption | exact lay_item (by omega) | exact lay_drive (by omega) | exact lay_job (by omega) | rfl) (by omega) (sh_now hS) dX9_count_129 ?_
    refine g_getQ fb_6_1 mw_2_3 (by first | assumption | exact lay_item (by omega) | exact lay_drive (by omega) | exact lay_job (by omega) | rfl) (by omega) (sh_queue hS) dX9_count_132 ?_
    show Go _ _ _ _ _ _ 135 _ _
    refine g_ild1 dX9_count_135 ?_
    refine g_iconst (v := nI 4) dX9_count_136 (by decide +kernel) ?_
    refine g_isub dX9_count_137 ?_
    refine g_callV1 (c_jobsInState (h := h) (nI 7 - nI 4) nj hS.1 hn hj) mw_2_230 ok_X5_jobsInState ⟨by decide, by decide⟩ (by first | assumption | exact lay_item (by omega) | exact lay_drive (by omega) | exact lay_job (by omega) | rfl) (by omega) rfl (by omega) (by omega) (Nat.le_of_ble_eq_true rfl) dX9_count_138 (dI_K ?_)
    exact g_iret rfl dX9_count_141 ⟨rfl, rfl⟩
  · refine Ct.of rfl (by simp [Value.category, ga]) (Nat.le_of_ble_eq_true rfl) (Nat.le_refl _) ?_
    show Go _ _ _ _ _ _ _ [some (ga G 0), some (.int (nI 8))] []
    refine g_ild1 dX9_count_0 ?_
    refine g_tabIn (tgt := 128) (off := 127) dX9_count_1 (by decide +kernel) (by decide +kernel) (by decide +kernel) (by decide) ?_
    refine g_ald0 dX9_count_128 ?_
    refine g_getQ fb_9_0 mw_2_95 (by first | assumption | exact lay_item (by omega) | exact lay_drive (by omega) | exact lay_job (by omega) | rfl) (by omega) (sh_now hS) dX9_count_129 ?_
    refine g_getQ fb_6_1 mw_2_3 (by first | assumption | exact lay_item (by omega) | exact lay_drive (by omega) | exact lay_job (by omega) | rfl) (by omega) (sh_queue hS) dX9_count_132 ?_
    show Go _ _ _ _ _ _ 135 _ _
    refine g_ild1 dX9_count_135 ?_
    refine g_iconst (v := nI 4) dX9_count_136 (by decide +kernel) ?_
    refine g_isub dX9_count_137 ?_
    refine g_callV1 (c_jobsInState (h := h) (nI 8 - nI 4) nj hS.1 hn hj) mw_2_230 ok_X5_jobsInState ⟨by decide, by decide⟩ (by first | assumption | exact lay_item (by omega) | exact lay_drive (by omega) | exact lay_job (by omega) | rfl) (by omega) rfl (by omega) (by omega) (Nat.le_of_ble_eq_true rfl) dX9_count_138 (dI_K ?_)
    exact g_iret rfl dX9_count_141 ⟨rfl, rfl⟩
theorem c_next (M : Mo) (ni nd nj : Nat) (hR : Rb h M ni nd nj) (hI : IS M ni nd nj) : Ct G mX9_next [ga G 0] h 456 456 (rI (fun r h' => h' = h ∧ IsMin (OKj M ni nd) (grp M) nj r)) := by
  obtain ⟨⟨hi, hd, hj⟩, hp, hH, hC, hf, hu, hJb, hsl⟩ := hI
  have hS := hR.2.2.2.2.2.2.2
  refine Ct.of rfl (by simp [Value.category, ga]) (Nat.le_of_ble_eq_true rfl) (Nat.le_refl _) ?_
  show Go _ _ _ _ _ _ _ [some (ga G 0)] []
  refine g_ald0 dX9_next_0 ?_
  refine g_getQ fb_9_0 mw_2_95 (by first | assumption | exact lay_item (by omega) | exact lay_drive (by omega) | exact lay_job (by omega) | rfl) (by omega) (sh_now hS) dX9_next_1 ?_
  refine g_callV0 (c_jobToBegin (h := h) M ni nd nj hR hi (by omega) hd hJb hf hH hC hp hu) mw_3_7 ok_X6_jobToBegin ⟨by decide, by decide⟩ (by first | assumption | exact lay_item (by omega) | exact lay_drive (by omega) | exact lay_job (by omega) | rfl) (by omega) rfl (by omega) (by omega) (Nat.le_of_ble_eq_true rfl) dX9_next_4 (rI_K ?_)
  intro r h' hr
  exact g_iret rfl dX9_next_7 ⟨r, rfl, hr⟩
end P54
