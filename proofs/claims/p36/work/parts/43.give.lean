/-! ===== read, clean, move: a job is given ===== -/
def mGive (M : Mo) (nj : Nat) (kd x s : Int32) : Mo := up (up (up (up (up (up (up (up (up (up (up (up (up M 3 (6 * nj) kd) 3 (6 * nj + 1) x) 3 (6 * nj + 2) s) 3 (6 * nj + 3) (nI 0)) 3 (6 * nj + 4) (-5)) 3 (6 * nj + 5) (-5)) 4 (6 * nj) (-5)) 4 (6 * nj + 1) (-5)) 4 (6 * nj + 2) (nI 0)) 4 (6 * nj + 3) (nI 0)) 4 (6 * nj + 4) (-5)) 4 (6 * nj + 5) (-5)) 0 11 (nI (nj + 1))
def hEnt (h : Hp) (a : Nat) (kd x s : Int32) : Hp := wI (wI (wI (wI (wI (wI (wI (wI (wI (wI (wI (wI (wI h a 0 kd) a 1 x) a 2 s) a 3 (nI 0)) a 4 (-5)) a 5 (-5)) a 6 (nI 0)) a 7 (-5)) a 8 (-5)) a 9 (-5)) a 10 (nI 0)) a 11 (nI 0)) a 12 (nI 0)
def Flt (M : Mo) (ni nd kd q : Nat) (s f : Int32) : Prop :=
  (kd = 0 ∧ ni ≤ q ∧ f = -1) ∨ (kd = 0 ∧ q < ni ∧ M.1 1 (6 * q) = 1 ∧ f = -4) ∨ (kd = 0 ∧ q < ni ∧ M.1 1 (6 * q) = 0 ∧ f = -5) ∨ (kd = 1 ∧ nd ≤ q ∧ f = -1) ∨ (kd = 1 ∧ q < nd ∧ f = -5) ∨ (kd = 2 ∧ ni ≤ q ∧ f = -1) ∨ (kd = 2 ∧ q < ni ∧ (∃ t, 24 ≤ t ∧ t < 1000 ∧ s = nI t) ∧ f = -1) ∨ (kd = 2 ∧ q < ni ∧ (∃ t, t < 24 ∧ s = nI t) ∧ f = -5)
theorem rb_give {h : Hp} {M : Mo} {ni nd nj : Nat} (R : Rb h M ni nd nj) (hi : ni ≤ 8) (hd : nd ≤ 4) (hj : nj < 10) (hc : M.1 5 nj = 0) (kd x s : Int32) : Rb (wI (hEnt h (29 + nj) kd x s) 27 1 (nI (nj + 1))) (mGive M nj kd x s) ni nd (nj + 1) := by
  obtain ⟨⟨s5, s6, s7, s8, s9, s10, s11, s3, s4⟩, ⟨n1, n2, n3, n4, n5⟩, hI, hD, hJ, hL, hH, hS⟩ := R
  have ei : ∀ a k, a < 29 → ¬ (a = 27 ∧ k = 1) → (wI (hEnt h (29 + nj) kd x s) 27 1 (nI (nj + 1))).1 a k = h.1 a k := fun a k ha hk => by simp (disch := omega) only [hEnt, wI_ne]
  have ej : ∀ a k, 29 ≤ a → a ≠ 29 + nj → (wI (hEnt h (29 + nj) kd x s) 27 1 (nI (nj + 1))).1 a k = h.1 a k := fun a k ha hk => by simp (disch := omega) only [hEnt, wI_ne]
  have e0 : ∀ k, k ≠ 11 → (mGive M nj kd x s).1 0 k = M.1 0 k := fun k hk => by simp (disch := omega) only [mGive, up_ne]
  have e1 : (mGive M nj kd x s).1 1 = M.1 1 := funext fun k => by simp (disch := omega) only [mGive, up_ne]
  have e2 : (mGive M nj kd x s).1 2 = M.1 2 := funext fun k => by simp (disch := omega) only [mGive, up_ne]
  have e3 : ∀ k, k < 6 * nj → (mGive M nj kd x s).1 3 k = M.1 3 k := fun k hk => by simp (disch := omega) only [mGive, up_ne]
  have e4 : ∀ k, k < 6 * nj → (mGive M nj kd x s).1 4 k = M.1 4 k := fun k hk => by simp (disch := omega) only [mGive, up_ne]
  have e5 : (mGive M nj kd x s).1 5 = M.1 5 := funext fun k => by simp (disch := omega) only [mGive, up_ne]
  refine ⟨?_, ?_, fun i hii => ?_, fun k hk => ?_, fun j hjj => ?_, ?_, ?_, hS⟩
  · simp (disch := omega) only [ei, e0]; exact ⟨s5, s6, s7, s8, s9, s10, s11, s3, s4⟩
  · simp (disch := omega) only [ei, e0]; exact ⟨n1, n2, wI_at, n4, n5⟩
  · rw [e1, inD_congr (M := M) i nd (fun q hq => by rw [e2])]; simp (disch := omega) only [ei]; exact hI i hii
  · rw [e2]; simp (disch := omega) only [ei]; exact hD k hk
  · by_cases q : j < nj
    · rw [e5]; simp (disch := omega) only [ej, e3, e4]; exact hJ j q
    · obtain rfl : j = nj := by omega
      rw [e5]
      simp (disch := omega) only [hEnt, mGive, wI_at, wI_ne, up_at, up_ne]
      exact ⟨⟨(by first | trivial | rfl), (by first | trivial | rfl), (by first | trivial | rfl), (by first | trivial | rfl)⟩, ⟨(by first | trivial | rfl), (by first | trivial | rfl), fun _ => (by first | trivial | rfl), fun z => absurd z (by decide), (by first | trivial | rfl)⟩, (by first | trivial | rfl), (by first | trivial | rfl), (by first | trivial | rfl), (by first | trivial | rfl), fun _ => by first | trivial | exact hc.symm⟩
  · obtain ⟨w, w1, w2⟩ := hL
    exact ⟨w, w1, (ej _ _ (by omega) (by omega)).trans w2⟩
  · obtain ⟨w, w1, w2⟩ := hH
    exact ⟨w, w1, (ej _ _ (by omega) (by omega)).trans w2⟩
section P43
variable {G : Gl} {h : Hp}
theorem c_jenter (a : Nat) (kd x s : Int32) (ha : Lay a = .inl 3) (hl : a < 456) : Ct G mX3_enter [ga G a, .int kd, .int x, .int s] h 456 456 (dV (hEnt h a kd x s)) := by
  refine Ct.of rfl (by simp [Value.category, ga]) (Nat.le_of_ble_eq_true rfl) (Nat.le_refl _) ?_
  show Go _ _ _ _ _ _ _ [some (ga G a), some (.int kd), some (.int x), some (.int s)] []
  refine g_ald0 dX3_enter_0 ?_
  refine g_ild1 dX3_enter_1 ?_
  refine g_putI fb_3_0 mw_1_140 (by first | assumption | exact lay_item (by omega) | exact lay_drive (by omega) | exact lay_job (by omega) | rfl) (by omega) rfl rfl dX3_enter_2 ?_
  refine g_ald0 dX3_enter_5 ?_
  refine g_ild2 dX3_enter_6 ?_
  show Go _ _ _ _ _ _ 7 _ _
  refine g_putI fb_3_1 mw_1_142 (by first | assumption | exact lay_item (by omega) | exact lay_drive (by omega) | exact lay_job (by omega) | rfl) (by omega) rfl rfl dX3_enter_7 ?_
  refine g_ald0 dX3_enter_10 ?_
  refine g_ild3 dX3_enter_11 ?_
  refine g_putI fb_3_2 mw_1_144 (by first | assumption | exact lay_item (by omega) | exact lay_drive (by omega) | exact lay_job (by omega) | rfl) (by omega) rfl rfl dX3_enter_12 ?_
  refine g_ald0 dX3_enter_15 ?_
  refine g_iconst (v := nI 0) dX3_enter_16 (by decide +kernel) ?_
  show Go _ _ _ _ _ _ 17 _ _
  refine g_putI fb_3_3 mw_1_146 (by first | assumption | exact lay_item (by omega) | exact lay_drive (by omega) | exact lay_job (by omega) | rfl) (by omega) rfl rfl dX3_enter_17 ?_
  refine g_ald0 dX3_enter_20 ?_
  refine g_bipush (v := -5) dX3_enter_21 (by decide +kernel) ?_
  refine g_putI fb_3_4 mw_1_150 (by first | assumption | exact lay_item (by omega) | exact lay_drive (by omega) | exact lay_job (by omega) | rfl) (by omega) rfl rfl dX3_enter_23 ?_
  refine g_ald0 dX3_enter_26 ?_
  refine g_bipush (v := -5) dX3_enter_27 (by decide +kernel) ?_
  show Go _ _ _ _ _ _ 29 _ _
  refine g_putI fb_3_5 mw_1_152 (by first | assumption | exact lay_item (by omega) | exact lay_drive (by omega) | exact lay_job (by omega) | rfl) (by omega) rfl rfl dX3_enter_29 ?_
  refine g_ald0 dX3_enter_32 ?_
  refine g_iconst (v := nI 0) dX3_enter_33 (by decide +kernel) ?_
  refine g_putI fb_3_6 mw_1_155 (by first | assumption | exact lay_item (by omega) | exact lay_drive (by omega) | exact lay_job (by omega) | rfl) (by omega) rfl rfl dX3_enter_34 ?_
  refine g_ald0 dX3_enter_37 ?_
  refine g_bipush (v := -5) dX3_enter_38 (by decide +kernel) ?_
  show Go _ _ _ _ _ _ 40 _ _
  refine g_putI fb_3_7 mw_1_157 (by first | assumption | exact lay_item (by omega) | exact lay_drive (by omega) | exact lay_job (by omega) | rfl) (by omega) rfl rfl dX3_enter_40 ?_
  refine g_ald0 dX3_enter_43 ?_
  refine g_bipush (v := -5) dX3_enter_44 (by decide +kernel) ?_
  refine g_putI fb_3_8 mw_1_159 (by first | assumption | exact lay_item (by omega) | exact lay_drive (by omega) | exact lay_job (by omega) | rfl) (by omega) rfl rfl dX3_enter_46 ?_
  refine g_ald0 dX3_enter_49 ?_
  refine g_bipush (v := -5) dX3_enter_50 (by decide +kernel) ?_
  show Go _ _ _ _ _ _ 52 _ _
  refine g_putI fb_3_9 mw_1_161 (by first | assumption | exact lay_item (by omega) | exact lay_drive (by omega) | exact lay_job (by omega) | rfl) (by omega) rfl rfl dX3_enter_52 ?_
  refine g_ald0 dX3_enter_55 ?_
  refine g_iconst (v := nI 0) dX3_enter_56 (by decide +kernel) ?_
  refine g_putI fb_3_10 mw_1_163 (by first | assumption | exact lay_item (by omega) | exact lay_drive (by omega) | exact lay_job (by omega) | rfl) (by omega) rfl rfl dX3_enter_57 ?_
  refine g_ald0 dX3_enter_60 ?_
  refine g_iconst (v := nI 0) dX3_enter_61 (by decide +kernel) ?_
  show Go _ _ _ _ _ _ 62 _ _
  refine g_putI fb_3_11 mw_1_165 (by first | assumption | exact lay_item (by omega) | exact lay_drive (by omega) | exact lay_job (by omega) | rfl) (by omega) rfl rfl dX3_enter_62 ?_
  refine g_ald0 dX3_enter_65 ?_
  refine g_iconst (v := nI 0) dX3_enter_66 (by decide +kernel) ?_
  refine g_putI fb_3_12 mw_1_168 (by first | assumption | exact lay_item (by omega) | exact lay_drive (by omega) | exact lay_job (by omega) | rfl) (by omega) rfl rfl dX3_enter_67 ?_
  exact g_vret rfl dX3_enter_70 ⟨rfl, rfl⟩
theorem c_enter (nj : Nat) (kd x s : Int32) (hS : St h 1) (hn : h.1 27 1 = nI nj) (hj : nj < 10) : Ct G mX5_enter [ga G 27, .int kd, .int x, .int s] h 456 456 (dI (nI nj) (wI (hEnt h (29 + nj) kd x s) 27 1 (nI (nj + 1)))) := by
  refine Ct.of rfl (by simp [Value.category, ga]) (Nat.le_of_ble_eq_true rfl) (Nat.le_refl _) ?_
  show Go _ _ _ _ _ _ _ [some (ga G 27), some (.int kd), some (.int x), some (.int s)] []
  refine g_ald0 dX5_enter_0 ?_
  refine g_getI_a fb_5_1 mw_1_199 (by first | assumption | exact lay_item (by omega) | exact lay_drive (by omega) | exact lay_job (by omega) | rfl) (by omega) dX5_enter_1 (fun xx1 ee1 => ?_)
  obtain rfl : xx1 = (nI nj) := ee1.symm.trans hn
  refine g_ald0 dX5_enter_4 ?_
  refine g_getQ fb_5_0 mw_1_197 (by first | assumption | exact lay_item (by omega) | exact lay_drive (by omega) | exact lay_job (by omega) | rfl) (by omega) (s1_jobs hS) dX5_enter_5 ?_
  refine g_alen (by first | assumption | exact lay_item (by omega) | exact lay_drive (by omega) | exact lay_job (by omega) | rfl) (by omega) (by decide) rfl dX5_enter_8 ?_
  show Go _ _ _ _ _ _ 9 _ _
  refine g_icmp_lt_t (tgt := 15) dX5_enter_9 (by decide) (nI_lt (by omega) (by omega)) ?_
  refine g_ald0 dX5_enter_15 ?_
  refine g_getQ fb_5_0 mw_1_197 (by first | assumption | exact lay_item (by omega) | exact lay_drive (by omega) | exact lay_job (by omega) | rfl) (by omega) (s1_jobs hS) dX5_enter_16 ?_
  refine g_ald0 dX5_enter_19 ?_
  refine g_getI_a fb_5_1 mw_1_199 (by first | assumption | exact lay_item (by omega) | exact lay_drive (by omega) | exact lay_job (by omega) | rfl) (by omega) dX5_enter_20 (fun xx20 ee20 => ?_)
  obtain rfl : xx20 = (nI nj) := ee20.symm.trans hn
  refine g_qald5 (by first | assumption | exact lay_item (by omega) | exact lay_drive (by omega) | exact lay_job (by omega) | rfl) (by omega) rfl (by omega) (s1_job hS (i := nj) (by omega)) dX5_enter_23 ?_
  show Go _ _ _ _ _ _ 24 _ _
  refine g_ild1 dX5_enter_24 ?_
  refine g_ild2 dX5_enter_25 ?_
  refine g_ild3 dX5_enter_26 ?_
  refine g_callV3 (c_jenter (h := h) (29 + nj) kd x s (lay_job (by omega)) (by omega)) mw_3_183 ok_X3_enter ⟨by decide, by decide⟩ (by first | assumption | exact lay_item (by omega) | exact lay_drive (by omega) | exact lay_job (by omega) | rfl) (by omega) rfl (by omega) (by omega) (Nat.le_of_ble_eq_true rfl) dX5_enter_27 (dV_K ?_)
  refine g_ald0 dX5_enter_30 ?_
  refine g_dup dX5_enter_31 rfl ?_
  show Go _ _ _ _ _ _ 32 _ _
  refine g_getI_a fb_5_1 mw_1_199 (by first | assumption | exact lay_item (by omega) | exact lay_drive (by omega) | exact lay_job (by omega) | rfl) (by omega) dX5_enter_32 (fun xx32 ee32 => ?_)
  obtain rfl : xx32 = (nI nj) := ee32.symm.trans (by simp (disch := omega) only [hEnt, wI_ne]; exact hn)
  refine g_dup_x1 dX5_enter_35 rfl rfl ?_
  refine g_iconst (v := nI 1) dX5_enter_36 (by decide +kernel) ?_
  refine g_iadd_v dX5_enter_37 (nI_1 nj) ?_
  refine g_putI fb_5_1 mw_1_199 (by first | assumption | exact lay_item (by omega) | exact lay_drive (by omega) | exact lay_job (by omega) | rfl) (by omega) rfl rfl dX5_enter_38 ?_
  exact g_iret rfl dX5_enter_41 ⟨rfl, rfl⟩
theorem c_faultOfJob (M : Mo) (ni nd nj kd q : Nat) (s f : Int32) (hR : Rb h M ni nd nj) (hi : ni ≤ 8) (hd : nd ≤ 4) (hq : q < 1000) (hF : Flt M ni nd kd q s f) : Ct G mX6_faultOfJob [ga G 1, .int (nI kd), .int (nI q), .int s] h 456 456 (dI f h) := by
  obtain ⟨-, ⟨n1, n2, -⟩, hI, -, -, -, -, hS⟩ := id hR
  refine Ct.of rfl (by simp [Value.category, ga]) (Nat.le_of_ble_eq_true rfl) (Nat.le_refl _) ?_
  show Go _ _ _ _ _ _ _ [some (ga G 1), some (.int (nI kd)), some (.int (nI q)), some (.int s), none] []
  rcases hF with ⟨rfl, hq2, rfl⟩ | ⟨rfl, hq2, hc, rfl⟩ | ⟨rfl, hq2, hc, rfl⟩ | ⟨rfl, hq2, rfl⟩ | ⟨rfl, hq2, rfl⟩ | ⟨rfl, hq2, rfl⟩ | ⟨rfl, hq2, ⟨t, ht, ht9, rfl⟩, rfl⟩ | ⟨rfl, hq2, ⟨t, ht, rfl⟩, rfl⟩
  · skip
    refine g_ild1 dX6_faultOfJob_0 ?_
    refine g_iconst (v := nI 1) dX6_faultOfJob_1 (by decide +kernel) ?_
    refine g_icmp_ne_t (tgt := 23) dX6_faultOfJob_2 (by decide) (by decide) ?_
    refine g_ald0 dX6_faultOfJob_23 ?_
    refine g_getQ fb_6_0 mw_2_0 (by first | assumption | exact lay_item (by omega) | exact lay_drive (by omega) | exact lay_job (by omega) | rfl) (by omega) (sh_store hS) dX6_faultOfJob_24 ?_
    show Go _ _ _ _ _ _ 27 _ _
    refine g_ild2 dX6_faultOfJob_27 ?_
    refine g_callV1 (c_itemAt_n (h := h) (nI q) ni n1 (Or.inr (nI_le hq2 (by omega)))) mw_3_177 ok_X7_itemAt ⟨by decide, by decide⟩ (by first | assumption | exact lay_item (by omega) | exact lay_drive (by omega) | exact lay_job (by omega) | rfl) (by omega) rfl (by omega) (by omega) (Nat.le_of_ble_eq_true rfl) dX6_faultOfJob_28 (dQ_Kn ?_)
    refine g_zst4 (by decide) dX6_faultOfJob_31 ?_
    refine g_zld4 dX6_faultOfJob_33 ?_
    refine g_ifnullN (tgt := 50) dX6_faultOfJob_35 (by decide) ?_
    refine g_iconst (v := -1) dX6_faultOfJob_50 (by decide +kernel) ?_
    show Go _ _ _ _ _ _ 51 _ _
    exact g_iret rfl dX6_faultOfJob_51 ⟨rfl, rfl⟩
  · skip
    refine g_ild1 dX6_faultOfJob_0 ?_
    refine g_iconst (v := nI 1) dX6_faultOfJob_1 (by decide +kernel) ?_
    refine g_icmp_ne_t (tgt := 23) dX6_faultOfJob_2 (by decide) (by decide) ?_
    refine g_ald0 dX6_faultOfJob_23 ?_
    refine g_getQ fb_6_0 mw_2_0 (by first | assumption | exact lay_item (by omega) | exact lay_drive (by omega) | exact lay_job (by omega) | rfl) (by omega) (sh_store hS) dX6_faultOfJob_24 ?_
    show Go _ _ _ _ _ _ 27 _ _
    refine g_ild2 dX6_faultOfJob_27 ?_
    refine g_callV1 (c_itemAt (h := h) q ni hS.1 n1 (by omega) hq2) mw_3_177 ok_X7_itemAt ⟨by decide, by decide⟩ (by first | assumption | exact lay_item (by omega) | exact lay_drive (by omega) | exact lay_job (by omega) | rfl) (by omega) rfl (by omega) (by omega) (Nat.le_of_ble_eq_true rfl) dX6_faultOfJob_28 (dQ_K ?_)
    refine g_ast4 (by decide) dX6_faultOfJob_31 ?_
    refine g_ald4 dX6_faultOfJob_33 ?_
    refine g_ifnull dX6_faultOfJob_35 ?_
    refine g_ild1 dX6_faultOfJob_38 ?_
    show Go _ _ _ _ _ _ 39 _ _
    refine g_iconst (v := nI 2) dX6_faultOfJob_39 (by decide +kernel) ?_
    refine g_icmp_ne_t (tgt := 52) dX6_faultOfJob_40 (by decide) (by decide) ?_
    refine g_ild1 dX6_faultOfJob_52 ?_
    refine g_if_ne_f (tgt := 69) dX6_faultOfJob_53 (by decide) rfl ?_
    refine g_ald4 dX6_faultOfJob_56 ?_
    refine g_getI_a fb_2_0 mw_1_41 (by first | assumption | exact lay_item (by omega) | exact lay_drive (by omega) | exact lay_job (by omega) | rfl) (by omega) dX6_faultOfJob_58 (fun xx58 ee58 => ?_)
    obtain rfl : xx58 = (1 : Int32) := ee58.symm.trans ((hI q hq2).1.trans hc)
    show Go _ _ _ _ _ _ 61 _ _
    refine g_if_eq_f (tgt := 69) dX6_faultOfJob_61 (by decide) (by decide) ?_
    refine g_bipush (v := -4) dX6_faultOfJob_64 (by decide +kernel) ?_
    refine g_goto (tgt := 71) dX6_faultOfJob_66 (by decide) ?_
    exact g_iret rfl dX6_faultOfJob_71 ⟨rfl, rfl⟩
  · skip
    refine g_ild1 dX6_faultOfJob_0 ?_
    refine g_iconst (v := nI 1) dX6_faultOfJob_1 (by decide +kernel) ?_
    refine g_icmp_ne_t (tgt := 23) dX6_faultOfJob_2 (by decide) (by decide) ?_
    refine g_ald0 dX6_faultOfJob_23 ?_
    refine g_getQ fb_6_0 mw_2_0 (by first | assumption | exact lay_item (by omega) | exact lay_drive (by omega) | exact lay_job (by omega) | rfl) (by omega) (sh_store hS) dX6_faultOfJob_24 ?_
    show Go _ _ _ _ _ _ 27 _ _
    refine g_ild2 dX6_faultOfJob_27 ?_
    refine g_callV1 (c_itemAt (h := h) q ni hS.1 n1 (by omega) hq2) mw_3_177 ok_X7_itemAt ⟨by decide, by decide⟩ (by first | assumption | exact lay_item (by omega) | exact lay_drive (by omega) | exact lay_job (by omega) | rfl) (by omega) rfl (by omega) (by omega) (Nat.le_of_ble_eq_true rfl) dX6_faultOfJob_28 (dQ_K ?_)
    refine g_ast4 (by decide) dX6_faultOfJob_31 ?_
    refine g_ald4 dX6_faultOfJob_33 ?_
    refine g_ifnull dX6_faultOfJob_35 ?_
    refine g_ild1 dX6_faultOfJob_38 ?_
    show Go _ _ _ _ _ _ 39 _ _
    refine g_iconst (v := nI 2) dX6_faultOfJob_39 (by decide +kernel) ?_
    refine g_icmp_ne_t (tgt := 52) dX6_faultOfJob_40 (by decide) (by decide) ?_
    refine g_ild1 dX6_faultOfJob_52 ?_
    refine g_if_ne_f (tgt := 69) dX6_faultOfJob_53 (by decide) rfl ?_
    refine g_ald4 dX6_faultOfJob_56 ?_
    refine g_getI_a fb_2_0 mw_1_41 (by first | assumption | exact lay_item (by omega) | exact lay_drive (by omega) | exact lay_job (by omega) | rfl) (by omega) dX6_faultOfJob_58 (fun xx58 ee58 => ?_)
    obtain rfl : xx58 = (0 : Int32) := ee58.symm.trans ((hI q hq2).1.trans hc)
    show Go _ _ _ _ _ _ 61 _ _
    refine g_if_eq_t (tgt := 69) dX6_faultOfJob_61 (by decide) rfl ?_
    refine g_bipush (v := -5) dX6_faultOfJob_69 (by decide +kernel) ?_
    exact g_iret rfl dX6_faultOfJob_71 ⟨rfl, rfl⟩
  · skip
    refine g_ild1 dX6_faultOfJob_0 ?_
    refine g_iconst (v := nI 1) dX6_faultOfJob_1 (by decide +kernel) ?_
    refine g_icmp_ne_f (tgt := 23) dX6_faultOfJob_2 (by decide) rfl ?_
    refine g_ald0 dX6_faultOfJob_5 ?_
    refine g_getQ fb_6_0 mw_2_0 (by first | assumption | exact lay_item (by omega) | exact lay_drive (by omega) | exact lay_job (by omega) | rfl) (by omega) (sh_store hS) dX6_faultOfJob_6 ?_
    show Go _ _ _ _ _ _ 9 _ _
    refine g_ild2 dX6_faultOfJob_9 ?_
    refine g_callV1 (c_driveAt_n (h := h) (nI q) nd n2 (Or.inr (nI_le hq2 (by omega)))) mw_3_15 ok_X7_driveAt ⟨by decide, by decide⟩ (by first | assumption | exact lay_item (by omega) | exact lay_drive (by omega) | exact lay_job (by omega) | rfl) (by omega) rfl (by omega) (by omega) (Nat.le_of_ble_eq_true rfl) dX6_faultOfJob_10 (dQ_Kn ?_)
    refine g_ifnonnullN dX6_faultOfJob_13 ?_
    refine g_iconst (v := -1) dX6_faultOfJob_16 (by decide +kernel) ?_
    refine g_goto (tgt := 22) dX6_faultOfJob_17 (by decide) ?_
    exact g_iret rfl dX6_faultOfJob_22 ⟨rfl, rfl⟩
  · skip
    refine g_ild1 dX6_faultOfJob_0 ?_
    refine g_iconst (v := nI 1) dX6_faultOfJob_1 (by decide +kernel) ?_
    refine g_icmp_ne_f (tgt := 23) dX6_faultOfJob_2 (by decide) rfl ?_
    refine g_ald0 dX6_faultOfJob_5 ?_
    refine g_getQ fb_6_0 mw_2_0 (by first | assumption | exact lay_item (by omega) | exact lay_drive (by omega) | exact lay_job (by omega) | rfl) (by omega) (sh_store hS) dX6_faultOfJob_6 ?_
    show Go _ _ _ _ _ _ 9 _ _
    refine g_ild2 dX6_faultOfJob_9 ?_
    refine g_callV1 (c_driveAt (h := h) q nd hS.1 n2 hd hq2) mw_3_15 ok_X7_driveAt ⟨by decide, by decide⟩ (by first | assumption | exact lay_item (by omega) | exact lay_drive (by omega) | exact lay_job (by omega) | rfl) (by omega) rfl (by omega) (by omega) (Nat.le_of_ble_eq_true rfl) dX6_faultOfJob_10 (dQ_K ?_)
    refine g_ifnonnull (tgt := 20) dX6_faultOfJob_13 (by decide) ?_
    refine g_bipush (v := -5) dX6_faultOfJob_20 (by decide +kernel) ?_
    exact g_iret rfl dX6_faultOfJob_22 ⟨rfl, rfl⟩
  · skip
    refine g_ild1 dX6_faultOfJob_0 ?_
    refine g_iconst (v := nI 1) dX6_faultOfJob_1 (by decide +kernel) ?_
    refine g_icmp_ne_t (tgt := 23) dX6_faultOfJob_2 (by decide) (by decide) ?_
    refine g_ald0 dX6_faultOfJob_23 ?_
    refine g_getQ fb_6_0 mw_2_0 (by first | assumption | exact lay_item (by omega) | exact lay_drive (by omega) | exact lay_job (by omega) | rfl) (by omega) (sh_store hS) dX6_faultOfJob_24 ?_
    show Go _ _ _ _ _ _ 27 _ _
    refine g_ild2 dX6_faultOfJob_27 ?_
    refine g_callV1 (c_itemAt_n (h := h) (nI q) ni n1 (Or.inr (nI_le hq2 (by omega)))) mw_3_177 ok_X7_itemAt ⟨by decide, by decide⟩ (by first | assumption | exact lay_item (by omega) | exact lay_drive (by omega) | exact lay_job (by omega) | rfl) (by omega) rfl (by omega) (by omega) (Nat.le_of_ble_eq_true rfl) dX6_faultOfJob_28 (dQ_Kn ?_)
    refine g_zst4 (by decide) dX6_faultOfJob_31 ?_
    refine g_zld4 dX6_faultOfJob_33 ?_
    refine g_ifnullN (tgt := 50) dX6_faultOfJob_35 (by decide) ?_
    refine g_iconst (v := -1) dX6_faultOfJob_50 (by decide +kernel) ?_
    show Go _ _ _ _ _ _ 51 _ _
    exact g_iret rfl dX6_faultOfJob_51 ⟨rfl, rfl⟩
  · skip
    refine g_ild1 dX6_faultOfJob_0 ?_
    refine g_iconst (v := nI 1) dX6_faultOfJob_1 (by decide +kernel) ?_
    refine g_icmp_ne_t (tgt := 23) dX6_faultOfJob_2 (by decide) (by decide) ?_
    refine g_ald0 dX6_faultOfJob_23 ?_
    refine g_getQ fb_6_0 mw_2_0 (by first | assumption | exact lay_item (by omega) | exact lay_drive (by omega) | exact lay_job (by omega) | rfl) (by omega) (sh_store hS) dX6_faultOfJob_24 ?_
    show Go _ _ _ _ _ _ 27 _ _
    refine g_ild2 dX6_faultOfJob_27 ?_
    refine g_callV1 (c_itemAt (h := h) q ni hS.1 n1 (by omega) hq2) mw_3_177 ok_X7_itemAt ⟨by decide, by decide⟩ (by first | assumption | exact lay_item (by omega) | exact lay_drive (by omega) | exact lay_job (by omega) | rfl) (by omega) rfl (by omega) (by omega) (Nat.le_of_ble_eq_true rfl) dX6_faultOfJob_28 (dQ_K ?_)
    refine g_ast4 (by decide) dX6_faultOfJob_31 ?_
    refine g_ald4 dX6_faultOfJob_33 ?_
    refine g_ifnull dX6_faultOfJob_35 ?_
    refine g_ild1 dX6_faultOfJob_38 ?_
    show Go _ _ _ _ _ _ 39 _ _
    refine g_iconst (v := nI 2) dX6_faultOfJob_39 (by decide +kernel) ?_
    refine g_icmp_ne_f (tgt := 52) dX6_faultOfJob_40 (by decide) rfl ?_
    refine g_ild3 dX6_faultOfJob_43 ?_
    refine g_callS1 (c_hasSlot (h := h) t ht9) mw_3_178 ok_X7_hasSlot ⟨by decide, by decide⟩ (by omega) (by omega) (Nat.le_of_ble_eq_true rfl) dX6_faultOfJob_44 (dI_K ?_)
    rw [if_neg (by omega)]
    refine g_if_ne_f (tgt := 52) dX6_faultOfJob_47 (by decide) (by decide) ?_
    refine g_iconst (v := -1) dX6_faultOfJob_50 (by decide +kernel) ?_
    show Go _ _ _ _ _ _ 51 _ _
    exact g_iret rfl dX6_faultOfJob_51 ⟨rfl, rfl⟩
  · skip
    refine g_ild1 dX6_faultOfJob_0 ?_
    refine g_iconst (v := nI 1) dX6_faultOfJob_1 (by decide +kernel) ?_
    refine g_icmp_ne_t (tgt := 23) dX6_faultOfJob_2 (by decide) (by decide) ?_
    refine g_ald0 dX6_faultOfJob_23 ?_
    refine g_getQ fb_6_0 mw_2_0 (by first | assumption | exact lay_item (by omega) | exact lay_drive (by omega) | exact lay_job (by omega) | rfl) (by omega) (sh_store hS) dX6_faultOfJob_24 ?_
    show Go _ _ _ _ _ _ 27 _ _
    refine g_ild2 dX6_faultOfJob_27 ?_
    refine g_callV1 (c_itemAt (h := h) q ni hS.1 n1 (by omega) hq2) mw_3_177 ok_X7_itemAt ⟨by decide, by decide⟩ (by first | assumption | exact lay_item (by omega) | exact lay_drive (by omega) | exact lay_job (by omega) | rfl) (by omega) rfl (by omega) (by omega) (Nat.le_of_ble_eq_true rfl) dX6_faultOfJob_28 (dQ_K ?_)
    refine g_ast4 (by decide) dX6_faultOfJob_31 ?_
    refine g_ald4 dX6_faultOfJob_33 ?_
    refine g_ifnull dX6_faultOfJob_35 ?_
    refine g_ild1 dX6_faultOfJob_38 ?_
    show Go _ _ _ _ _ _ 39 _ _
    refine g_iconst (v := nI 2) dX6_faultOfJob_39 (by decide +kernel) ?_
    refine g_icmp_ne_f (tgt := 52) dX6_faultOfJob_40 (by decide) rfl ?_
    refine g_ild3 dX6_faultOfJob_43 ?_
    refine g_callS1 (c_hasSlot (h := h) t (by omega)) mw_3_178 ok_X7_hasSlot ⟨by decide, by decide⟩ (by omega) (by omega) (Nat.le_of_ble_eq_true rfl) dX6_faultOfJob_44 (dI_K ?_)
    rw [if_pos ht]
    refine g_if_ne_t (tgt := 52) dX6_faultOfJob_47 (by decide) (by decide) ?_
    refine g_ild1 dX6_faultOfJob_52 ?_
    show Go _ _ _ _ _ _ 53 _ _
    refine g_if_ne_t (tgt := 69) dX6_faultOfJob_53 (by decide) (by decide) ?_
    refine g_bipush (v := -5) dX6_faultOfJob_69 (by decide +kernel) ?_
    exact g_iret rfl dX6_faultOfJob_71 ⟨rfl, rfl⟩
theorem c_giveJob_f (M : Mo) (ni nd nj kd q : Nat) (s f : Int32) (hR : Rb h M ni nd nj) (hi : ni ≤ 8) (hd : nd ≤ 4) (hq : q < 1000) (hF : Flt M ni nd kd q s f) (hf : f ≠ -5) : Ct G mX9_giveJob [ga G 0, .int (nI kd), .int (nI q), .int s] h 456 456 (dI f h) := by
  have hS := hR.2.2.2.2.2.2.2
  refine Ct.of rfl (by simp [Value.category, ga]) (Nat.le_of_ble_eq_true rfl) (Nat.le_refl _) ?_
  show Go _ _ _ _ _ _ _ [some (ga G 0), some (.int (nI kd)), some (.int (nI q)), some (.int s), none] []
  refine g_ald0 dX9_giveJob_0 ?_
  refine g_getQ fb_9_0 mw_2_95 (by first | assumption | exact lay_item (by omega) | exact lay_drive (by omega) | exact lay_job (by omega) | rfl) (by omega) (sh_now hS) dX9_giveJob_1 ?_
  refine g_ild1 dX9_giveJob_4 ?_
  refine g_ild2 dX9_giveJob_5 ?_
  refine g_ild3 dX9_giveJob_6 ?_
  show Go _ _ _ _ _ _ 7 _ _
  refine g_callV3 (c_faultOfJob (h := h) M ni nd nj kd q s f hR hi hd hq hF) mw_3_173 ok_X6_faultOfJob ⟨by decide, by decide⟩ (by first | assumption | exact lay_item (by omega) | exact lay_drive (by omega) | exact lay_job (by omega) | rfl) (by omega) rfl (by omega) (by omega) (Nat.le_of_ble_eq_true rfl) dX9_giveJob_7 (dI_K ?_)
  refine g_ist4 (by decide) dX9_giveJob_10 ?_
  refine g_ild4 dX9_giveJob_12 ?_
  refine g_bipush (v := -5) dX9_giveJob_14 (by decide +kernel) ?_
  refine g_icmp_eq_f (tgt := 22) dX9_giveJob_16 (by decide) hf ?_
  refine g_ild4 dX9_giveJob_19 ?_
  show Go _ _ _ _ _ _ 21 _ _
  exact g_iret rfl dX9_giveJob_21 ⟨rfl, rfl⟩
theorem c_giveJob (M : Mo) (ni nd nj kd q : Nat) (s : Int32) (hR : Rb h M ni nd nj) (hi : ni ≤ 8) (hd : nd ≤ 4) (hj : nj < 10) (hC : Icl M ni) (hc : M.1 5 nj = 0) (hq : q < 1000) (hF : Flt M ni nd kd q s (-5)) : Ct G mX9_giveJob [ga G 0, .int (nI kd), .int (nI q), .int s] h 456 456 (rI (fun r h' => r = nI nj ∧ Rb h' (mGive M nj (nI kd) (nI q) s) ni nd (nj + 1) ∧ KL h h')) := by
  obtain ⟨-, ⟨-, -, hn, -⟩, -, -, -, -, hH, hS⟩ := id hR
  refine Ct.of rfl (by simp [Value.category, ga]) (Nat.le_of_ble_eq_true rfl) (Nat.le_refl _) ?_
  show Go _ _ _ _ _ _ _ [some (ga G 0), some (.int (nI kd)), some (.int (nI q)), some (.int s), none] []
  refine g_ald0 dX9_giveJob_0 ?_
  refine g_getQ fb_9_0 mw_2_95 (by first | assumption | exact lay_item (by omega) | exact lay_drive (by omega) | exact lay_job (by omega) | rfl) (by omega) (sh_now hS) dX9_giveJob_1 ?_
  refine g_ild1 dX9_giveJob_4 ?_
  refine g_ild2 dX9_giveJob_5 ?_
  refine g_ild3 dX9_giveJob_6 ?_
  show Go _ _ _ _ _ _ 7 _ _
  refine g_callV3 (c_faultOfJob (h := h) M ni nd nj kd q s _ hR hi hd hq hF) mw_3_173 ok_X6_faultOfJob ⟨by decide, by decide⟩ (by first | assumption | exact lay_item (by omega) | exact lay_drive (by omega) | exact lay_job (by omega) | rfl) (by omega) rfl (by omega) (by omega) (Nat.le_of_ble_eq_true rfl) dX9_giveJob_7 (dI_K ?_)
  refine g_ist4 (by decide) dX9_giveJob_10 ?_
  refine g_ild4 dX9_giveJob_12 ?_
  refine g_bipush (v := -5) dX9_giveJob_14 (by decide +kernel) ?_
  refine g_icmp_eq_t (tgt := 22) dX9_giveJob_16 (by decide) rfl ?_
  refine g_ald0 dX9_giveJob_22 ?_
  show Go _ _ _ _ _ _ 23 _ _
  refine g_getQ fb_9_0 mw_2_95 (by first | assumption | exact lay_item (by omega) | exact lay_drive (by omega) | exact lay_job (by omega) | rfl) (by omega) (sh_now hS) dX9_giveJob_23 ?_
  refine g_getQ fb_6_1 mw_2_3 (by first | assumption | exact lay_item (by omega) | exact lay_drive (by omega) | exact lay_job (by omega) | rfl) (by omega) (sh_queue hS) dX9_giveJob_26 ?_
  refine g_getI_a fb_5_1 mw_1_201 (by first | assumption | exact lay_item (by omega) | exact lay_drive (by omega) | exact lay_job (by omega) | rfl) (by omega) dX9_giveJob_29 (fun xx29 ee29 => ?_)
  obtain rfl : xx29 = (nI nj) := ee29.symm.trans hn
  refine g_bipush (v := nI 30) dX9_giveJob_32 (by decide +kernel) ?_
  refine g_icmp_lt_t (tgt := 40) dX9_giveJob_34 (by decide) (nI_lt (by omega) (by omega)) ?_
  refine g_ald0 dX9_giveJob_40 ?_
  show Go _ _ _ _ _ _ 41 _ _
  refine g_getQ fb_9_1 mw_2_96 (by first | assumption | exact lay_item (by omega) | exact lay_drive (by omega) | exact lay_job (by omega) | rfl) (by omega) (sh_hist hS) dX9_giveJob_41 ?_
  refine g_ald0 dX9_giveJob_44 ?_
  refine g_getQ fb_9_0 mw_2_95 (by first | assumption | exact lay_item (by omega) | exact lay_drive (by omega) | exact lay_job (by omega) | rfl) (by omega) (sh_now hS) dX9_giveJob_45 ?_
  refine g_callV1 (c_record (h := h) hS (hR.cn hi hd (by omega) hC) hH) mw_3_79 ok_X1_record ⟨by decide, by decide⟩ (by first | assumption | exact lay_item (by omega) | exact lay_drive (by omega) | exact lay_job (by omega) | rfl) (by omega) rfl (by omega) (by omega) (Nat.le_of_ble_eq_true rfl) dX9_giveJob_48 (rV_K ?_)
  intro h1 k1
  have hS := k1.2.1
  have R1 := hR.kp hi hd (by omega) k1
  refine g_ald0 dX9_giveJob_51 ?_
  refine g_getQ fb_9_0 mw_2_95 (by first | assumption | exact lay_item (by omega) | exact lay_drive (by omega) | exact lay_job (by omega) | rfl) (by omega) (sh_now hS) dX9_giveJob_52 ?_
  show Go _ _ _ _ _ _ 55 _ _
  refine g_getQ fb_6_1 mw_2_3 (by first | assumption | exact lay_item (by omega) | exact lay_drive (by omega) | exact lay_job (by omega) | rfl) (by omega) (sh_queue hS) dX9_giveJob_55 ?_
  refine g_ild1 dX9_giveJob_58 ?_
  refine g_ild2 dX9_giveJob_59 ?_
  refine g_ild3 dX9_giveJob_60 ?_
  refine g_callV3 (c_enter (h := h1) nj _ _ _ hS.1 R1.2.1.2.2.1 hj) mw_3_179 ok_X5_enter ⟨by decide, by decide⟩ (by first | assumption | exact lay_item (by omega) | exact lay_drive (by omega) | exact lay_job (by omega) | rfl) (by omega) rfl (by omega) (by omega) (Nat.le_of_ble_eq_true rfl) dX9_giveJob_61 (dI_K ?_)
  exact g_iret rfl dX9_giveJob_64 ⟨_, rfl, rfl, rb_give R1 hi hd hj hc _ _ _, KL.wI (by omega) (by unfold hEnt; repeat (first | exact KL.kp k1 | refine KL.wI (by omega) ?_))⟩
theorem c_read_f (M : Mo) (ni nd nj q : Nat) (f : Int32) (hR : Rb h M ni nd nj) (hi : ni ≤ 8) (hd : nd ≤ 4) (hq : q < 1000) (hF : Flt M ni nd 0 q (-5) f) (hf : f ≠ -5) : Ct G mX9_read [ga G 0, .int (nI q)] h 456 456 (dI f h) := by
  refine Ct.of rfl (by simp [Value.category, ga]) (Nat.le_of_ble_eq_true rfl) (Nat.le_refl _) ?_
  show Go _ _ _ _ _ _ _ [some (ga G 0), some (.int (nI q))] []
  refine g_ald0 dX9_read_0 ?_
  refine g_iconst (v := nI 0) dX9_read_1 (by decide +kernel) ?_
  refine g_ild1 dX9_read_2 ?_
  refine g_bipush (v := -5) dX9_read_3 (by decide +kernel) ?_
  refine g_callV3 (c_giveJob_f (h := h) M ni nd nj 0 q (-5) f hR hi hd hq hF hf) mw_3_169 ok_X9_giveJob ⟨by decide, by decide⟩ (by first | assumption | exact lay_item (by omega) | exact lay_drive (by omega) | exact lay_job (by omega) | rfl) (by omega) rfl (by omega) (by omega) (Nat.le_of_ble_eq_true rfl) dX9_read_5 (dI_K ?_)
  show Go _ _ _ _ _ _ 8 _ _
  exact g_iret rfl dX9_read_8 ⟨rfl, rfl⟩
theorem c_read (M : Mo) (ni nd nj q : Nat) (hR : Rb h M ni nd nj) (hi : ni ≤ 8) (hd : nd ≤ 4) (hj : nj < 10) (hC : Icl M ni) (hc : M.1 5 nj = 0) (hq : q < 1000) (hF : Flt M ni nd 0 q (-5) (-5)) : Ct G mX9_read [ga G 0, .int (nI q)] h 456 456 (rI (fun r h' => r = nI nj ∧ Rb h' (mGive M nj (nI 0) (nI q) (-5)) ni nd (nj + 1) ∧ KL h h')) := by
  refine Ct.of rfl (by simp [Value.category, ga]) (Nat.le_of_ble_eq_true rfl) (Nat.le_refl _) ?_
  show Go _ _ _ _ _ _ _ [some (ga G 0), some (.int (nI q))] []
  refine g_ald0 dX9_read_0 ?_
  refine g_iconst (v := nI 0) dX9_read_1 (by decide +kernel) ?_
  refine g_ild1 dX9_read_2 ?_
  refine g_bipush (v := -5) dX9_read_3 (by decide +kernel) ?_
  refine g_callV3 (c_giveJob (h := h) M ni nd nj 0 q (-5) hR hi hd hj hC hc hq hF) mw_3_169 ok_X9_giveJob ⟨by decide, by decide⟩ (by first | assumption | exact lay_item (by omega) | exact lay_drive (by omega) | exact lay_job (by omega) | rfl) (by omega) rfl (by omega) (by omega) (Nat.le_of_ble_eq_true rfl) dX9_read_5 (rI_K ?_)
  intro r h' hr
  show Go _ _ _ _ _ _ 8 _ _
  exact g_iret rfl dX9_read_8 ⟨r, rfl, hr⟩
theorem c_clean_f (M : Mo) (ni nd nj q : Nat) (f : Int32) (hR : Rb h M ni nd nj) (hi : ni ≤ 8) (hd : nd ≤ 4) (hq : q < 1000) (hF : Flt M ni nd 1 q (-5) f) (hf : f ≠ -5) : Ct G mX9_clean [ga G 0, .int (nI q)] h 456 456 (dI f h) := by
  refine Ct.of rfl (by simp [Value.category, ga]) (Nat.le_of_ble_eq_true rfl) (Nat.le_refl _) ?_
  show Go _ _ _ _ _ _ _ [some (ga G 0), some (.int (nI q))] []
  refine g_ald0 dX9_clean_0 ?_
  refine g_iconst (v := nI 1) dX9_clean_1 (by decide +kernel) ?_
  refine g_ild1 dX9_clean_2 ?_
  refine g_bipush (v := -5) dX9_clean_3 (by decide +kernel) ?_
  refine g_callV3 (c_giveJob_f (h := h) M ni nd nj 1 q (-5) f hR hi hd hq hF hf) mw_3_169 ok_X9_giveJob ⟨by decide, by decide⟩ (by first | assumption | exact lay_item (by omega) | exact lay_drive (by omega) | exact lay_job (by omega) | rfl) (by omega) rfl (by omega) (by omega) (Nat.le_of_ble_eq_true rfl) dX9_clean_5 (dI_K ?_)
  show Go _ _ _ _ _ _ 8 _ _
  exact g_iret rfl dX9_clean_8 ⟨rfl, rfl⟩
theorem c_clean (M : Mo) (ni nd nj q : Nat) (hR : Rb h M ni nd nj) (hi : ni ≤ 8) (hd : nd ≤ 4) (hj : nj < 10) (hC : Icl M ni) (hc : M.1 5 nj = 0) (hq : q < 1000) (hF : Flt M ni nd 1 q (-5) (-5)) : Ct G mX9_clean [ga G 0, .int (nI q)] h 456 456 (rI (fun r h' => r = nI nj ∧ Rb h' (mGive M nj (nI 1) (nI q) (-5)) ni nd (nj + 1) ∧ KL h h')) := by
  refine Ct.of rfl (by simp [Value.category, ga]) (Nat.le_of_ble_eq_true rfl) (Nat.le_refl _) ?_
  show Go _ _ _ _ _ _ _ [some (ga G 0), some (.int (nI q))] []
  refine g_ald0 dX9_clean_0 ?_
  refine g_iconst (v := nI 1) dX9_clean_1 (by decide +kernel) ?_
  refine g_ild1 dX9_clean_2 ?_
  refine g_bipush (v := -5) dX9_clean_3 (by decide +kernel) ?_
  refine g_callV3 (c_giveJob (h := h) M ni nd nj 1 q (-5) hR hi hd hj hC hc hq hF) mw_3_169 ok_X9_giveJob ⟨by decide, by decide⟩ (by first | assumption | exact lay_item (by omega) | exact lay_drive (by omega) | exact lay_job (by omega) | rfl) (by omega) rfl (by omega) (by omega) (Nat.le_of_ble_eq_true rfl) dX9_clean_5 (rI_K ?_)
  intro r h' hr
  show Go _ _ _ _ _ _ 8 _ _
  exact g_iret rfl dX9_clean_8 ⟨r, rfl, hr⟩
theorem c_move_f (M : Mo) (ni nd nj q : Nat) (s f : Int32) (hR : Rb h M ni nd nj) (hi : ni ≤ 8) (hd : nd ≤ 4) (hq : q < 1000) (hF : Flt M ni nd 2 q s f) (hf : f ≠ -5) : Ct G mX9_move [ga G 0, .int (nI q), .int s] h 456 456 (dI f h) := by
  refine Ct.of rfl (by simp [Value.category, ga]) (Nat.le_of_ble_eq_true rfl) (Nat.le_refl _) ?_
  show Go _ _ _ _ _ _ _ [some (ga G 0), some (.int (nI q)), some (.int s)] []
  refine g_ald0 dX9_move_0 ?_
  refine g_iconst (v := nI 2) dX9_move_1 (by decide +kernel) ?_
  refine g_ild1 dX9_move_2 ?_
  refine g_ild2 dX9_move_3 ?_
  refine g_callV3 (c_giveJob_f (h := h) M ni nd nj 2 q s f hR hi hd hq hF hf) mw_3_169 ok_X9_giveJob ⟨by decide, by decide⟩ (by first | assumption | exact lay_item (by omega) | exact lay_drive (by omega) | exact lay_job (by omega) | rfl) (by omega) rfl (by omega) (by omega) (Nat.le_of_ble_eq_true rfl) dX9_move_4 (dI_K ?_)
  show Go _ _ _ _ _ _ 7 _ _
  exact g_iret rfl dX9_move_7 ⟨rfl, rfl⟩
theorem c_move (M : Mo) (ni nd nj q : Nat) (s : Int32) (hR : Rb h M ni nd nj) (hi : ni ≤ 8) (hd : nd ≤ 4) (hj : nj < 10) (hC : Icl M ni) (hc : M.1 5 nj = 0) (hq : q < 1000) (hF : Flt M ni nd 2 q s (-5)) : Ct G mX9_move [ga G 0, .int (nI q), .int s] h 456 456 (rI (fun r h' => r = nI nj ∧ Rb h' (mGive M nj (nI 2) (nI q) s) ni nd (nj + 1) ∧ KL h h')) := by
  refine Ct.of rfl (by simp [Value.category, ga]) (Nat.le_of_ble_eq_true rfl) (Nat.le_refl _) ?_
  show Go _ _ _ _ _ _ _ [some (ga G 0), some (.int (nI q)), some (.int s)] []
  refine g_ald0 dX9_move_0 ?_
  refine g_iconst (v := nI 2) dX9_move_1 (by decide +kernel) ?_
  refine g_ild1 dX9_move_2 ?_
  refine g_ild2 dX9_move_3 ?_
  refine g_callV3 (c_giveJob (h := h) M ni nd nj 2 q s hR hi hd hj hC hc hq hF) mw_3_169 ok_X9_giveJob ⟨by decide, by decide⟩ (by first | assumption | exact lay_item (by omega) | exact lay_drive (by omega) | exact lay_job (by omega) | rfl) (by omega) rfl (by omega) (by omega) (Nat.le_of_ble_eq_true rfl) dX9_move_4 (rI_K ?_)
  intro r h' hr
  show Go _ _ _ _ _ _ 7 _ _
  exact g_iret rfl dX9_move_7 ⟨r, rfl, hr⟩
end P43
