/-! ===== THE ROBOT'S STEPS, OVER THE MACHINE ===== -/
theorem KL.rf (h : Hp) : KL h h := ⟨fun _ _ _ => rfl, rfl⟩
theorem KL.tr {h h1 h2 : Hp} (a : KL h h1) (b : KL h1 h2) : KL h h2 := ⟨fun x j hx => (b.1 x j hx).trans (a.1 x j hx), b.2.trans a.2⟩
theorem KL.wI {h h1 : Hp} {a k : Nat} {v : Int32} (ha : a < 449) (c : KL h h1) : KL h (wI h1 a k v) := ⟨fun x j hx => (wI_ne (by omega)).trans (c.1 x j hx), c.2⟩
theorem KL.wF {h h1 : Hp} {a k : Nat} {v : UInt32} (c : KL h h1) : KL h (wF h1 a k v) := c
theorem KL.lg {h h1 h2 : Hp} (c : KL h h1) (k : LgK h1 h2) : KL h h2 := ⟨fun x j hx => (k.1 x j (by omega)).trans (c.1 x j hx), (congrArg (fun z => z.2.1) k.2.1).trans c.2⟩
theorem lg_own {h h' : Hp} (k : LgK h h') {a j : Nat} (ha : a < 59 ∨ 63 < a) : h'.1 a j = h.1 a j := k.1 a j ha
theorem u0 {x : UInt32} (h : x.toNat = 0) : x = 0 := UInt32.toNat_inj.mp h
section P24
variable {G : Gl} {h : Hp}
theorem c_takeInHand (it : Nat) (hi : it < 18) : Ct G mX6_takeInHand [ga G 1, ga G (4 + it), .int (nI it)] h 456 456 (dI 1 (wI (wI (wI h (4 + it) 2 (nI 1)) (4 + it) 3 (-5)) 1 7 (nI it))) := by
  refine Ct.of rfl (by simp [Value.category, ga]) (Nat.le_of_ble_eq_true rfl) (Nat.le_refl _) ?_
  show Go _ _ _ _ _ _ _ [some (ga G 1), some (ga G (4 + it)), some (.int (nI it))] []
  refine g_ald1 dX6_takeInHand_0 ?_
  refine g_iconst (v := nI 1) dX6_takeInHand_1 (by decide +kernel) ?_
  refine g_putI fb_2_2 mw_1_48 (by first | rfl | assumption | (exact lay_item (by omega)) | (exact lay_drive (by omega)) | (exact lay_job (by omega))) (by omega) rfl rfl dX6_takeInHand_2 ?_
  refine g_ald1 dX6_takeInHand_5 ?_
  refine g_bipush (v := -5) dX6_takeInHand_6 (by decide +kernel) ?_
  show Go _ _ _ _ _ _ 8 _ _
  refine g_putI fb_2_3 mw_1_50 (by first | rfl | assumption | (exact lay_item (by omega)) | (exact lay_drive (by omega)) | (exact lay_job (by omega))) (by omega) rfl rfl dX6_takeInHand_8 ?_
  refine g_ald0 dX6_takeInHand_11 ?_
  refine g_ild2 dX6_takeInHand_12 ?_
  refine g_putI fb_6_7 mw_2_13 (by first | rfl | assumption | (exact lay_item (by omega)) | (exact lay_drive (by omega)) | (exact lay_job (by omega))) (by omega) rfl rfl dX6_takeInHand_13 ?_
  refine g_iconst (v := nI 1) dX6_takeInHand_16 (by decide +kernel) ?_
  exact g_zret rfl rfl dX6_takeInHand_17 ⟨rfl, rfl⟩
theorem c_putHome (it : Nat) (hi : it < 18) : Ct G mX6_putHome [ga G 1, ga G (4 + it)] h 456 456 (dI 1 (wI (wI h (4 + it) 2 (nI 0)) 1 7 (-5))) := by
  refine Ct.of rfl (by simp [Value.category, ga]) (Nat.le_of_ble_eq_true rfl) (Nat.le_refl _) ?_
  show Go _ _ _ _ _ _ _ [some (ga G 1), some (ga G (4 + it))] []
  refine g_ald1 dX6_putHome_0 ?_
  refine g_iconst (v := nI 0) dX6_putHome_1 (by decide +kernel) ?_
  refine g_putI fb_2_2 mw_1_48 (by first | rfl | assumption | (exact lay_item (by omega)) | (exact lay_drive (by omega)) | (exact lay_job (by omega))) (by omega) rfl rfl dX6_putHome_2 ?_
  refine g_ald0 dX6_putHome_5 ?_
  refine g_bipush (v := -5) dX6_putHome_6 (by decide +kernel) ?_
  show Go _ _ _ _ _ _ 8 _ _
  refine g_putI fb_6_7 mw_2_13 (by first | rfl | assumption | (exact lay_item (by omega)) | (exact lay_drive (by omega)) | (exact lay_job (by omega))) (by omega) rfl rfl dX6_putHome_8 ?_
  refine g_iconst (v := nI 1) dX6_putHome_11 (by decide +kernel) ?_
  exact g_zret rfl rfl dX6_putHome_12 ⟨rfl, rfl⟩
theorem c_loadDrive (M : Mo) (ni nd nj j it k : Nat) (hR : Rb h M ni nd nj) (hi : ni ≤ 8) (hd : nd ≤ 4) (hj : nj ≤ 10) (hj9 : j < nj) (ht : it < ni) (hk : k < nd) (h5 : M.1 3 (6 * j + 5) = nI k) (hB : PhB M nd it) : Ct G mX6_loadDrive [ga G 1, ga G (29 + j), ga G (4 + it), ga G (23 + k)] h 456 456 (rI (fun r h' => r = 1 ∧ Rb h' (mLoad M it k) ni nd nj ∧ KL h h')) := by
  obtain ⟨⟨-, -, e7, -⟩, -, -, -, hJ, -, -, hS⟩ := id hR
  obtain ⟨-, ⟨-, -, -, -, f7⟩, -⟩ := hJ j hj9
  refine Ct.of rfl (by simp [Value.category, ga]) (Nat.le_of_ble_eq_true rfl) (Nat.le_refl _) ?_
  show Go _ _ _ _ _ _ _ [some (ga G 1), some (ga G (29 + j)), some (ga G (4 + it)), some (ga G (23 + k))] []
  refine g_ald2 dX6_loadDrive_0 ?_
  refine g_iconst (v := nI 2) dX6_loadDrive_1 (by decide +kernel) ?_
  refine g_putI fb_2_2 mw_1_48 (by first | rfl | assumption | (exact lay_item (by omega)) | (exact lay_drive (by omega)) | (exact lay_job (by omega))) (by omega) rfl rfl dX6_loadDrive_2 ?_
  refine g_ald2 dX6_loadDrive_5 ?_
  refine g_ald1 dX6_loadDrive_6 ?_
  show Go _ _ _ _ _ _ 7 _ _
  refine g_getI_a fb_3_7 mw_1_158 (by first | rfl | assumption | (exact lay_item (by omega)) | (exact lay_drive (by omega)) | (exact lay_job (by omega))) (by omega) dX6_loadDrive_7 (fun xx7 ee7 => ?_)
  obtain rfl : xx7 = (nI k) := ee7.symm.trans (by (try simp (disch := omega) only [wI_at, wI_ne, wF_at, wF_ne, wI_f, wF_i]) <;> first | exact f7.trans h5 | rfl)
  refine g_putI fb_2_3 mw_1_50 (by first | rfl | assumption | (exact lay_item (by omega)) | (exact lay_drive (by omega)) | (exact lay_job (by omega))) (by omega) rfl rfl dX6_loadDrive_10 ?_
  refine g_ald3 dX6_loadDrive_13 ?_
  refine g_ald0 dX6_loadDrive_14 ?_
  refine g_getI_a fb_6_7 mw_2_13 (by first | rfl | assumption | (exact lay_item (by omega)) | (exact lay_drive (by omega)) | (exact lay_job (by omega))) (by omega) dX6_loadDrive_15 (fun xx15 ee15 => ?_)
  obtain rfl : xx15 = (nI it) := ee15.symm.trans (by (try simp (disch := omega) only [wI_at, wI_ne, wF_at, wF_ne, wI_f, wF_i]) <;> first | exact e7.trans hB.1 | rfl)
  refine g_putI fb_0_6 mw_1_96 (by first | rfl | assumption | (exact lay_item (by omega)) | (exact lay_drive (by omega)) | (exact lay_job (by omega))) (by omega) rfl rfl dX6_loadDrive_18 ?_
  show Go _ _ _ _ _ _ 21 _ _
  refine g_ald0 dX6_loadDrive_21 ?_
  refine g_bipush (v := -5) dX6_loadDrive_22 (by decide +kernel) ?_
  refine g_putI fb_6_7 mw_2_13 (by first | rfl | assumption | (exact lay_item (by omega)) | (exact lay_drive (by omega)) | (exact lay_job (by omega))) (by omega) rfl rfl dX6_loadDrive_24 ?_
  refine g_iconst (v := nI 1) dX6_loadDrive_27 (by decide +kernel) ?_
  exact g_zret rfl rfl dX6_loadDrive_28 ⟨1, rfl, rfl, rb_load hR hi hd hj it k ht hk hB.2, by repeat (first | exact KL.rf _ | refine KL.wI (by omega) ?_)⟩
theorem c_unloadDrive (M : Mo) (ni nd nj j it k : Nat) (hR : Rb h M ni nd nj) (hi : ni ≤ 8) (hd : nd ≤ 4) (hj : nj ≤ 10) (hj9 : j < nj) (ht : it < ni) (hk : k < nd) (hit : (if M.1 3 (6 * j) = 1 then M.1 4 (6 * j) else M.1 3 (6 * j + 1)) = nI it) (hB : PhC M nd it k) : Ct G mX6_unloadDrive [ga G 1, ga G (29 + j), ga G (4 + it), ga G (23 + k)] h 456 456 (rI (fun r h' => r = 1 ∧ Rb h' (mUnload M it k) ni nd nj ∧ KL h h')) := by
  obtain ⟨-, -, -, -, hJ, -, -, hS⟩ := id hR
  obtain ⟨⟨e0, e1, -⟩, -, e8, -⟩ := hJ j hj9
  refine Ct.of rfl (by simp [Value.category, ga]) (Nat.le_of_ble_eq_true rfl) (Nat.le_refl _) ?_
  show Go _ _ _ _ _ _ _ [some (ga G 1), some (ga G (29 + j)), some (ga G (4 + it)), some (ga G (23 + k))] []
  refine g_ald3 dX6_unloadDrive_0 ?_
  refine g_bipush (v := -5) dX6_unloadDrive_1 (by decide +kernel) ?_
  refine g_putI fb_0_6 mw_1_96 (by first | rfl | assumption | (exact lay_item (by omega)) | (exact lay_drive (by omega)) | (exact lay_job (by omega))) (by omega) rfl rfl dX6_unloadDrive_3 ?_
  refine g_ald0 dX6_unloadDrive_6 ?_
  refine g_ald2 dX6_unloadDrive_7 ?_
  show Go _ _ _ _ _ _ 8 _ _
  refine g_ald1 dX6_unloadDrive_8 ?_
  refine g_callV0 (c_carriedItem (29 + j) (lay_job (by omega)) (by omega)) mw_4_41 ok_X3_carriedItem ⟨by decide, by decide⟩ (by first | rfl | assumption | (exact lay_item (by omega)) | (exact lay_drive (by omega)) | (exact lay_job (by omega))) (by omega) rfl (by omega) (by omega) (Nat.le_of_ble_eq_true rfl) dX6_unloadDrive_9 (dI_K ?_)
  rw [show (if (wI h (23 + k) 6 (-5)).1 (29 + j) 0 = 1 then (wI h (23 + k) 6 (-5)).1 (29 + j) 8 else (wI h (23 + k) 6 (-5)).1 (29 + j) 1) = nI it by simp (disch := omega) only [wI_ne]; rw [e0, e8, e1]; exact hit]
  refine g_callV2 (c_takeInHand it (by omega)) mw_4_61 ok_X6_takeInHand ⟨by decide, by decide⟩ (by first | rfl | assumption | (exact lay_item (by omega)) | (exact lay_drive (by omega)) | (exact lay_job (by omega))) (by omega) rfl (by omega) (by omega) (Nat.le_of_ble_eq_true rfl) dX6_unloadDrive_12 (dI_K ?_)
  exact g_zret rfl rfl dX6_unloadDrive_15 ⟨1, rfl, rfl, rb_unload hR hi hd hj it k ht hk hB, by repeat (first | exact KL.rf _ | refine KL.wI (by omega) ?_)⟩
theorem c_goTo (M : Mo) (ni nd nj j s : Nat) (hR : Rb h M ni nd nj) (hi : ni ≤ 8) (hd : nd ≤ 4) (hj : nj ≤ 10) (hj9 : j < nj) (hs : s < 24) (hp : Ip M) (hh : Ihd M ni) (hC : Icl M ni) (hf : Ifl M nd) : Ct G mX6_goTo [ga G 1, ga G (29 + j), .int (nI s)] h 456 456 (rI (fun r h' => r = (mGo M j s).2 ∧ Rb h' (mGo M j s).1 ni nd nj ∧ KL h h')) := by
  obtain ⟨⟨s5, s6, s7, s8, s9, s10, s11, s3, s4⟩, -, -, -, hJ, hL, -, hS⟩ := id hR
  obtain ⟨-, -, -, -, e10, -⟩ := hJ j hj9
  obtain ⟨cg, cz⟩ := cost_Gd hs hp
  have hm : Gd (FP.fadd (M.2 8) (cost M s)) := fl_add hf.2.1 cg
  refine Ct.of rfl (by simp [Value.category, ga]) (Nat.le_of_ble_eq_true rfl) (Nat.le_refl _) ?_
  show Go _ _ _ _ _ _ _ [some (ga G 1), some (ga G (29 + j)), some (.int (nI s)), none] []
  refine g_ald0 dX6_goTo_0 ?_
  refine g_ild2 dX6_goTo_1 ?_
  refine g_callV1 (c_costTo (h := h) M ni nd nj s hR (by omega) hp hh hC hs) mw_4_50 ok_X6_costTo ⟨by decide, by decide⟩ (by first | rfl | assumption | (exact lay_item (by omega)) | (exact lay_drive (by omega)) | (exact lay_job (by omega))) (by omega) rfl (by omega) (by omega) (Nat.le_of_ble_eq_true rfl) dX6_goTo_2 (dF_K ?_)
  refine g_fst3 (by decide) dX6_goTo_5 ?_
  refine g_ald0 dX6_goTo_6 ?_
  show Go _ _ _ _ _ _ 7 _ _
  refine g_ald0 dX6_goTo_7 ?_
  refine g_getF_a fb_6_3 mw_2_5 (by first | rfl | assumption | (exact lay_item (by omega)) | (exact lay_drive (by omega)) | (exact lay_job (by omega))) (by omega) dX6_goTo_8 (fun xx8 ee8 => ?_)
  obtain rfl : xx8 = (M.2 8) := ee8.symm.trans s3
  refine g_fld3 dX6_goTo_11 ?_
  refine g_callV2 (c_isAllowed (h := h) M (M.2 8) (cost M s) hf.2.1 cg hf.2.2 s4) mw_4_57 ok_X6_isAllowed ⟨by decide, by decide⟩ (by first | rfl | assumption | (exact lay_item (by omega)) | (exact lay_drive (by omega)) | (exact lay_job (by omega))) (by omega) rfl (by omega) (by omega) (Nat.le_of_ble_eq_true rfl) dX6_goTo_12 (rB_K ?_)
  intro r12 h12
  refine g_if_ne (tgt := 58) dX6_goTo_15 (by decide) (fun c_15 => ?_) (fun c_15 => ?_)
  · skip
    refine g_ald0 dX6_goTo_58 ?_
    show Go _ _ _ _ _ _ 59 _ _
    refine g_ald0 dX6_goTo_59 ?_
    refine g_getF_a fb_6_3 mw_2_5 (by first | rfl | assumption | (exact lay_item (by omega)) | (exact lay_drive (by omega)) | (exact lay_job (by omega))) (by omega) dX6_goTo_60 (fun xx60 ee60 => ?_)
    obtain rfl : xx60 = (M.2 8) := ee60.symm.trans s3
    refine g_fld3 dX6_goTo_63 ?_
    refine g_fadd dX6_goTo_64 (fl_n32 hm) ?_
    refine g_putF fb_6_3 mw_2_5 (by first | rfl | assumption | (exact lay_item (by omega)) | (exact lay_drive (by omega)) | (exact lay_job (by omega))) (by omega) dX6_goTo_65 ?_
    refine g_ald0 dX6_goTo_68 ?_
    show Go _ _ _ _ _ _ 69 _ _
    refine g_dup dX6_goTo_69 rfl ?_
    refine g_getI_a fb_6_10 mw_2_19 (by first | rfl | assumption | (exact lay_item (by omega)) | (exact lay_drive (by omega)) | (exact lay_job (by omega))) (by omega) dX6_goTo_70 (fun xx70 ee70 => ?_)
    obtain rfl : xx70 = (M.1 0 16) := ee70.symm.trans (by (try simp (disch := omega) only [wI_at, wI_ne, wF_at, wF_ne, wI_f, wF_i]) <;> first | exact s10 | rfl)
    refine g_ild2 dX6_goTo_73 ?_
    refine g_ald0 dX6_goTo_74 ?_
    refine g_getI_a fb_6_6 mw_2_11 (by first | rfl | assumption | (exact lay_item (by omega)) | (exact lay_drive (by omega)) | (exact lay_job (by omega))) (by omega) dX6_goTo_75 (fun xx75 ee75 => ?_)
    obtain rfl : xx75 = (nI (pl M)) := ee75.symm.trans (by (try simp (disch := omega) only [wI_at, wI_ne, wF_at, wF_ne, wI_f, wF_i]) <;> first | exact s6.trans hp.2 | rfl)
    refine g_isub dX6_goTo_78 ?_
    show Go _ _ _ _ _ _ 79 _ _
    refine g_abs mw_4_56 (by decide) (Nat.le_of_ble_eq_true rfl) dX6_goTo_79 ?_
    rw [abs_ni0 _ hs _ hp.1]
    first | refine g_iadd_n dX6_goTo_82 ?_ | refine g_iadd dX6_goTo_82 ?_
    refine g_putI fb_6_10 mw_2_19 (by first | rfl | assumption | (exact lay_item (by omega)) | (exact lay_drive (by omega)) | (exact lay_job (by omega))) (by omega) rfl rfl dX6_goTo_83 ?_
    refine g_ald0 dX6_goTo_86 ?_
    refine g_ild2 dX6_goTo_87 ?_
    refine g_putI fb_6_6 mw_2_11 (by first | rfl | assumption | (exact lay_item (by omega)) | (exact lay_drive (by omega)) | (exact lay_job (by omega))) (by omega) rfl rfl dX6_goTo_88 ?_
    show Go _ _ _ _ _ _ 91 _ _
    refine g_iconst (v := nI 1) dX6_goTo_91 (by decide +kernel) ?_
    have W := rb_went hR hi hd hj s
    have kl : KL h (wI (wI (wF h 1 3 (FP.fadd (M.2 8) (cost M s))) 1 10 (M.1 0 16 + nI (ad s (pl M)))) 1 6 (nI s)) := KL.wI (by omega) (KL.wI (by omega) (KL.wF (KL.rf _)))
    refine g_zret rfl rfl dX6_goTo_92 ⟨1, rfl, ?_⟩
    unfold mGo
    by_cases z : ad s (pl M) = 0
    · rw [if_pos z]
      refine ⟨rfl, ?_, kl⟩
      have e : mWent M s = M := by
        unfold mWent
        rw [u0 (cz.mpr z), fl_add0 hf.2.1, z, show M.1 0 16 + nI 0 = M.1 0 16 from Int32.add_zero _]
        have hsp : nI s = M.1 0 1 := by
          have : s = pl M := by unfold ad at z; split at z <;> omega
          rw [hp.2, this]
        refine Prod.ext (funext fun x => funext fun i => ?_) (funext fun i => ?_)
        · show (if x = 0 ∧ i = 16 then M.1 0 16 else if x = 0 ∧ i = 1 then nI s else M.1 x i) = M.1 x i
          by_cases q : x = 0 ∧ i = 16
          · rw [if_pos q, q.1, q.2]
          · rw [if_neg q]
            by_cases q2 : x = 0 ∧ i = 1
            · rw [if_pos q2, q2.1, q2.2, hsp]
            · rw [if_neg q2]
        · show (if i = 8 then M.2 8 else M.2 i) = M.2 i
          by_cases q : i = 8
          · rw [if_pos q, q]
          · rw [if_neg q]
      rw [e] at W
      exact W
    · have hA : ¬ (M.2 9).toNat < (FP.fadd (M.2 8) (cost M s)).toNat := by
        rcases h12 with ⟨-, q⟩ | ⟨q, -⟩
        · rcases q with q | q
          · exact absurd (cz.mp q) z
          · exact Nat.not_lt.mpr q
        · exact absurd q c_15
      rw [if_neg z, if_neg hA]
      exact ⟨rfl, W, kl⟩
  · skip
    refine g_ald1 dX6_goTo_18 ?_
    refine g_dup dX6_goTo_19 rfl ?_
    refine g_getI_a fb_3_10 mw_1_164 (by first | rfl | assumption | (exact lay_item (by omega)) | (exact lay_drive (by omega)) | (exact lay_job (by omega))) (by omega) dX6_goTo_20 (fun xx20 ee20 => ?_)
    obtain rfl : xx20 = (M.1 4 (6 * j + 2)) := ee20.symm.trans e10
    refine g_iconst (v := nI 1) dX6_goTo_23 (by decide +kernel) ?_
    first | refine g_iadd_n dX6_goTo_24 ?_ | refine g_iadd dX6_goTo_24 ?_
    show Go _ _ _ _ _ _ 25 _ _
    refine g_putI fb_3_10 mw_1_164 (by first | rfl | assumption | (exact lay_item (by omega)) | (exact lay_drive (by omega)) | (exact lay_job (by omega))) (by omega) rfl rfl dX6_goTo_25 ?_
    refine g_ald0 dX6_goTo_28 ?_
    refine g_dup dX6_goTo_29 rfl ?_
    refine g_getI_a fb_6_9 mw_2_17 (by first | rfl | assumption | (exact lay_item (by omega)) | (exact lay_drive (by omega)) | (exact lay_job (by omega))) (by omega) dX6_goTo_30 (fun xx30 ee30 => ?_)
    obtain rfl : xx30 = (M.1 0 15) := ee30.symm.trans (by (try simp (disch := omega) only [wI_at, wI_ne, wF_at, wF_ne, wI_f, wF_i]) <;> first | exact s9 | rfl)
    refine g_iconst (v := nI 1) dX6_goTo_33 (by decide +kernel) ?_
    first | refine g_iadd_n dX6_goTo_34 ?_ | refine g_iadd dX6_goTo_34 ?_
    show Go _ _ _ _ _ _ 35 _ _
    refine g_putI fb_6_9 mw_2_17 (by first | rfl | assumption | (exact lay_item (by omega)) | (exact lay_drive (by omega)) | (exact lay_job (by omega))) (by omega) rfl rfl dX6_goTo_35 ?_
    refine g_ald0 dX6_goTo_38 ?_
    refine g_getQ fb_6_2 mw_2_4 (by first | rfl | assumption | (exact lay_item (by omega)) | (exact lay_drive (by omega)) | (exact lay_job (by omega))) (by omega) (sh_log hS) dX6_goTo_39 ?_
    refine g_iconst (v := nI 4) dX6_goTo_42 (by decide +kernel) ?_
    refine g_ald0 dX6_goTo_43 ?_
    refine g_getI_a fb_6_8 mw_2_15 (by first | rfl | assumption | (exact lay_item (by omega)) | (exact lay_drive (by omega)) | (exact lay_job (by omega))) (by omega) dX6_goTo_44 (fun xx44 ee44 => ?_)
    obtain rfl : xx44 = (M.1 0 3) := ee44.symm.trans (by (try simp (disch := omega) only [wI_at, wI_ne, wF_at, wF_ne, wI_f, wF_i]) <;> first | exact s8 | rfl)
    show Go _ _ _ _ _ _ 47 _ _
    refine g_bipush (v := -5) dX6_goTo_47 (by decide +kernel) ?_
    refine g_ald0 dX6_goTo_49 ?_
    refine g_getI_a fb_6_5 mw_2_9 (by first | rfl | assumption | (exact lay_item (by omega)) | (exact lay_drive (by omega)) | (exact lay_job (by omega))) (by omega) dX6_goTo_50 (fun xx50 ee50 => ?_)
    obtain rfl : xx50 = (M.1 0 0) := ee50.symm.trans (by (try simp (disch := omega) only [wI_at, wI_ne, wF_at, wF_ne, wI_f, wF_i]) <;> first | exact s5 | rfl)
    have hA : ¬ (ad s (pl M) = 0) ∧ (M.2 9).toNat < (FP.fadd (M.2 8) (cost M s)).toNat := by
        rcases h12 with ⟨q, -⟩ | ⟨-, q⟩
        · exact absurd (q.symm.trans c_15) (by decide)
        · exact ⟨fun z => q (Or.inl (cz.mpr z)), Nat.lt_of_not_le (fun z => q (Or.inr z))⟩
    have R1 := rb_plea hR hi hd hj j hj9
    refine g_callV4 (c_logAdd _ _ _ _ (by exact hS) (by simp (disch := omega) only [wI_ne]; exact hL)) mw_4_30 ok_X4_add ⟨by decide, by decide⟩ (by first | rfl | assumption | (exact lay_item (by omega)) | (exact lay_drive (by omega)) | (exact lay_job (by omega))) (by omega) rfl (by omega) (by omega) (Nat.le_of_ble_eq_true rfl) dX6_goTo_53 (rV_K ?_)
    intro h2 k2
    refine g_iconst (v := nI 0) dX6_goTo_56 (by decide +kernel) ?_
    exact g_zret rfl rfl dX6_goTo_57 ⟨0, rfl, by unfold mGo; rw [if_neg hA.1, if_pos hA.2], by unfold mGo; rw [if_neg hA.1, if_pos hA.2]; exact R1.lg hi hd hj k2, KL.lg (KL.wI (by omega) (KL.wI (by omega) (KL.rf _))) k2⟩
end P24
