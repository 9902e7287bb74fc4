/-! ===== THE ROBOT READS, CLEANS, GOES ON ===== -/
section P25
variable {G : Gl} {h : Hp}
theorem c_readTape (M : Mo) (ni nd nj it k r0 : Nat) (hR : Rb h M ni nd nj) (hi : ni ≤ 8) (hd : nd ≤ 4) (hj : nj ≤ 10) (ht : it < ni) (hk : k < nd) (hf : Ifl M nd) (ha : M.1 1 (6 * it + 3) = nI r0) (hr0 : r0 < 1600) : Ct G mX0_readTape [ga G (23 + k), ga G (4 + it)] h 456 456 (rI (fun r h' => ((r = 1 ∧ ¬ lostR M it k ∧ Rb h' (mRead1 M it k) ni nd nj) ∨ (r = 0 ∧ lostR M it k ∧ Rb h' (mLost (mRead1 M it k) it k) ni nd nj)) ∧ KL h h')) := by
  obtain ⟨-, -, hI, hD, -, -, -, hS⟩ := id hR
  obtain ⟨-, -, -, -, i4, ⟨f, f1, f2, -, f4⟩, i7⟩ := hI it ht
  obtain ⟨-, d1, d2, d3, d4, -⟩ := hD k hk
  obtain ⟨g1, -⟩ := hf.1 k hk
  obtain ⟨m1, m2⟩ := more_l r0 hr0
  have hlr : lostR M it k ↔ 0 < Op.cmpValue (FP.fcmp (FP.fmul (M.2 (2 * k)) (fval f)) 1077936128) .l := by unfold lostR; rw [f2, nI_clamp (by omega)]
  have hsum : Gd (FP.fadd (M.2 (2 * k)) (more (nI r0))) := fl_add g1 m2
  have R1 := rb_read1 hR hi hd hj it k ht hk
  have R2 := rb_lost R1 hi hd hj it k ht hk
  rw [show (mRead1 M it k).1 2 (7 * k + 4) = M.1 2 (7 * k + 4) by unfold mRead1; simp (disch := omega) only [up_ne, uf_i], show (mRead1 M it k).1 1 (6 * it + 5) = M.1 1 (6 * it + 5) by unfold mRead1; simp (disch := omega) only [up_ne, uf_i]] at R2
  rw [ha] at R1 R2
  rw [show nI r0 + 1 = nI (r0 + 1) from nI_1 r0] at R1 R2
  refine Ct.of rfl (by simp [Value.category, ga]) (Nat.le_of_ble_eq_true rfl) (Nat.le_refl _) ?_
  show Go _ _ _ _ _ _ _ [some (ga G (23 + k)), some (ga G (4 + it)), none] []
  have tail : ∀ q : Int32, ((q = 1 ∧ ¬ lostR M it k) ∨ (q = 0 ∧ lostR M it k)) → Go G mX0_readTape 456 (rI (fun r h' => ((r = 1 ∧ ¬ lostR M it k ∧ Rb h' (mRead1 M it k) ni nd nj) ∨ (r = 0 ∧ lostR M it k ∧ Rb h' (mLost (mRead1 M it k) it k) ni nd nj)) ∧ KL h h')) h 456 20 [some (ga G (23 + k)), some (ga G (4 + it)), none] [.int q] := by
    intro q hq
    refine g_ist2 (by decide) dX0_readTape_20 ?_
    refine g_ald0 dX0_readTape_21 ?_
    refine g_ald0 dX0_readTape_22 ?_
    refine g_getF_a fb_0_1 mw_1_87 (by first | assumption | exact lay_item (by omega) | exact lay_drive (by omega) | exact lay_job (by omega) | rfl) (by omega) dX0_readTape_23 (fun xx23 ee23 => ?_)
    obtain rfl : xx23 = (M.2 (2 * k)) := ee23.symm.trans d1
    refine g_fconst1 dX0_readTape_26 ?_
    show Go _ _ _ _ _ _ 27 _ _
    refine g_ald1 dX0_readTape_27 ?_
    refine g_getI_a fb_2_4 mw_1_52 (by first | assumption | exact lay_item (by omega) | exact lay_drive (by omega) | exact lay_job (by omega) | rfl) (by omega) dX0_readTape_28 (fun xx28 ee28 => ?_)
    obtain rfl : xx28 = (nI r0) := ee28.symm.trans (i4.trans ha)
    refine g_i2f dX0_readTape_31 ?_
    refine g_ldcf mw_4_86 dX0_readTape_32 ?_
    refine g_fmul dX0_readTape_34 (fl_n32 m1) ?_
    refine g_fadd dX0_readTape_35 (fl_n32 m2) ?_
    show Go _ _ _ _ _ _ 36 _ _
    refine g_fadd dX0_readTape_36 (fl_n32 hsum) ?_
    refine g_putF fb_0_1 mw_1_87 (by first | assumption | exact lay_item (by omega) | exact lay_drive (by omega) | exact lay_job (by omega) | rfl) (by omega) dX0_readTape_37 ?_
    refine g_ald1 dX0_readTape_40 ?_
    refine g_dup dX0_readTape_41 rfl ?_
    refine g_getI_a fb_2_4 mw_1_52 (by first | assumption | exact lay_item (by omega) | exact lay_drive (by omega) | exact lay_job (by omega) | rfl) (by omega) dX0_readTape_42 (fun xx42 ee42 => ?_)
    obtain rfl : xx42 = (nI r0) := ee42.symm.trans (by (try simp (disch := omega) only [wI_at, wI_ne, wF_at, wF_ne, wI_f, wF_i]) <;> first | exact (i4.trans ha) | rfl)
    refine g_iconst (v := nI 1) dX0_readTape_45 (by decide +kernel) ?_
    show Go _ _ _ _ _ _ 46 _ _
    first | refine g_iadd_n dX0_readTape_46 ?_ | refine g_iadd dX0_readTape_46 ?_
    refine g_putI fb_2_4 mw_1_52 (by first | assumption | exact lay_item (by omega) | exact lay_drive (by omega) | exact lay_job (by omega) | rfl) (by omega) rfl rfl dX0_readTape_47 ?_
    refine g_ald0 dX0_readTape_50 ?_
    refine g_dup dX0_readTape_51 rfl ?_
    refine g_getI_a fb_0_3 mw_1_92 (by first | assumption | exact lay_item (by omega) | exact lay_drive (by omega) | exact lay_job (by omega) | rfl) (by omega) dX0_readTape_52 (fun xx52 ee52 => ?_)
    obtain rfl : xx52 = (M.1 2 (7 * k + 3)) := ee52.symm.trans (by (try simp (disch := omega) only [wI_at, wI_ne, wF_at, wF_ne, wI_f, wF_i]) <;> first | exact d3 | rfl)
    refine g_iconst (v := nI 1) dX0_readTape_55 (by decide +kernel) ?_
    show Go _ _ _ _ _ _ 56 _ _
    first | refine g_iadd_n dX0_readTape_56 ?_ | refine g_iadd dX0_readTape_56 ?_
    refine g_putI fb_0_3 mw_1_92 (by first | assumption | exact lay_item (by omega) | exact lay_drive (by omega) | exact lay_job (by omega) | rfl) (by omega) rfl rfl dX0_readTape_57 ?_
    refine g_ild2 dX0_readTape_60 ?_
    refine g_if_ne (tgt := 84) dX0_readTape_61 (by decide) (fun c_61 => ?_) (fun c_61 => ?_)
    · skip
      refine g_ild2 dX0_readTape_84 ?_
      exact g_zret (hq.elim (fun z => by rw [z.1]; rfl) (fun z => by rw [z.1]; rfl)) rfl dX0_readTape_85 ⟨q, rfl, Or.inl ⟨hq.elim (fun z => z.1) (fun z => absurd z.1 c_61), hq.elim (fun z => z.2) (fun z => absurd z.1 c_61), R1⟩, by repeat (first | exact KL.rf _ | refine KL.wI (by omega) ?_ | refine KL.wF ?_)⟩
    · skip
      show Go _ _ _ _ _ _ 64 _ _
      refine g_ald0 dX0_readTape_64 ?_
      refine g_dup dX0_readTape_65 rfl ?_
      refine g_getI_a fb_0_4 mw_1_93 (by first | assumption | exact lay_item (by omega) | exact lay_drive (by omega) | exact lay_job (by omega) | rfl) (by omega) dX0_readTape_66 (fun xx66 ee66 => ?_)
      obtain rfl : xx66 = (M.1 2 (7 * k + 4)) := ee66.symm.trans (by (try simp (disch := omega) only [wI_at, wI_ne, wF_at, wF_ne, wI_f, wF_i]) <;> first | exact d4 | rfl)
      refine g_iconst (v := nI 1) dX0_readTape_69 (by decide +kernel) ?_
      first | refine g_iadd_n dX0_readTape_70 ?_ | refine g_iadd dX0_readTape_70 ?_
      refine g_putI fb_0_4 mw_1_93 (by first | assumption | exact lay_item (by omega) | exact lay_drive (by omega) | exact lay_job (by omega) | rfl) (by omega) rfl rfl dX0_readTape_71 ?_
      show Go _ _ _ _ _ _ 74 _ _
      refine g_ald1 dX0_readTape_74 ?_
      refine g_dup dX0_readTape_75 rfl ?_
      refine g_getI_a fb_2_7 mw_1_59 (by first | assumption | exact lay_item (by omega) | exact lay_drive (by omega) | exact lay_job (by omega) | rfl) (by omega) dX0_readTape_76 (fun xx76 ee76 => ?_)
      obtain rfl : xx76 = (M.1 1 (6 * it + 5)) := ee76.symm.trans (by (try simp (disch := omega) only [wI_at, wI_ne, wF_at, wF_ne, wI_f, wF_i]) <;> first | exact i7 | rfl)
      refine g_iconst (v := nI 1) dX0_readTape_79 (by decide +kernel) ?_
      first | refine g_iadd_n dX0_readTape_80 ?_ | refine g_iadd dX0_readTape_80 ?_
      refine g_putI fb_2_7 mw_1_59 (by first | assumption | exact lay_item (by omega) | exact lay_drive (by omega) | exact lay_job (by omega) | rfl) (by omega) rfl rfl dX0_readTape_81 ?_
      show Go _ _ _ _ _ _ 84 _ _
      refine g_ild2 dX0_readTape_84 ?_
      exact g_zret (hq.elim (fun z => by rw [z.1]; rfl) (fun z => by rw [z.1]; rfl)) rfl dX0_readTape_85 ⟨q, rfl, Or.inr ⟨c_61, hq.elim (fun z => absurd (z.1.symm.trans c_61) (by decide)) (fun z => z.2), R2⟩, by repeat (first | exact KL.rf _ | refine KL.wI (by omega) ?_ | refine KL.wF ?_)⟩
  refine g_ald0 dX0_readTape_0 ?_
  refine g_getF_a fb_0_1 mw_1_87 (by first | assumption | exact lay_item (by omega) | exact lay_drive (by omega) | exact lay_job (by omega) | rfl) (by omega) dX0_readTape_1 (fun xx1 ee1 => ?_)
  obtain rfl : xx1 = (M.2 (2 * k)) := ee1.symm.trans d1
  refine g_ald1 dX0_readTape_4 ?_
  refine g_getF_a fb_2_6 mw_1_57 (by first | assumption | exact lay_item (by omega) | exact lay_drive (by omega) | exact lay_job (by omega) | rfl) (by omega) dX0_readTape_5 (fun xx5 ee5 => ?_)
  obtain rfl : xx5 = (fval f) := ee5.symm.trans f4
  refine g_fmulcmp dX0_readTape_8 mw_4_85 dX0_readTape_9 dX0_readTape_11 (fun r hr => fl_al r hr) ?_
  show Go _ _ _ _ _ _ 12 _ _
  refine g_if_gt (tgt := 19) dX0_readTape_12 (by decide) (fun c_12 => ?_) (fun c_12 => ?_)
  · skip
    refine g_iconst (v := nI 0) dX0_readTape_19 (by decide +kernel) ?_
    first | exact tail 0 (Or.inr ⟨rfl, hlr.mpr c_12⟩) | exact tail 1 (Or.inl ⟨rfl, fun z => c_12 (hlr.mp z)⟩)
  · skip
    refine g_iconst (v := nI 1) dX0_readTape_15 (by decide +kernel) ?_
    refine g_goto (tgt := 20) dX0_readTape_16 (by decide) ?_
    first | exact tail 0 (Or.inr ⟨rfl, hlr.mpr c_12⟩) | exact tail 1 (Or.inl ⟨rfl, fun z => c_12 (hlr.mp z)⟩)
theorem c_cleanWith (M : Mo) (ni nd nj it k : Nat) (hR : Rb h M ni nd nj) (hi : ni ≤ 8) (hd : nd ≤ 4) (hj : nj ≤ 10) (ht : it < ni) (hk : k < nd) (hf : Ifl M nd) : Ct G mX0_cleanWith [ga G (23 + k), ga G (4 + it)] h 456 456 (rV (fun h' => Rb h' (mClean M it k) ni nd nj ∧ KL h h')) := by
  obtain ⟨-, -, hI, hD, -, -, -, hS⟩ := id hR
  obtain ⟨-, -, -, -, i4, -⟩ := hI it ht
  obtain ⟨-, d1, -, -, -, d5, -⟩ := hD k hk
  obtain ⟨g1, -⟩ := hf.1 k hk
  refine Ct.of rfl (by simp [Value.category, ga]) (Nat.le_of_ble_eq_true rfl) (Nat.le_refl _) ?_
  show Go _ _ _ _ _ _ _ [some (ga G (23 + k)), some (ga G (4 + it))] []
  refine g_ald0 dX0_cleanWith_0 ?_
  refine g_ald0 dX0_cleanWith_1 ?_
  refine g_getF_a fb_0_1 mw_1_87 (by first | assumption | exact lay_item (by omega) | exact lay_drive (by omega) | exact lay_job (by omega) | rfl) (by omega) dX0_cleanWith_2 (fun xx2 ee2 => ?_)
  obtain rfl : xx2 = (M.2 (2 * k)) := ee2.symm.trans d1
  refine g_ldcf mw_4_86 dX0_cleanWith_5 ?_
  refine g_fmul dX0_cleanWith_7 (fl_n32 (fl_mul8 g1)) ?_
  show Go _ _ _ _ _ _ 8 _ _
  refine g_putF fb_0_1 mw_1_87 (by first | assumption | exact lay_item (by omega) | exact lay_drive (by omega) | exact lay_job (by omega) | rfl) (by omega) dX0_cleanWith_8 ?_
  refine g_ald1 dX0_cleanWith_11 ?_
  refine g_dup dX0_cleanWith_12 rfl ?_
  refine g_getI_a fb_2_4 mw_1_52 (by first | assumption | exact lay_item (by omega) | exact lay_drive (by omega) | exact lay_job (by omega) | rfl) (by omega) dX0_cleanWith_13 (fun xx13 ee13 => ?_)
  obtain rfl : xx13 = (M.1 1 (6 * it + 3)) := ee13.symm.trans (by (try simp (disch := omega) only [wI_at, wI_ne, wF_at, wF_ne, wI_f, wF_i]) <;> first | exact i4 | rfl)
  refine g_iconst (v := nI 1) dX0_cleanWith_16 (by decide +kernel) ?_
  refine g_isub dX0_cleanWith_17 ?_
  show Go _ _ _ _ _ _ 18 _ _
  refine g_putI fb_2_4 mw_1_52 (by first | assumption | exact lay_item (by omega) | exact lay_drive (by omega) | exact lay_job (by omega) | rfl) (by omega) rfl rfl dX0_cleanWith_18 ?_
  refine g_ald0 dX0_cleanWith_21 ?_
  refine g_dup dX0_cleanWith_22 rfl ?_
  refine g_getI_a fb_0_5 mw_1_94 (by first | assumption | exact lay_item (by omega) | exact lay_drive (by omega) | exact lay_job (by omega) | rfl) (by omega) dX0_cleanWith_23 (fun xx23 ee23 => ?_)
  obtain rfl : xx23 = (M.1 2 (7 * k + 5)) := ee23.symm.trans (by (try simp (disch := omega) only [wI_at, wI_ne, wF_at, wF_ne, wI_f, wF_i]) <;> first | exact d5 | rfl)
  refine g_iconst (v := nI 1) dX0_cleanWith_26 (by decide +kernel) ?_
  first | refine g_iadd_n dX0_cleanWith_27 ?_ | refine g_iadd dX0_cleanWith_27 ?_
  show Go _ _ _ _ _ _ 28 _ _
  refine g_putI fb_0_5 mw_1_94 (by first | assumption | exact lay_item (by omega) | exact lay_drive (by omega) | exact lay_job (by omega) | rfl) (by omega) rfl rfl dX0_cleanWith_28 ?_
  exact g_vret rfl dX0_cleanWith_31 ⟨rfl, rb_clean hR hi hd hj it k ht hk, by repeat (first | exact KL.rf _ | refine KL.wI (by omega) ?_ | refine KL.wF ?_)⟩
theorem c_cleanDrive (M : Mo) (ni nd nj j it k : Nat) (hR : Rb h M ni nd nj) (hi : ni ≤ 8) (hd : nd ≤ 4) (hj : nj ≤ 10) (hj9 : j < nj) (ht : it < ni) (hk : k < nd) (hf : Ifl M nd) : Ct G mX6_cleanDrive [ga G 1, ga G (29 + j), ga G (4 + it), ga G (23 + k)] h 456 456 (rI (fun r h' => r = 1 ∧ Rb h' (mClean M it k) ni nd nj ∧ KL h h')) := by
  refine Ct.of rfl (by simp [Value.category, ga]) (Nat.le_of_ble_eq_true rfl) (Nat.le_refl _) ?_
  show Go _ _ _ _ _ _ _ [some (ga G 1), some (ga G (29 + j)), some (ga G (4 + it)), some (ga G (23 + k))] []
  refine g_ald3 dX6_cleanDrive_0 ?_
  refine g_ald2 dX6_cleanDrive_1 ?_
  refine g_callV1 (c_cleanWith (h := h) M ni nd nj it k hR hi hd hj ht hk hf) mw_4_91 ok_X0_cleanWith ⟨by decide, by decide⟩ (by first | assumption | exact lay_item (by omega) | exact lay_drive (by omega) | exact lay_job (by omega) | rfl) (by omega) rfl (by omega) (by omega) (Nat.le_of_ble_eq_true rfl) dX6_cleanDrive_2 (rV_K ?_)
  rintro h1 ⟨R1, K1⟩
  obtain ⟨-, -, -, -, -, hL1, -, hS1⟩ := id R1
  refine g_ald0 dX6_cleanDrive_5 ?_
  refine g_getQ fb_6_2 mw_2_4 (by first | assumption | exact lay_item (by omega) | exact lay_drive (by omega) | exact lay_job (by omega) | rfl) (by omega) (sh_log hS1) dX6_cleanDrive_6 ?_
  show Go _ _ _ _ _ _ 9 _ _
  refine g_iconst (v := nI 3) dX6_cleanDrive_9 (by decide +kernel) ?_
  refine g_ald0 dX6_cleanDrive_10 ?_
  refine g_getI fb_6_8 mw_2_15 (by first | assumption | exact lay_item (by omega) | exact lay_drive (by omega) | exact lay_job (by omega) | rfl) (by omega) dX6_cleanDrive_11 ?_
  refine g_ald1 dX6_cleanDrive_14 ?_
  refine g_getI fb_3_7 mw_1_158 (by first | assumption | exact lay_item (by omega) | exact lay_drive (by omega) | exact lay_job (by omega) | rfl) (by omega) dX6_cleanDrive_15 ?_
  refine g_ald0 dX6_cleanDrive_18 ?_
  show Go _ _ _ _ _ _ 19 _ _
  refine g_getI fb_6_5 mw_2_9 (by first | assumption | exact lay_item (by omega) | exact lay_drive (by omega) | exact lay_job (by omega) | rfl) (by omega) dX6_cleanDrive_19 ?_
  refine g_callV4 (c_logAdd (h := h1) _ _ _ _ hS1 hL1) mw_4_30 ok_X4_add ⟨by decide, by decide⟩ (by first | assumption | exact lay_item (by omega) | exact lay_drive (by omega) | exact lay_job (by omega) | rfl) (by omega) rfl (by omega) (by omega) (Nat.le_of_ble_eq_true rfl) dX6_cleanDrive_22 (rV_K ?_)
  intro h2 k2
  refine g_iconst (v := nI 1) dX6_cleanDrive_25 (by decide +kernel) ?_
  exact g_zret rfl rfl dX6_cleanDrive_26 ⟨1, rfl, rfl, R1.lg hi hd hj k2, K1.lg k2⟩
/-- what a read makes of the model: goes on, or not -/
noncomputable def mRead (M : Mo) (j it k : Nat) : Mo × Int32 := @ite _ (dst M k) (Classical.propDecidable _) (up M 4 (6 * j + 1) 1, 1) (@ite _ (lostR M it k) (Classical.propDecidable _) (mRead2 M j it k, if M.1 5 j + 1 = 3 then 1 else 0) (mRead1 M it k, 1))
theorem c_readInDrive (M : Mo) (ni nd nj j it k r0 c0 : Nat) (hR : Rb h M ni nd nj) (hi : ni ≤ 8) (hd : nd ≤ 4) (hj : nj ≤ 10) (hj9 : j < nj) (ht : it < ni) (hk : k < nd) (hf : Ifl M nd) (ha : M.1 1 (6 * it + 3) = nI r0) (hr0 : r0 < 1600) (h3 : M.1 3 (6 * j + 3) = 1) (hc : M.1 5 j = nI c0) (hc0 : c0 ≤ 2) : Ct G mX6_readInDrive [ga G 1, ga G (29 + j), ga G (4 + it), ga G (23 + k)] h 456 456 (rI (fun r h' => r = (mRead M j it k).2 ∧ Rb h' (mRead M j it k).1 ni nd nj ∧ KL h h')) := by
  obtain ⟨-, -, -, hD, hJ, -, -, hS⟩ := id hR
  obtain ⟨-, d1, d2, -⟩ := hD k hk
  obtain ⟨g1, g2⟩ := hf.1 k hk
  have hdu : (h.2.1 (23 + k) 2).toNat < (h.2.1 (23 + k) 1).toNat ↔ dst M k := by rw [d1, d2]; exact Iff.rfl
  refine Ct.of rfl (by simp [Value.category, ga]) (Nat.le_of_ble_eq_true rfl) (Nat.le_refl _) ?_
  show Go _ _ _ _ _ _ _ [some (ga G 1), some (ga G (29 + j)), some (ga G (4 + it)), some (ga G (23 + k))] []
  refine g_ald3 dX6_readInDrive_0 ?_
  refine g_callV0 (c_isTooDusty (h := h) (23 + k) (lay_drive (by omega)) (by omega) (by rw [d1]; exact g1) (by rw [d2]; exact g2)) mw_3_16 ok_X0_isTooDusty ⟨by decide, by decide⟩ (by first | assumption | exact lay_item (by omega) | exact lay_drive (by omega) | exact lay_job (by omega) | rfl) (by omega) rfl (by omega) (by omega) (Nat.le_of_ble_eq_true rfl) dX6_readInDrive_1 (dI_K ?_)
  refine g_if_eq (tgt := 14) dX6_readInDrive_4 (by decide) (fun c_4 => ?_) (fun c_4 => ?_)
  · skip
    have hdn : ¬ dst M k := fun z => absurd (c_4.symm.trans (if_pos (hdu.mpr z))) (by decide)
    refine g_ald3 dX6_readInDrive_14 ?_
    refine g_ald2 dX6_readInDrive_15 ?_
    show Go _ _ _ _ _ _ 16 _ _
    refine g_callV1 (c_readTape (h := h) M ni nd nj it k r0 hR hi hd hj ht hk hf ha hr0) mw_4_81 ok_X0_readTape ⟨by decide, by decide⟩ (by first | assumption | exact lay_item (by omega) | exact lay_drive (by omega) | exact lay_job (by omega) | rfl) (by omega) rfl (by omega) (by omega) (Nat.le_of_ble_eq_true rfl) dX6_readInDrive_16 (rI_K ?_)
    rintro r16 h1 ⟨hq, K1⟩
    refine g_if_eq (tgt := 44) dX6_readInDrive_19 (by decide) (fun c_19 => ?_) (fun c_19 => ?_)
    · skip
      obtain ⟨-, hlo, R1⟩ := hq.resolve_left (fun z => absurd (z.1.symm.trans c_19) (by decide))
      obtain ⟨-, -, -, -, -, hL1, -, hS1⟩ := id R1
      refine g_ald0 dX6_readInDrive_44 ?_
      refine g_getQ fb_6_2 mw_2_4 (by first | assumption | exact lay_item (by omega) | exact lay_drive (by omega) | exact lay_job (by omega) | rfl) (by omega) (sh_log hS1) dX6_readInDrive_45 ?_
      refine g_iconst (v := nI 2) dX6_readInDrive_48 (by decide +kernel) ?_
      refine g_ald0 dX6_readInDrive_49 ?_
      show Go _ _ _ _ _ _ 50 _ _
      refine g_getI fb_6_8 mw_2_15 (by first | assumption | exact lay_item (by omega) | exact lay_drive (by omega) | exact lay_job (by omega) | rfl) (by omega) dX6_readInDrive_50 ?_
      refine g_ald1 dX6_readInDrive_53 ?_
      refine g_getI fb_3_7 mw_1_158 (by first | assumption | exact lay_item (by omega) | exact lay_drive (by omega) | exact lay_job (by omega) | rfl) (by omega) dX6_readInDrive_54 ?_
      refine g_ald0 dX6_readInDrive_57 ?_
      refine g_getI fb_6_5 mw_2_9 (by first | assumption | exact lay_item (by omega) | exact lay_drive (by omega) | exact lay_job (by omega) | rfl) (by omega) dX6_readInDrive_58 ?_
      refine g_callV4 (c_logAdd (h := h1) _ _ _ _ hS1 hL1) mw_4_30 ok_X4_add ⟨by decide, by decide⟩ (by first | assumption | exact lay_item (by omega) | exact lay_drive (by omega) | exact lay_job (by omega) | rfl) (by omega) rfl (by omega) (by omega) (Nat.le_of_ble_eq_true rfl) dX6_readInDrive_61 (rV_K ?_)
      intro h2 k2
      have R2 := R1.lg hi hd hj k2
      have e12 : h2.1 (29 + j) 12 = nI c0 := by
          obtain ⟨-, -, -, -, hJ2, -⟩ := id R2
          obtain ⟨-, -, -, -, -, -, q⟩ := hJ2 j hj9
          rw [q (Or.inr (by unfold mLost mRead1; simp (disch := omega) only [up_ne, uf_i]; exact h3)), ← hc]
          unfold mLost mRead1; simp (disch := omega) only [up_ne, uf_i]
      have R3 := rb_lostj R2 hi hd hj j hj9 (nI (c0 + 1))
      have ec : (mLost (mRead1 M it k) it k).1 5 j = M.1 5 j := by unfold mLost mRead1; simp (disch := omega) only [up_ne, uf_i]
      have eb : (mLost (mRead1 M it k) it k).1 4 (6 * j + 1) = M.1 4 (6 * j + 1) := by unfold mLost mRead1; simp (disch := omega) only [up_ne, uf_i]
      show Go _ _ _ _ _ _ 64 _ _
      refine g_ald1 dX6_readInDrive_64 ?_
      refine g_dup dX6_readInDrive_65 rfl ?_
      refine g_getI_a fb_3_12 mw_1_169 (by first | assumption | exact lay_item (by omega) | exact lay_drive (by omega) | exact lay_job (by omega) | rfl) (by omega) dX6_readInDrive_66 (fun xx66 ee66 => ?_)
      obtain rfl : xx66 = (nI c0) := ee66.symm.trans e12
      refine g_iconst (v := nI 1) dX6_readInDrive_69 (by decide +kernel) ?_
      first | refine g_iadd_n dX6_readInDrive_70 ?_ | refine g_iadd dX6_readInDrive_70 ?_
      refine g_putI fb_3_12 mw_1_169 (by first | assumption | exact lay_item (by omega) | exact lay_drive (by omega) | exact lay_job (by omega) | rfl) (by omega) rfl rfl dX6_readInDrive_71 ?_
      show Go _ _ _ _ _ _ 74 _ _
      refine g_ald1 dX6_readInDrive_74 ?_
      refine g_getI_a fb_3_12 mw_1_169 (by first | assumption | exact lay_item (by omega) | exact lay_drive (by omega) | exact lay_job (by omega) | rfl) (by omega) dX6_readInDrive_75 (fun xx75 ee75 => ?_)
      obtain rfl : xx75 = (nI (c0 + 1)) := ee75.symm.trans wI_at
      refine g_iconst (v := nI 3) dX6_readInDrive_78 (by decide +kernel) ?_
      refine g_icmp_ge (tgt := 84) dX6_readInDrive_79 (by decide) (fun c_79 => ?_) (fun c_79 => ?_)
      · skip
        have h3c : c0 = 2 := by have q := (nI_leI (a := 3) (b := c0 + 1) (by omega) (by omega)).mp c_79; omega
        refine g_ald1 dX6_readInDrive_84 ?_
        refine g_iconst (v := nI 2) dX6_readInDrive_85 (by decide +kernel) ?_
        show Go _ _ _ _ _ _ 86 _ _
        refine g_putI fb_3_9 mw_1_162 (by first | assumption | exact lay_item (by omega) | exact lay_drive (by omega) | exact lay_job (by omega) | rfl) (by omega) rfl rfl dX6_readInDrive_86 ?_
        refine g_iconst (v := nI 1) dX6_readInDrive_89 (by decide +kernel) ?_
        exact g_zret rfl rfl dX6_readInDrive_90 ⟨1, rfl, by unfold mRead; rw [if_neg hdn, if_pos hlo, if_pos (by rw [hc, h3c]; decide)], by unfold mRead; rw [if_neg hdn, if_pos hlo]; show Rb _ (mRead2 M j it k) _ _ _; unfold mRead2; rw [if_pos (show M.1 5 j + 1 = 3 by rw [hc, h3c]; decide), hc, nI_1]; exact rb_reason R3 hi hd hj j hj9 2, KL.wI (by omega) (KL.wI (by omega) (K1.lg k2))⟩
      · skip
        have h3c : c0 ≠ 2 := fun z => c_79 (by rw [z]; decide)
        have e3 : ¬ (M.1 5 j + 1 = 3) := by rw [hc, nI_1]; exact fun z => h3c (by have := (nI_eq (a := c0 + 1) (b := 3) (by omega) (by omega)).mp z; omega)
        refine g_iconst (v := nI 0) dX6_readInDrive_82 (by decide +kernel) ?_
        exact g_zret rfl rfl dX6_readInDrive_83 ⟨0, rfl, by unfold mRead; rw [if_neg hdn, if_pos hlo, if_neg e3], by unfold mRead; rw [if_neg hdn, if_pos hlo]; show Rb _ (mRead2 M j it k) _ _ _; unfold mRead2; rw [if_neg e3, hc, nI_1]; rw [show up (up (mLost (mRead1 M it k) it k) 5 j (nI (c0 + 1))) 4 (6 * j + 1) (M.1 4 (6 * j + 1)) = up (mLost (mRead1 M it k) it k) 5 j (nI (c0 + 1)) by rw [← eb]; rw [show (mLost (mRead1 M it k) it k).1 4 (6 * j + 1) = (up (mLost (mRead1 M it k) it k) 5 j (nI (c0 + 1))).1 4 (6 * j + 1) from (up_ne (by omega)).symm]; exact up_same _ _ _]; exact R3, KL.wI (by omega) (K1.lg k2)⟩
    · skip
      obtain ⟨-, hlo, R1⟩ := hq.resolve_right (fun z => c_19 z.1)
      obtain ⟨-, -, -, -, -, hL1, -, hS1⟩ := id R1
      refine g_ald0 dX6_readInDrive_22 ?_
      show Go _ _ _ _ _ _ 23 _ _
      refine g_getQ fb_6_2 mw_2_4 (by first | assumption | exact lay_item (by omega) | exact lay_drive (by omega) | exact lay_job (by omega) | rfl) (by omega) (sh_log hS1) dX6_readInDrive_23 ?_
      refine g_iconst (v := nI 1) dX6_readInDrive_26 (by decide +kernel) ?_
      refine g_ald0 dX6_readInDrive_27 ?_
      refine g_getI fb_6_8 mw_2_15 (by first | assumption | exact lay_item (by omega) | exact lay_drive (by omega) | exact lay_job (by omega) | rfl) (by omega) dX6_readInDrive_28 ?_
      refine g_ald1 dX6_readInDrive_31 ?_
      refine g_getI fb_3_7 mw_1_158 (by first | assumption | exact lay_item (by omega) | exact lay_drive (by omega) | exact lay_job (by omega) | rfl) (by omega) dX6_readInDrive_32 ?_
      show Go _ _ _ _ _ _ 35 _ _
      refine g_ald0 dX6_readInDrive_35 ?_
      refine g_getI fb_6_5 mw_2_9 (by first | assumption | exact lay_item (by omega) | exact lay_drive (by omega) | exact lay_job (by omega) | rfl) (by omega) dX6_readInDrive_36 ?_
      refine g_callV4 (c_logAdd (h := h1) _ _ _ _ hS1 hL1) mw_4_30 ok_X4_add ⟨by decide, by decide⟩ (by first | assumption | exact lay_item (by omega) | exact lay_drive (by omega) | exact lay_job (by omega) | rfl) (by omega) rfl (by omega) (by omega) (Nat.le_of_ble_eq_true rfl) dX6_readInDrive_39 (rV_K ?_)
      intro h2 k2
      refine g_iconst (v := nI 1) dX6_readInDrive_42 (by decide +kernel) ?_
      exact g_zret rfl rfl dX6_readInDrive_43 ⟨1, rfl, by unfold mRead; rw [if_neg hdn, if_neg hlo], by unfold mRead; rw [if_neg hdn, if_neg hlo]; exact R1.lg hi hd hj k2, K1.lg k2⟩
  · skip
    have hdy : dst M k := Classical.byContradiction (fun z => c_4 (if_neg (fun q => z (hdu.mp q))))
    refine g_ald1 dX6_readInDrive_7 ?_
    show Go _ _ _ _ _ _ 8 _ _
    refine g_iconst (v := nI 1) dX6_readInDrive_8 (by decide +kernel) ?_
    refine g_putI fb_3_9 mw_1_162 (by first | assumption | exact lay_item (by omega) | exact lay_drive (by omega) | exact lay_job (by omega) | rfl) (by omega) rfl rfl dX6_readInDrive_9 ?_
    refine g_iconst (v := nI 1) dX6_readInDrive_12 (by decide +kernel) ?_
    exact g_zret rfl rfl dX6_readInDrive_13 ⟨1, rfl, by unfold mRead; rw [if_pos hdy], by unfold mRead; rw [if_pos hdy]; exact rb_reason hR hi hd hj j hj9 1, KL.wI (by omega) (KL.rf _)⟩
theorem c_steps (k : Nat) (hk : Lay k = .inl 3) (hl : k < 456) : Ct G mX3_steps [ga G k] h 456 456 (dI (if h.1 k 0 = 2 then nI 4 else nI 8) h) := by
  refine Ct.of rfl (by simp [Value.category, ga]) (Nat.le_of_ble_eq_true rfl) (Nat.le_refl _) ?_
  show Go _ _ _ _ _ _ _ [some (ga G k)] []
  refine g_ald0 dX3_steps_0 ?_
  refine g_getI fb_3_0 mw_1_140 (by first | assumption | exact lay_item (by omega) | exact lay_drive (by omega) | exact lay_job (by omega) | rfl) (by omega) dX3_steps_1 ?_
  refine g_iconst (v := nI 2) dX3_steps_4 (by decide +kernel) ?_
  refine g_icmp_ne (tgt := 12) dX3_steps_5 (by decide) (fun c_5 => ?_) (fun c_5 => ?_)
  · skip
    refine g_bipush (v := nI 8) dX3_steps_12 (by decide +kernel) ?_
    show Go _ _ _ _ _ _ 14 _ _
    exact g_iret rfl dX3_steps_14 ⟨congrArg (fun z => some (Value.int z)) (by first | exact (if_pos c_5).symm | exact (if_neg c_5).symm), rfl⟩
  · skip
    refine g_iconst (v := nI 4) dX3_steps_8 (by decide +kernel) ?_
    refine g_goto (tgt := 14) dX3_steps_9 (by decide) ?_
    exact g_iret rfl dX3_steps_14 ⟨congrArg (fun z => some (Value.int z)) (by first | exact (if_pos c_5).symm | exact (if_neg c_5).symm), rfl⟩
end P25
