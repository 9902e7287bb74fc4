/-! ===== THE JOB THAT BEGINS ===== -/
def Iu (M : Mo) (ni : Nat) : Prop := ∀ i j, i < ni → j < ni → M.1 1 (6 * i + 1) = M.1 1 (6 * j + 1) → i = j
theorem rk_le (M : Mo) (x : Int32) : rk M x ≤ 2 := by unfold rk; split; omega; split <;> omega
theorem grp_le (M : Mo) (j : Nat) : grp M j ≤ 3 := by
  unfold grp
  split
  · omega
  · have := rk_le M (M.1 3 (6 * j)); omega
section P20
variable {G : Gl} {h : Hp}
theorem c_canBegin (M : Mo) (ni nd nj j : Nat) (hR : Rb h M ni nd nj) (hi9 : ni ≤ 8) (hj9 : nj ≤ 30) (hd9 : nd ≤ 4) (hJ : Ijb M ni nd nj) (hf : Ifl M nd) (hH : Ihm M ni) (hC : Icl M ni) (hp : Ip M) (hu : Iu M ni) (hj : j < nj) : Ct G mX6_canBegin [ga G 1, ga G (29 + j)] h 456 456 (rB (CB M ni nd j) h) := by
  obtain ⟨⟨-, hpl, -⟩, ⟨hni, hnd, -, h6, h7⟩, hI, hD, hJb, -, -, hS⟩ := id hR
  obtain ⟨⟨e0, e1, e2, -⟩, -⟩ := hJb j hj
  refine Ct.of rfl (by simp [Value.category, ga]) (Nat.le_of_ble_eq_true rfl) (Nat.le_refl _) ?_
  show Go _ _ _ _ _ _ _ [some (ga G 1), some (ga G (29 + j)), none] []
  rcases hJ j hj with ⟨hk, i, hi, ht⟩ | ⟨hk, k, hk4, ht⟩ | ⟨hk, ⟨i, hi, ht⟩, s, hs, hsl⟩
  · skip
    refine g_ald1 dX6_canBegin_0 ?_
    refine g_getI_a fb_3_0 mw_1_141 (by first | rfl | assumption | (exact lay_item (by omega)) | (exact lay_drive (by omega)) | (exact lay_job (by omega))) (by omega) dX6_canBegin_1 (fun xx1 ee1 => ?_)
    obtain rfl : xx1 = (0 : Int32) := ee1.symm.trans (e0.trans hk)
    refine g_lookup (tgt := 32) (off := 28) dX6_canBegin_4 (by decide +kernel) (by decide +kernel) (by decide) ?_
    refine g_ald0 dX6_canBegin_32 ?_
    refine g_getQ fb_6_0 mw_2_0 (by first | rfl | assumption | (exact lay_item (by omega)) | (exact lay_drive (by omega)) | (exact lay_job (by omega))) (by omega) (sh_store hS) dX6_canBegin_33 ?_
    show Go _ _ _ _ _ _ 36 _ _
    refine g_callV0 (c_driveToRead (h := h) M ni nd nj hR hd9 hf) mw_3_25 ok_X7_driveToRead ⟨by decide, by decide⟩ (by first | rfl | assumption | (exact lay_item (by omega)) | (exact lay_drive (by omega)) | (exact lay_job (by omega))) (by omega) rfl (by omega) (by omega) (Nat.le_of_ble_eq_true rfl) dX6_canBegin_36 (rI_K ?_)
    rintro r _ ⟨rfl, hM⟩
    refine g_bipush (v := -5) dX6_canBegin_39 (by decide +kernel) ?_
    refine g_icmp_eq (tgt := 48) dX6_canBegin_41 (by decide) (fun c_41 => ?_) (fun c_41 => ?_)
    · skip
      refine g_iconst (v := nI 0) dX6_canBegin_48 (by decide +kernel) ?_
      exact g_zret rfl rfl dX6_canBegin_49 ⟨Or.inr ⟨rfl, fun z => by obtain ⟨k, q1, q2⟩ := z.1 hk; rcases hM with ⟨-, q⟩ | ⟨k', q3, q4, -⟩; exact q k q1 q2; exact absurd (q4.symm.trans c_41) (nI_n5 (by omega))⟩, rfl⟩
    · skip
      refine g_iconst (v := nI 1) dX6_canBegin_44 (by decide +kernel) ?_
      show Go _ _ _ _ _ _ 45 _ _
      refine g_goto (tgt := 49) dX6_canBegin_45 (by decide) ?_
      exact g_zret rfl rfl dX6_canBegin_49 ⟨Or.inl ⟨rfl, ⟨fun _ => by rcases hM with ⟨q, -⟩ | ⟨k, q1, -, q2, -⟩; exact absurd q c_41; exact ⟨k, q1, q2⟩, fun z => absurd (hk.symm.trans z) (by decide), fun z => absurd (hk.symm.trans z) (by decide)⟩⟩, rfl⟩
  · skip
    refine g_ald1 dX6_canBegin_0 ?_
    refine g_getI_a fb_3_0 mw_1_141 (by first | rfl | assumption | (exact lay_item (by omega)) | (exact lay_drive (by omega)) | (exact lay_job (by omega))) (by omega) dX6_canBegin_1 (fun xx1 ee1 => ?_)
    obtain rfl : xx1 = (1 : Int32) := ee1.symm.trans (e0.trans hk)
    refine g_lookup (tgt := 50) (off := 46) dX6_canBegin_4 (by decide +kernel) (by decide +kernel) (by decide) ?_
    refine g_ald0 dX6_canBegin_50 ?_
    refine g_getQ fb_6_0 mw_2_0 (by first | rfl | assumption | (exact lay_item (by omega)) | (exact lay_drive (by omega)) | (exact lay_job (by omega))) (by omega) (sh_store hS) dX6_canBegin_51 ?_
    show Go _ _ _ _ _ _ 54 _ _
    refine g_ald0 dX6_canBegin_54 ?_
    refine g_getI_a fb_6_6 mw_2_11 (by first | rfl | assumption | (exact lay_item (by omega)) | (exact lay_drive (by omega)) | (exact lay_job (by omega))) (by omega) dX6_canBegin_55 (fun xx55 ee55 => ?_)
    obtain rfl : xx55 = (nI (pl M)) := ee55.symm.trans (hpl.trans hp.2)
    refine g_callV1 (c_cleanerNearest (h := h) M ni nd nj (pl M) hR (by omega) hH hp.1 hC) mw_3_30 ok_X7_cleanerNearest ⟨by decide, by decide⟩ (by first | rfl | assumption | (exact lay_item (by omega)) | (exact lay_drive (by omega)) | (exact lay_job (by omega))) (by omega) rfl (by omega) (by omega) (Nat.le_of_ble_eq_true rfl) dX6_canBegin_58 (rI_K ?_)
    rintro r _ ⟨rfl, hM⟩
    refine g_bipush (v := -5) dX6_canBegin_61 (by decide +kernel) ?_
    refine g_icmp_eq (tgt := 70) dX6_canBegin_63 (by decide) (fun c_63 => ?_) (fun c_63 => ?_)
    · skip
      refine g_iconst (v := nI 0) dX6_canBegin_70 (by decide +kernel) ?_
      show Go _ _ _ _ _ _ 71 _ _
      exact g_zret rfl rfl dX6_canBegin_71 ⟨Or.inr ⟨rfl, fun z => by obtain ⟨k, q1, q2⟩ := z.2.1 hk; rcases hM with ⟨-, q⟩ | ⟨k', q3, q4, -⟩; exact q k q1 q2; exact absurd (q4.symm.trans c_63) (nI_n5 (by omega))⟩, rfl⟩
    · skip
      refine g_iconst (v := nI 1) dX6_canBegin_66 (by decide +kernel) ?_
      refine g_goto (tgt := 71) dX6_canBegin_67 (by decide) ?_
      exact g_zret rfl rfl dX6_canBegin_71 ⟨Or.inl ⟨rfl, ⟨fun z => absurd (hk.symm.trans z) (by decide), fun _ => by rcases hM with ⟨q, -⟩ | ⟨k, q1, -, q2, -⟩; exact absurd q c_63; exact ⟨k, q1, q2⟩, fun z => absurd (hk.symm.trans z) (by decide)⟩⟩, rfl⟩
  · have hho : ∀ i, i < ni → h.1 (4 + i) 1 = M.1 1 (6 * i + 1) := fun i hi => (hI i hi).2.1
    refine g_ald1 dX6_canBegin_0 ?_
    refine g_getI_a fb_3_0 mw_1_141 (by first | rfl | assumption | (exact lay_item (by omega)) | (exact lay_drive (by omega)) | (exact lay_job (by omega))) (by omega) dX6_canBegin_1 (fun xx1 ee1 => ?_)
    obtain rfl : xx1 = (2 : Int32) := ee1.symm.trans (e0.trans hk)
    refine g_lookup (tgt := 72) (off := 68) dX6_canBegin_4 (by decide +kernel) (by decide +kernel) (by decide) ?_
    refine g_ald0 dX6_canBegin_72 ?_
    refine g_getQ fb_6_0 mw_2_0 (by first | rfl | assumption | (exact lay_item (by omega)) | (exact lay_drive (by omega)) | (exact lay_job (by omega))) (by omega) (sh_store hS) dX6_canBegin_73 ?_
    show Go _ _ _ _ _ _ 76 _ _
    refine g_ald1 dX6_canBegin_76 ?_
    refine g_getI_a fb_3_2 mw_1_145 (by first | rfl | assumption | (exact lay_item (by omega)) | (exact lay_drive (by omega)) | (exact lay_job (by omega))) (by omega) dX6_canBegin_77 (fun xx77 ee77 => ?_)
    obtain rfl : xx77 = (nI s) := ee77.symm.trans (e2.trans hsl)
    refine g_callV1 (c_itemWithHome (h := h) (nI s) ni hS.1 hni (by omega)) mw_3_37 ok_X7_itemWithHome ⟨by decide, by decide⟩ (by first | rfl | assumption | (exact lay_item (by omega)) | (exact lay_drive (by omega)) | (exact lay_job (by omega))) (by omega) rfl (by omega) (by omega) (Nat.le_of_ble_eq_true rfl) dX6_canBegin_80 (rI_K ?_)
    rintro r _ ⟨rfl, hM⟩
    refine g_ist2 (by decide) dX6_canBegin_83 ?_
    refine g_ild2 dX6_canBegin_84 ?_
    refine g_bipush (v := -5) dX6_canBegin_85 (by decide +kernel) ?_
    show Go _ _ _ _ _ _ 87 _ _
    refine g_icmp_eq (tgt := 98) dX6_canBegin_87 (by decide) (fun c_87 => ?_) (fun c_87 => ?_)
    · skip
      refine g_iconst (v := nI 1) dX6_canBegin_98 (by decide +kernel) ?_
      refine g_goto (tgt := 103) dX6_canBegin_99 (by decide) ?_
      exact g_zret rfl rfl dX6_canBegin_103 ⟨Or.inl ⟨rfl, ⟨fun z => absurd (hk.symm.trans z) (by decide), fun z => absurd (hk.symm.trans z) (by decide), fun _ i2 hi2 q2 => by rcases hM with ⟨-, q⟩ | ⟨k', q3, q4, -⟩; exact absurd ((hho i2 hi2).trans (q2.trans hsl)) (q i2 hi2); exact absurd (q4.symm.trans c_87) (nI_n5 (by omega))⟩⟩, rfl⟩
    · skip
      refine g_ild2 dX6_canBegin_90 ?_
      refine g_ald1 dX6_canBegin_91 ?_
      show Go _ _ _ _ _ _ 92 _ _
      refine g_getI_a fb_3_1 mw_1_143 (by first | rfl | assumption | (exact lay_item (by omega)) | (exact lay_drive (by omega)) | (exact lay_job (by omega))) (by omega) dX6_canBegin_92 (fun xx92 ee92 => ?_)
      obtain rfl : xx92 = (nI i) := ee92.symm.trans (e1.trans ht)
      refine g_icmp_ne (tgt := 102) dX6_canBegin_95 (by decide) (fun c_95 => ?_) (fun c_95 => ?_)
      · skip
        refine g_iconst (v := nI 0) dX6_canBegin_102 (by decide +kernel) ?_
        exact g_zret rfl rfl dX6_canBegin_103 ⟨Or.inr ⟨rfl, fun z => by rcases hM with ⟨q, -⟩ | ⟨k', q3, q4, q5, -⟩; exact absurd q c_87; exact c_95 (q4.trans ((z.2.2 hk k' q3 (by rw [← hho k' q3, hsl]; exact q5)).trans ht))⟩, rfl⟩
      · skip
        refine g_iconst (v := nI 1) dX6_canBegin_98 (by decide +kernel) ?_
        refine g_goto (tgt := 103) dX6_canBegin_99 (by decide) ?_
        show Go _ _ _ _ _ _ 103 _ _
        exact g_zret rfl rfl dX6_canBegin_103 ⟨Or.inl ⟨rfl, ⟨fun z => absurd (hk.symm.trans z) (by decide), fun z => absurd (hk.symm.trans z) (by decide), fun _ i2 hi2 q2 => by rcases hM with ⟨q, -⟩ | ⟨k', q3, q4, q5, -⟩; exact absurd q c_87; rw [hu i2 k' hi2 q3 (by rw [q2, ← hho k' q3, hsl]; exact q5.symm), ← q4, ht]; exact c_95⟩⟩, rfl⟩
theorem c_jobToBegin (M : Mo) (ni nd nj : Nat) (hR : Rb h M ni nd nj) (hi9 : ni ≤ 8) (hj9 : nj ≤ 30) (hd9 : nd ≤ 4) (hJ : Ijb M ni nd nj) (hf : Ifl M nd) (hH : Ihm M ni) (hC : Icl M ni) (hp : Ip M) (hu : Iu M ni) : Ct G mX6_jobToBegin [ga G 1] h 456 456 (rI (fun r h' => h' = h ∧ IsMin (OKj M ni nd) (grp M) nj r)) := by
  obtain ⟨⟨htk, -⟩, ⟨-, -, hnj, -⟩, -, -, hJb, -, -, hS⟩ := id hR
  refine Ct.of rfl (by simp [Value.category, ga]) (Nat.le_of_ble_eq_true rfl) (Nat.le_refl _) ?_
  show Go _ _ _ _ _ _ _ [some (ga G 1), none, none, none, none, none] []
  have loop : ∀ m i bst bg x4 x5, m + i = nj → IsMin (OKj M ni nd) (grp M) i bst → ((bst = -5 ∧ bg = 4) ∨ ∃ b, bst = nI b ∧ b < i ∧ bg = grp M b) → Go G mX6_jobToBegin 456 (rI (fun r h' => h' = h ∧ IsMin (OKj M ni nd) (grp M) nj r)) h 456 7 [some (ga G 1), some (.int bst), some (.int (nI bg)), some (.int (nI i)), x4, x5] [] := by
    intro m
    induction m with
    | zero =>
      intro i bst bg x4 x5 hi hM hb
      obtain rfl : i = nj := by omega
      refine g_ild3 dX6_jobToBegin_7 ?_
      refine g_ald0 dX6_jobToBegin_8 ?_
      refine g_getQ fb_6_1 mw_2_2 (by first | rfl | assumption | (exact lay_item (by omega)) | (exact lay_drive (by omega)) | (exact lay_job (by omega))) (by omega) (sh_queue hS) dX6_jobToBegin_9 ?_
      refine g_getI_a fb_5_1 mw_1_200 (by first | rfl | assumption | (exact lay_item (by omega)) | (exact lay_drive (by omega)) | (exact lay_job (by omega))) (by omega) dX6_jobToBegin_12 (fun xx12 ee12 => ?_)
      obtain rfl : xx12 = (nI i) := ee12.symm.trans hnj
      refine g_icmp_ge_t (tgt := 83) dX6_jobToBegin_15 (by decide) (nI_le (by omega) (by omega)) ?_
      show Go _ _ _ _ _ _ 83 _ _
      refine g_ild1 dX6_jobToBegin_83 ?_
      exact g_iret rfl dX6_jobToBegin_84 ⟨bst, rfl, rfl, hM⟩
    | succ m ih =>
      intro i bst bg x4 x5 hi hM hb
      obtain ⟨⟨-, -, -, e3⟩, -, -, -, -, e11, -⟩ := hJb i (by omega)
      have hg := grp_le M i
      have hbg : bg ≤ 4 := by
        rcases hb with ⟨-, q⟩ | ⟨b, -, -, q⟩
        · omega
        · have := grp_le M b; omega
      have keep : (bst = -5 ∧ bg = 4) ∨ ∃ b, bst = nI b ∧ b < i + 1 ∧ bg = grp M b := hb.imp id (fun ⟨b, q1, q2, q3⟩ => ⟨b, q1, by omega, q3⟩)
      refine g_ild3 dX6_jobToBegin_7 ?_
      refine g_ald0 dX6_jobToBegin_8 ?_
      refine g_getQ fb_6_1 mw_2_2 (by first | rfl | assumption | (exact lay_item (by omega)) | (exact lay_drive (by omega)) | (exact lay_job (by omega))) (by omega) (sh_queue hS) dX6_jobToBegin_9 ?_
      refine g_getI_a fb_5_1 mw_1_200 (by first | rfl | assumption | (exact lay_item (by omega)) | (exact lay_drive (by omega)) | (exact lay_job (by omega))) (by omega) dX6_jobToBegin_12 (fun xx12 ee12 => ?_)
      obtain rfl : xx12 = (nI nj) := ee12.symm.trans hnj
      refine g_icmp_ge_f (tgt := 83) dX6_jobToBegin_15 (by decide) (nI_ge (by omega) (by omega)) ?_
      show Go _ _ _ _ _ _ 18 _ _
      refine g_ald0 dX6_jobToBegin_18 ?_
      refine g_getQ fb_6_1 mw_2_2 (by first | rfl | assumption | (exact lay_item (by omega)) | (exact lay_drive (by omega)) | (exact lay_job (by omega))) (by omega) (sh_queue hS) dX6_jobToBegin_19 ?_
      refine g_getQ fb_5_0 mw_1_198 (by first | rfl | assumption | (exact lay_item (by omega)) | (exact lay_drive (by omega)) | (exact lay_job (by omega))) (by omega) (sh_jobs hS) dX6_jobToBegin_22 ?_
      refine g_ild3 dX6_jobToBegin_25 ?_
      refine g_qald5 (by first | rfl | assumption | (exact lay_item (by omega)) | (exact lay_drive (by omega)) | (exact lay_job (by omega))) (by omega) rfl (by omega) (sh_job hS (i := i) (by omega)) dX6_jobToBegin_26 ?_
      refine g_ast4 (by decide) dX6_jobToBegin_27 ?_
      show Go _ _ _ _ _ _ 29 _ _
      refine g_ald4 dX6_jobToBegin_29 ?_
      refine g_getI_a fb_3_3 mw_1_147 (by first | rfl | assumption | (exact lay_item (by omega)) | (exact lay_drive (by omega)) | (exact lay_job (by omega))) (by omega) dX6_jobToBegin_31 (fun xx31 ee31 => ?_)
      obtain rfl : xx31 = (M.1 3 (6 * i + 3)) := ee31.symm.trans e3
      refine g_if_ne (tgt := 77) dX6_jobToBegin_34 (by decide) (fun c_34 => ?_) (fun c_34 => ?_)
      · skip
        refine g_iinc3 (by decide) dX6_jobToBegin_77 (nI_1 i) ?_
        refine g_goto (tgt := 7) dX6_jobToBegin_80 (by decide) ?_
        first | exact ih (i + 1) _ _ _ _ (by omega) (hM.skip (fun q => c_34 q.1)) keep | exact ih (i + 1) _ _ _ _ (by omega) (hM.skip (fun q => absurd q.2.1 (Int32.not_le.mpr c_46))) keep | exact ih (i + 1) _ _ _ _ (by omega) (hM.skip (fun q => h66.elim (fun z => absurd (z.1.symm.trans c_69) (by decide)) (fun z => z.2 q.2.2))) keep | exact ih (i + 1) _ _ _ _ (by omega) (hM.take ⟨c_34, Int32.not_lt.mp c_46, h66.elim (fun z => z.2) (fun z => absurd z.1 c_69)⟩ (hb.imp (fun q => q.1) (fun ⟨b, q1, q2, q3⟩ => ⟨b, q1, q2, by omega⟩)) (by omega)) (Or.inr ⟨i, rfl, by omega, rfl⟩) | exact ih (i + 1) _ _ _ _ (by omega) (hb.elim (fun q => absurd c (by omega)) (fun ⟨b, q1, q2, q3⟩ => hM.stay ⟨b, q1, q2, by omega⟩ (by omega))) keep
      · skip
        refine g_ald4 dX6_jobToBegin_37 ?_
        show Go _ _ _ _ _ _ 39 _ _
        refine g_getI_a fb_3_11 mw_1_166 (by first | rfl | assumption | (exact lay_item (by omega)) | (exact lay_drive (by omega)) | (exact lay_job (by omega))) (by omega) dX6_jobToBegin_39 (fun xx39 ee39 => ?_)
        obtain rfl : xx39 = (M.1 4 (6 * i + 3)) := ee39.symm.trans e11
        refine g_ald0 dX6_jobToBegin_42 ?_
        refine g_getI_a fb_6_5 mw_2_9 (by first | rfl | assumption | (exact lay_item (by omega)) | (exact lay_drive (by omega)) | (exact lay_job (by omega))) (by omega) dX6_jobToBegin_43 (fun xx43 ee43 => ?_)
        obtain rfl : xx43 = (M.1 0 0) := ee43.symm.trans htk
        refine g_icmp_gt (tgt := 77) dX6_jobToBegin_46 (by decide) (fun c_46 => ?_) (fun c_46 => ?_)
        · skip
          refine g_iinc3 (by decide) dX6_jobToBegin_77 (nI_1 i) ?_
          refine g_goto (tgt := 7) dX6_jobToBegin_80 (by decide) ?_
          first | exact ih (i + 1) _ _ _ _ (by omega) (hM.skip (fun q => c_34 q.1)) keep | exact ih (i + 1) _ _ _ _ (by omega) (hM.skip (fun q => absurd q.2.1 (Int32.not_le.mpr c_46))) keep | exact ih (i + 1) _ _ _ _ (by omega) (hM.skip (fun q => h66.elim (fun z => absurd (z.1.symm.trans c_69) (by decide)) (fun z => z.2 q.2.2))) keep | exact ih (i + 1) _ _ _ _ (by omega) (hM.take ⟨c_34, Int32.not_lt.mp c_46, h66.elim (fun z => z.2) (fun z => absurd z.1 c_69)⟩ (hb.imp (fun q => q.1) (fun ⟨b, q1, q2, q3⟩ => ⟨b, q1, q2, by omega⟩)) (by omega)) (Or.inr ⟨i, rfl, by omega, rfl⟩) | exact ih (i + 1) _ _ _ _ (by omega) (hb.elim (fun q => absurd c (by omega)) (fun ⟨b, q1, q2, q3⟩ => hM.stay ⟨b, q1, q2, by omega⟩ (by omega))) keep
        · skip
          show Go _ _ _ _ _ _ 49 _ _
          refine g_ald0 dX6_jobToBegin_49 ?_
          refine g_ald4 dX6_jobToBegin_50 ?_
          refine g_callV1 (c_groupOf (h := h) M ni nd nj i hR hj9 hd9 hJ hf (by omega)) mw_3_11 ok_X6_groupOf ⟨by decide, by decide⟩ (by first | rfl | assumption | (exact lay_item (by omega)) | (exact lay_drive (by omega)) | (exact lay_job (by omega))) (by omega) rfl (by omega) (by omega) (Nat.le_of_ble_eq_true rfl) dX6_jobToBegin_52 (dI_K ?_)
          refine g_ist5 (by decide) dX6_jobToBegin_55 ?_
          refine g_ild5 dX6_jobToBegin_57 ?_
          refine g_ild2 dX6_jobToBegin_59 ?_
          show Go _ _ _ _ _ _ 60 _ _
          refine g_icmp_ge (tgt := 77) dX6_jobToBegin_60 (by decide) (fun c_60 => ?_) (fun c_60 => ?_)
          · skip
            have c := (nI_leI (by omega) (by omega)).mp c_60
            refine g_iinc3 (by decide) dX6_jobToBegin_77 (nI_1 i) ?_
            refine g_goto (tgt := 7) dX6_jobToBegin_80 (by decide) ?_
            first | exact ih (i + 1) _ _ _ _ (by omega) (hM.skip (fun q => c_34 q.1)) keep | exact ih (i + 1) _ _ _ _ (by omega) (hM.skip (fun q => absurd q.2.1 (Int32.not_le.mpr c_46))) keep | exact ih (i + 1) _ _ _ _ (by omega) (hM.skip (fun q => h66.elim (fun z => absurd (z.1.symm.trans c_69) (by decide)) (fun z => z.2 q.2.2))) keep | exact ih (i + 1) _ _ _ _ (by omega) (hM.take ⟨c_34, Int32.not_lt.mp c_46, h66.elim (fun z => z.2) (fun z => absurd z.1 c_69)⟩ (hb.imp (fun q => q.1) (fun ⟨b, q1, q2, q3⟩ => ⟨b, q1, q2, by omega⟩)) (by omega)) (Or.inr ⟨i, rfl, by omega, rfl⟩) | exact ih (i + 1) _ _ _ _ (by omega) (hb.elim (fun q => absurd c (by omega)) (fun ⟨b, q1, q2, q3⟩ => hM.stay ⟨b, q1, q2, by omega⟩ (by omega))) keep
          · skip
            have c := Nat.lt_of_not_le (fun q => c_60 ((nI_leI (by omega) (by omega)).mpr q))
            refine g_ald0 dX6_jobToBegin_63 ?_
            refine g_ald4 dX6_jobToBegin_64 ?_
            refine g_callV1 (c_canBegin (h := h) M ni nd nj i hR hi9 hj9 hd9 hJ hf hH hC hp hu (by omega)) mw_3_21 ok_X6_canBegin ⟨by decide, by decide⟩ (by first | rfl | assumption | (exact lay_item (by omega)) | (exact lay_drive (by omega)) | (exact lay_job (by omega))) (by omega) rfl (by omega) (by omega) (Nat.le_of_ble_eq_true rfl) dX6_jobToBegin_66 (rB_K ?_)
            intro r66 h66
            show Go _ _ _ _ _ _ 69 _ _
            refine g_if_eq (tgt := 77) dX6_jobToBegin_69 (by decide) (fun c_69 => ?_) (fun c_69 => ?_)
            · skip
              refine g_iinc3 (by decide) dX6_jobToBegin_77 (nI_1 i) ?_
              refine g_goto (tgt := 7) dX6_jobToBegin_80 (by decide) ?_
              first | exact ih (i + 1) _ _ _ _ (by omega) (hM.skip (fun q => c_34 q.1)) keep | exact ih (i + 1) _ _ _ _ (by omega) (hM.skip (fun q => absurd q.2.1 (Int32.not_le.mpr c_46))) keep | exact ih (i + 1) _ _ _ _ (by omega) (hM.skip (fun q => h66.elim (fun z => absurd (z.1.symm.trans c_69) (by decide)) (fun z => z.2 q.2.2))) keep | exact ih (i + 1) _ _ _ _ (by omega) (hM.take ⟨c_34, Int32.not_lt.mp c_46, h66.elim (fun z => z.2) (fun z => absurd z.1 c_69)⟩ (hb.imp (fun q => q.1) (fun ⟨b, q1, q2, q3⟩ => ⟨b, q1, q2, by omega⟩)) (by omega)) (Or.inr ⟨i, rfl, by omega, rfl⟩) | exact ih (i + 1) _ _ _ _ (by omega) (hb.elim (fun q => absurd c (by omega)) (fun ⟨b, q1, q2, q3⟩ => hM.stay ⟨b, q1, q2, by omega⟩ (by omega))) keep
            · skip
              refine g_ild3 dX6_jobToBegin_72 ?_
              refine g_ist1 (by decide) dX6_jobToBegin_73 ?_
              refine g_ild5 dX6_jobToBegin_74 ?_
              show Go _ _ _ _ _ _ 76 _ _
              refine g_ist2 (by decide) dX6_jobToBegin_76 ?_
              refine g_iinc3 (by decide) dX6_jobToBegin_77 (nI_1 i) ?_
              refine g_goto (tgt := 7) dX6_jobToBegin_80 (by decide) ?_
              first | exact ih (i + 1) _ _ _ _ (by omega) (hM.skip (fun q => c_34 q.1)) keep | exact ih (i + 1) _ _ _ _ (by omega) (hM.skip (fun q => absurd q.2.1 (Int32.not_le.mpr c_46))) keep | exact ih (i + 1) _ _ _ _ (by omega) (hM.skip (fun q => h66.elim (fun z => absurd (z.1.symm.trans c_69) (by decide)) (fun z => z.2 q.2.2))) keep | exact ih (i + 1) _ _ _ _ (by omega) (hM.take ⟨c_34, Int32.not_lt.mp c_46, h66.elim (fun z => z.2) (fun z => absurd z.1 c_69)⟩ (hb.imp (fun q => q.1) (fun ⟨b, q1, q2, q3⟩ => ⟨b, q1, q2, by omega⟩)) (by omega)) (Or.inr ⟨i, rfl, by omega, rfl⟩) | exact ih (i + 1) _ _ _ _ (by omega) (hb.elim (fun q => absurd c (by omega)) (fun ⟨b, q1, q2, q3⟩ => hM.stay ⟨b, q1, q2, by omega⟩ (by omega))) keep
  refine g_bipush (v := -5) dX6_jobToBegin_0 (by decide +kernel) ?_
  refine g_ist1 (by decide) dX6_jobToBegin_2 ?_
  refine g_iconst (v := nI 4) dX6_jobToBegin_3 (by decide +kernel) ?_
  refine g_ist2 (by decide) dX6_jobToBegin_4 ?_
  refine g_iconst (v := nI 0) dX6_jobToBegin_5 (by decide +kernel) ?_
  show Go _ _ _ _ _ _ 6 _ _
  refine g_ist3 (by decide) dX6_jobToBegin_6 ?_
  exact loop nj 0 _ 4 _ _ (by omega) (IsMin.zero _ _) (Or.inl ⟨rfl, rfl⟩)
end P20
