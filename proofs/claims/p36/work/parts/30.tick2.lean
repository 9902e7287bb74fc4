/-! ===== A TICK OF THE ROBOT ===== -/
theorem Rb.kp {h h' : Hp} {M : Mo} {ni nd nj : Nat} (hi : ni ≤ 8) (hd : nd ≤ 4) (hj : nj ≤ 10) (R : Rb h M ni nd nj) (K : Kp h h') : Rb h' M ni nd nj := by
  obtain ⟨⟨k1, k2, k3⟩, kS, kH⟩ := K
  have i1 : ∀ a j, a < 64 → h'.1 a j = h.1 a j := fun a j ha => (k1 a j (Or.inl ha)).1
  have i2 : ∀ a j, a < 64 → h'.2.1 a j = h.2.1 a j := fun a j ha => (k1 a j (Or.inl ha)).2
  obtain ⟨s, n, hI, hD, hJ, ⟨w, w1, w2⟩, -, hS⟩ := R
  refine ⟨?_, ?_, fun i hii => ?_, fun k hk => ?_, fun j hjj => ?_, ⟨w, w1, ?_⟩, kH, kS⟩
  · simp (disch := omega) only [i1, i2]; exact s
  · simp (disch := omega) only [i1]; exact n
  · simp (disch := omega) only [i1, i2]; exact hI i hii
  · simp (disch := omega) only [i1, i2]; exact hD k hk
  · simp (disch := omega) only [i1]; exact hJ j hjj
  · rw [i1 _ _ (by omega)]; exact w2
theorem KL.kp {h h' : Hp} (K : Kp h h') : KL h h' := ⟨fun a j ha => (K.1.1 a j (by omega)).1, K.1.2.1⟩
theorem Rb.cn {h : Hp} {M : Mo} {ni nd nj : Nat} (hi : ni ≤ 8) (hd : nd ≤ 4) (hj : nj ≤ 10) (R : Rb h M ni nd nj) (hC : Icl M ni) : Cn h := by
  obtain ⟨-, ⟨n1, n2, n3, -⟩, hI, -⟩ := R
  refine ⟨⟨ni, by omega, n1, fun i hii => ?_⟩, ⟨nd, hd, n2⟩, nj, by omega, n3⟩
  rw [(hI i hii).1]
  rcases hC i hii with e | e <;> rw [e] <;> exact ⟨rfl, rfl⟩
section P30
variable {G : Gl} {h : Hp}
theorem c_passOneTick (M : Mo) (ni nd nj T : Nat) (hR : Rb h M ni nd nj) (hI : Inv M ni nd nj T) (hT : T < 1500) : Ct G mX6_passOneTick [ga G 1] h 456 456 (rI (fun r h' => r = (mOne M ni nd nj).2 ∧ Rb h' (mOne M ni nd nj).1 ni nd nj ∧ KL h h')) := by
  obtain ⟨⟨hi, hd, hj⟩, -⟩ := id hI.1
  have hIB := inv_bg hI (by omega)
  have tail2 : ∀ h1 (N : Mo) (r : Int32) (x : Option Value), Rb h1 N ni nd nj → KL h h1 → mRun (mBg M ni nd nj) = (N, r) → Go G mX6_passOneTick 456 (rI (fun r h' => r = (mOne M ni nd nj).2 ∧ Rb h' (mOne M ni nd nj).1 ni nd nj ∧ KL h h')) h1 456 58 [some (ga G 1), some (.int r), x] [] := by
    intro h1 N r x R1 K1 e
    have g8 : Gd (N.2 8) := by have := (inw_run hIB hT).1.2.2.2.2.1.2.1; rw [e] at this; exact this
    have e1 : mOne M ni nd nj = (mPass N, r) := by unfold mOne; rw [e]
    rw [e1]
    obtain ⟨⟨s5, s6, s7, s8, s9, s10, s11, s3, s4⟩, -, -, -, -, -, -, hS⟩ := id R1
    refine g_ald0 dX6_passOneTick_58 ?_
    refine g_ald0 dX6_passOneTick_59 ?_
    refine g_getF_a fb_6_3 mw_2_5 (by first | assumption | exact lay_item (by omega) | exact lay_drive (by omega) | exact lay_job (by omega) | rfl) (by omega) dX6_passOneTick_60 (fun xx60 ee60 => ?_)
    obtain rfl : xx60 = (N.2 8) := ee60.symm.trans s3
    refine g_ldcf mw_4_107 dX6_passOneTick_63 ?_
    refine g_fmul dX6_passOneTick_65 (fl_n32 (fl_mul75 g8)) ?_
    show Go _ _ _ _ _ _ 66 _ _
    refine g_putF fb_6_3 mw_2_5 (by first | assumption | exact lay_item (by omega) | exact lay_drive (by omega) | exact lay_job (by omega) | rfl) (by omega) dX6_passOneTick_66 ?_
    refine g_ald0 dX6_passOneTick_69 ?_
    refine g_dup dX6_passOneTick_70 rfl ?_
    refine g_getI_a fb_6_5 mw_2_9 (by first | assumption | exact lay_item (by omega) | exact lay_drive (by omega) | exact lay_job (by omega) | rfl) (by omega) dX6_passOneTick_71 (fun xx71 ee71 => ?_)
    obtain rfl : xx71 = (N.1 0 0) := ee71.symm.trans (by (try simp (disch := omega) only [wI_at, wI_ne, wF_at, wF_ne, wI_f, wF_i]) <;> first | exact s5 | rfl)
    refine g_iconst (v := nI 1) dX6_passOneTick_74 (by decide +kernel) ?_
    first | refine g_iadd_n dX6_passOneTick_75 ?_ | refine g_iadd dX6_passOneTick_75 ?_
    show Go _ _ _ _ _ _ 76 _ _
    refine g_putI fb_6_5 mw_2_9 (by first | assumption | exact lay_item (by omega) | exact lay_drive (by omega) | exact lay_job (by omega) | rfl) (by omega) rfl rfl dX6_passOneTick_76 ?_
    refine g_ild1 dX6_passOneTick_79 ?_
    exact g_iret rfl dX6_passOneTick_80 ⟨r, rfl, rfl, rb_pass R1 hi hd hj, KL.wI (by omega) (KL.wF K1)⟩
  have tail : ∀ h1 x y, Rb h1 (mBg M ni nd nj) ni nd nj → KL h h1 → Go G mX6_passOneTick 456 (rI (fun r h' => r = (mOne M ni nd nj).2 ∧ Rb h' (mOne M ni nd nj).1 ni nd nj ∧ KL h h')) h1 456 13 [some (ga G 1), x, y] [] := by
    intro h1 x y R1 K1
    generalize hBB : mBg M ni nd nj = B at R1 hIB tail2
    obtain ⟨⟨s5, s6, s7, s8, s9, s10, s11, s3, s4⟩, ⟨-, -, n3, -⟩, -, -, -, -, -, hS⟩ := id R1
    rcases hIB.2.2.2.2.2.2 with hid | ⟨j, it, k, q, hO, hO2⟩
    · have e3 := hid.1
      refine g_iconst (v := nI 0) dX6_passOneTick_13 (by decide +kernel) ?_
      refine g_ist1 (by decide) dX6_passOneTick_14 ?_
      refine g_ald0 dX6_passOneTick_15 ?_
      refine g_getQ fb_6_1 mw_2_2 (by first | assumption | exact lay_item (by omega) | exact lay_drive (by omega) | exact lay_job (by omega) | rfl) (by omega) (sh_queue hS) dX6_passOneTick_16 ?_
      refine g_ald0 dX6_passOneTick_19 ?_
      show Go _ _ _ _ _ _ 20 _ _
      refine g_getI_a fb_6_8 mw_2_15 (by first | assumption | exact lay_item (by omega) | exact lay_drive (by omega) | exact lay_job (by omega) | rfl) (by omega) dX6_passOneTick_20 (fun xx20 ee20 => ?_)
      obtain rfl : xx20 = (-5) := ee20.symm.trans (s8.trans e3)
      refine g_callV1 (c_jobAt_n (h := h1) (-5) nj n3 (Or.inl (by decide))) mw_3_74 ok_X5_jobAt ⟨by decide, by decide⟩ (by first | assumption | exact lay_item (by omega) | exact lay_drive (by omega) | exact lay_job (by omega) | rfl) (by omega) rfl (by omega) (by omega) (Nat.le_of_ble_eq_true rfl) dX6_passOneTick_23 (dQ_Kn ?_)
      refine g_zst2 (by decide) dX6_passOneTick_26 ?_
      refine g_zld2 dX6_passOneTick_27 ?_
      refine g_ifnonnullN dX6_passOneTick_28 ?_
      refine g_ald0 dX6_passOneTick_31 ?_
      show Go _ _ _ _ _ _ 32 _ _
      refine g_dup dX6_passOneTick_32 rfl ?_
      refine g_getI_a fb_6_11 mw_2_21 (by first | assumption | exact lay_item (by omega) | exact lay_drive (by omega) | exact lay_job (by omega) | rfl) (by omega) dX6_passOneTick_33 (fun xx33 ee33 => ?_)
      obtain rfl : xx33 = (B.1 0 17) := ee33.symm.trans (by (try simp (disch := omega) only [wI_at, wI_ne, wF_at, wF_ne, wI_f, wF_i]) <;> first | exact s11 | rfl)
      refine g_iconst (v := nI 1) dX6_passOneTick_36 (by decide +kernel) ?_
      first | refine g_iadd_n dX6_passOneTick_37 ?_ | refine g_iadd dX6_passOneTick_37 ?_
      refine g_putI fb_6_11 mw_2_21 (by first | assumption | exact lay_item (by omega) | exact lay_drive (by omega) | exact lay_job (by omega) | rfl) (by omega) rfl rfl dX6_passOneTick_38 ?_
      refine g_goto (tgt := 58) dX6_passOneTick_41 (by decide) ?_
      exact tail2 _ (mIdle B) 0 _ (rb_idle R1 hi hd hj) (KL.wI (by omega) K1) (by unfold mRun; rw [if_pos e3])
    · obtain ⟨o1, o2, -, o4⟩ := own_o hO hj hi hd
      have hoj : oJ B < nj ∧ B.1 0 3 = nI j := by rw [o1]; exact ⟨hO.1.1, hO.1.2.1⟩
      have hdo : mRun B = (if (mStep B j it k).2 = 0 then ((mStep B j it k).1, 0) else mAfter (mStep B j it k).1 j) := by
        unfold mRun mDo
        rw [if_neg o4, o1, ms_o hO hj hi hd]
      have X := stp hIB.1 hIB.2.1 hO hO2.1
      obtain ⟨⟨⟨x1, x2, x3, x4, x5⟩, x6, x7, x8, x9, x10, x11⟩, -⟩ := id X
      obtain ⟨⟨hj9, h3, h33, ht, h4, hq8⟩, hK, hPh, hc0, hr⟩ := id hO
      have hk7 : B.1 3 (6 * j) = 2 → q < 4 := by
        intro z
        rcases hK with ⟨z1, -⟩ | ⟨z1, -⟩ | ⟨-, -, -, z1⟩
        · rw [z1] at z; exact absurd z (by decide)
        · rw [z1] at z; exact absurd z (by decide)
        · exact z1
      have hr' : (mStep B j it k).1.1 4 (6 * j + 1) = -5 ∨ (mStep B j it k).1.1 4 (6 * j + 1) = 1 ∨ (mStep B j it k).1.1 4 (6 * j + 1) = 2 := by
        rcases x11 with z | z | z
        · rw [z]; exact hr
        · exact Or.inr (Or.inl z)
        · exact Or.inr (Or.inr z)
      refine g_iconst (v := nI 0) dX6_passOneTick_13 (by decide +kernel) ?_
      refine g_ist1 (by decide) dX6_passOneTick_14 ?_
      refine g_ald0 dX6_passOneTick_15 ?_
      refine g_getQ fb_6_1 mw_2_2 (by first | assumption | exact lay_item (by omega) | exact lay_drive (by omega) | exact lay_job (by omega) | rfl) (by omega) (sh_queue hS) dX6_passOneTick_16 ?_
      refine g_ald0 dX6_passOneTick_19 ?_
      show Go _ _ _ _ _ _ 20 _ _
      refine g_getI_a fb_6_8 mw_2_15 (by first | assumption | exact lay_item (by omega) | exact lay_drive (by omega) | exact lay_job (by omega) | rfl) (by omega) dX6_passOneTick_20 (fun xx20 ee20 => ?_)
      obtain rfl : xx20 = (nI j) := ee20.symm.trans (s8.trans h3)
      refine g_callV1 (c_jobAt (h := h1) j nj hS.1 n3 (by omega) hj9) mw_3_74 ok_X5_jobAt ⟨by decide, by decide⟩ (by first | assumption | exact lay_item (by omega) | exact lay_drive (by omega) | exact lay_job (by omega) | rfl) (by omega) rfl (by omega) (by omega) (Nat.le_of_ble_eq_true rfl) dX6_passOneTick_23 (dQ_K ?_)
      refine g_ast2 (by decide) dX6_passOneTick_26 ?_
      refine g_ald2 dX6_passOneTick_27 ?_
      refine g_ifnonnull (tgt := 44) dX6_passOneTick_28 (by decide) ?_
      refine g_ald0 dX6_passOneTick_44 ?_
      show Go _ _ _ _ _ _ 45 _ _
      refine g_ald2 dX6_passOneTick_45 ?_
      refine g_callV1 (c_doStep (h := h1) B ni nd nj j it k q R1 hIB.1 hO) mw_4_37 ok_X6_doStep ⟨by decide, by decide⟩ (by first | assumption | exact lay_item (by omega) | exact lay_drive (by omega) | exact lay_job (by omega) | rfl) (by omega) rfl (by omega) (by omega) (Nat.le_of_ble_eq_true rfl) dX6_passOneTick_46 (rI_K ?_)
      rintro r h2 ⟨rfl, R2, K2⟩
      refine g_if_eq (tgt := 58) dX6_passOneTick_49 (by decide) (fun c_49 => ?_) (fun c_49 => ?_)
      · skip
        have cE : (mStep B j it k).2 = 0 := c_49
        first | exact tail2 _ (mStep B j it k).1 0 _ R2 (K1.tr K2) (by rw [hdo, if_pos cE]) | exact tail2 _ _ _ _ R3 ((K1.tr K2).tr K3) (by rw [hdo, if_neg cE])
      · skip
        have cE : ¬ (mStep B j it k).2 = 0 := c_49
        refine g_ald0 dX6_passOneTick_52 ?_
        refine g_ald2 dX6_passOneTick_53 ?_
        refine g_callV1 (c_goOn (h := h2) _ ni nd nj j q R2 hi hd hj hj9 (by rw [x3]; exact h33) (by rw [x3]; exact h4) ⟨hq8, by rw [x3]; exact hk7⟩ hr') mw_4_99 ok_X6_goOn ⟨by decide, by decide⟩ (by first | assumption | exact lay_item (by omega) | exact lay_drive (by omega) | exact lay_job (by omega) | rfl) (by omega) rfl (by omega) (by omega) (Nat.le_of_ble_eq_true rfl) dX6_passOneTick_54 (rI_K ?_)
        rintro r h3 ⟨rfl, R3, K3⟩
        show Go _ _ _ _ _ _ 57 _ _
        refine g_ist1 (by decide) dX6_passOneTick_57 ?_
        first | exact tail2 _ (mStep B j it k).1 0 _ R2 (K1.tr K2) (by rw [hdo, if_pos cE]) | exact tail2 _ _ _ _ R3 ((K1.tr K2).tr K3) (by rw [hdo, if_neg cE])
  obtain ⟨⟨s5, s6, s7, s8, s9, s10, s11, s3, s4⟩, -, -, -, -, -, -, hS⟩ := id hR
  refine Ct.of rfl (by simp [Value.category, ga]) (Nat.le_of_ble_eq_true rfl) (Nat.le_refl _) ?_
  show Go _ _ _ _ _ _ _ [some (ga G 1), none, none] []
  by_cases c : M.1 0 3 = -5
  · by_cases c2 : aJ M ni nd nj = -5
    · have e : mBg M ni nd nj = M := by unfold mBg; rw [if_neg (fun z => z.2 c2)]
      have hm := am_s (OKj M ni nd) (grp M) nj (by omega)
      refine g_ald0 dX6_passOneTick_0 ?_
      refine g_getI_a fb_6_8 mw_2_15 (by first | assumption | exact lay_item (by omega) | exact lay_drive (by omega) | exact lay_job (by omega) | rfl) (by omega) dX6_passOneTick_1 (fun xx1 ee1 => ?_)
      obtain rfl : xx1 = (-5) := ee1.symm.trans (s8.trans c)
      refine g_bipush (v := -5) dX6_passOneTick_4 (by decide +kernel) ?_
      refine g_icmp_ne_f (tgt := 13) dX6_passOneTick_6 (by decide) (by decide) ?_
      refine g_ald0 dX6_passOneTick_9 ?_
      show Go _ _ _ _ _ _ 10 _ _
      refine g_callV0 (c_beginJob_n (h := h) M ni nd nj hR hI.1 (by rw [← c2]; exact hm)) mw_4_25 ok_X6_beginJob ⟨by decide, by decide⟩ (by first | assumption | exact lay_item (by omega) | exact lay_drive (by omega) | exact lay_job (by omega) | rfl) (by omega) rfl (by omega) (by omega) (Nat.le_of_ble_eq_true rfl) dX6_passOneTick_10 (dV_K ?_)
      exact tail h _ _ (by rw [e]; exact hR) (KL.rf h)
    · obtain ⟨j, hj9, hm⟩ : ∃ j, j < nj ∧ aJ M ni nd nj = nI j := by
        rcases am_s (OKj M ni nd) (grp M) nj (by omega) with ⟨y, -⟩ | ⟨j, hj, y1, -⟩
        · exact absurd y c2
        · exact ⟨j, hj, y1⟩
      have hF : IsMin (OKj M ni nd) (grp M) nj (nI j) := by rw [← hm]; exact am_s _ _ _ (by omega)
      obtain ⟨hCh, -⟩ := begun hI (by omega) c hj9 hF
      have e : mBg M ni nd nj = mBegin M j (kdO M nd j) (clO M ni j) := by unfold mBg; rw [if_pos ⟨c, c2⟩, hm, nI_clamp (by omega)]
      have hW : Iw M nj := fun n hn h0 => ((hI.2.2.1 n hn).2.1 h0).1
      refine g_ald0 dX6_passOneTick_0 ?_
      refine g_getI_a fb_6_8 mw_2_15 (by first | assumption | exact lay_item (by omega) | exact lay_drive (by omega) | exact lay_job (by omega) | rfl) (by omega) dX6_passOneTick_1 (fun xx1 ee1 => ?_)
      obtain rfl : xx1 = (-5) := ee1.symm.trans (s8.trans c)
      refine g_bipush (v := -5) dX6_passOneTick_4 (by decide +kernel) ?_
      refine g_icmp_ne_f (tgt := 13) dX6_passOneTick_6 (by decide) (by decide) ?_
      refine g_ald0 dX6_passOneTick_9 ?_
      show Go _ _ _ _ _ _ 10 _ _
      refine g_callV0 (c_beginJob_j (h := h) M ni nd nj j _ _ hR hI.1 hW hj9 hF hCh) mw_4_25 ok_X6_beginJob ⟨by decide, by decide⟩ (by first | assumption | exact lay_item (by omega) | exact lay_drive (by omega) | exact lay_job (by omega) | rfl) (by omega) rfl (by omega) (by omega) (Nat.le_of_ble_eq_true rfl) dX6_passOneTick_10 (rV_K ?_)
      intro h1 k1
      exact tail h1 _ _ (by rw [e]; exact k1.1) k1.2
  · have e : mBg M ni nd nj = M := by unfold mBg; rw [if_neg (fun z => c z.1)]
    refine g_ald0 dX6_passOneTick_0 ?_
    refine g_getI_a fb_6_8 mw_2_15 (by first | assumption | exact lay_item (by omega) | exact lay_drive (by omega) | exact lay_job (by omega) | rfl) (by omega) dX6_passOneTick_1 (fun xx1 ee1 => ?_)
    obtain rfl : xx1 = (M.1 0 3) := ee1.symm.trans s8
    refine g_bipush (v := -5) dX6_passOneTick_4 (by decide +kernel) ?_
    refine g_icmp_ne_t (tgt := 13) dX6_passOneTick_6 (by decide) c ?_
    exact tail h _ _ (by rw [e]; exact hR) (KL.rf h)
end P30
