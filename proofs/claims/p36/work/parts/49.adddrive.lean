/-! ===== addDrive ===== -/
def mDrv (M : Mo) (nd : Nat) (s : Int32) : Mo := up (up (uf (up M 2 (7 * nd) s) (2 * nd + 1) 1090519040) 2 (7 * nd + 6) (-5)) 0 10 (nI (nd + 1))
def hDrv (h : Hp) (a : Nat) (s : Int32) : Hp := wI (wI (wI (wI (wF (wF (wI h a 0 s) a 1 FP.fconst0) a 2 1090519040) a 3 (nI 0)) a 4 (nI 0)) a 5 (nI 0)) a 6 (-5)
theorem rb_drive {h : Hp} {M : Mo} {ni nd nj : Nat} (R : Rb h M ni nd nj) (hi : ni ≤ 8) (hd : nd < 4) (hj : nj ≤ 10) (s : Int32) (hz : M.1 2 (7 * nd + 3) = 0 ∧ M.1 2 (7 * nd + 4) = 0 ∧ M.1 2 (7 * nd + 5) = 0 ∧ M.2 (2 * nd) = 0) : Rb (wI (hDrv h (23 + nd) s) 2 3 (nI (nd + 1))) (mDrv M nd s) ni (nd + 1) nj := by
  obtain ⟨y3, y4, y5, yd⟩ := hz
  obtain ⟨⟨s5, s6, s7, s8, s9, s10, s11, s3, s4⟩, ⟨n1, n2, n3, n4, n5⟩, hI, hD, hJ, hL, hH, hS⟩ := R
  have ei : ∀ a k, a ≠ 23 + nd → ¬ (a = 2 ∧ k = 3) → (wI (hDrv h (23 + nd) s) 2 3 (nI (nd + 1))).1 a k = h.1 a k := fun a k ha hk => by simp (disch := omega) only [hDrv, wI_ne, wF_i]
  have ef : ∀ a k, a ≠ 23 + nd → (wI (hDrv h (23 + nd) s) 2 3 (nI (nd + 1))).2.1 a k = h.2.1 a k := fun a k ha => by simp (disch := omega) only [hDrv, wI_f, wF_ne]
  have e0 : ∀ k, k ≠ 10 → (mDrv M nd s).1 0 k = M.1 0 k := fun k hk => by simp (disch := omega) only [mDrv, up_ne, uf_i]
  have e1 : (mDrv M nd s).1 1 = M.1 1 := funext fun k => by simp (disch := omega) only [mDrv, up_ne, uf_i]
  have e2 : ∀ k, k < 7 * nd → (mDrv M nd s).1 2 k = M.1 2 k := fun k hk => by simp (disch := omega) only [mDrv, up_ne, uf_i]
  have e3 : (mDrv M nd s).1 3 = M.1 3 := funext fun k => by simp (disch := omega) only [mDrv, up_ne, uf_i]
  have e4 : (mDrv M nd s).1 4 = M.1 4 := funext fun k => by simp (disch := omega) only [mDrv, up_ne, uf_i]
  have e5 : (mDrv M nd s).1 5 = M.1 5 := funext fun k => by simp (disch := omega) only [mDrv, up_ne, uf_i]
  have eF : ∀ k, k ≠ 2 * nd + 1 → (mDrv M nd s).2 k = M.2 k := fun k hk => by simp (disch := omega) only [mDrv, up_f, uf_ne]
  have e26 : (mDrv M nd s).1 2 (7 * nd + 6) = -5 := by simp (disch := omega) only [mDrv, up_ne, up_at]
  refine ⟨?_, ?_, fun i hii => ?_, fun k hk => ?_, fun j hjj => ?_, ?_, ?_, hS⟩
  · simp (disch := omega) only [ei, ef, e0, eF]; exact ⟨s5, s6, s7, s8, s9, s10, s11, s3, s4⟩
  · simp (disch := omega) only [ei, e0]; exact ⟨n1, wI_at, n3, n4, n5⟩
  · have ein : inD (mDrv M nd s) (nd + 1) i = inD M nd i := by
      show (if (mDrv M nd s).1 2 (7 * nd + 6) = nI i then nI nd else inD (mDrv M nd s) nd i) = _
      rw [e26, if_neg (fun z => nI_n5 (b := i) (by omega) z.symm), inD_congr (M := M) i nd (fun q hq => e2 _ (by omega))]
    rw [e1, ein]; simp (disch := omega) only [ei, ef]; exact hI i hii
  · by_cases q : k < nd
    · simp (disch := omega) only [ei, ef, e2, eF]; exact hD k q
    · obtain rfl : k = nd := by omega
      simp (disch := omega) only [hDrv, mDrv, wI_at, wI_ne, wF_at, wF_ne, wI_f, wF_i, up_at, up_ne, uf_at, uf_ne, up_f, uf_i]
      exact ⟨(by first | trivial | rfl), yd.symm, (by first | trivial | rfl), y3.symm, y4.symm, y5.symm, (by first | trivial | rfl)⟩
  · rw [e3, e4, e5]; simp (disch := omega) only [ei]; exact hJ j hjj
  · obtain ⟨w, w1, w2⟩ := hL
    exact ⟨w, w1, (ei _ _ (by omega) (by omega)).trans w2⟩
  · obtain ⟨w, w1, w2⟩ := hH
    exact ⟨w, w1, (ei _ _ (by omega) (by omega)).trans w2⟩
theorem Gd8 : Gd 1090519040 := by
  show (1090519040 : UInt32).toNat ≤ 2139095040
  decide
section P49i
variable {M : Mo} {ni nd nj T s : Nat}
theorem inv_drive (hI : Inv M ni nd nj T) (hX : Xn M ni nd nj) (hd4 : nd < 4) (hs : s < 24) : Inv (mDrv M nd (nI s)) ni (nd + 1) nj T ∧ Xn (mDrv M nd (nI s)) ni (nd + 1) nj := by
  obtain ⟨hIS, hSm, hJw, hAm, hNc, h00, hP⟩ := hI
  obtain ⟨⟨hi, hd, hj10⟩, hp, hH, hC, hf, hu, hJb, hsl⟩ := id hIS
  obtain ⟨⟨⟨z1, z2, z3, z4, z5, z6⟩, hFk, hMd, hUn⟩, ⟨hN1, hN2⟩, h5⟩ := hX
  obtain ⟨y3, y4, y5, yd⟩ := hN2 nd (Nat.le_refl _) hd4
  have e0 : ∀ k, k ≠ 10 → (mDrv M nd (nI s)).1 0 k = M.1 0 k := fun k hk => by simp (disch := omega) only [mDrv, up_ne, uf_i]
  have e1 : (mDrv M nd (nI s)).1 1 = M.1 1 := funext fun k => by simp (disch := omega) only [mDrv, up_ne, uf_i]
  have e2 : ∀ k, k ≠ 7 * nd → k ≠ 7 * nd + 6 → (mDrv M nd (nI s)).1 2 k = M.1 2 k := fun k hk hk2 => by simp (disch := omega) only [mDrv, up_ne, uf_i]
  have e20 : (mDrv M nd (nI s)).1 2 (7 * nd) = nI s := by simp (disch := omega) only [mDrv, up_ne, up_at, uf_i]
  have e26 : (mDrv M nd (nI s)).1 2 (7 * nd + 6) = -5 := by simp (disch := omega) only [mDrv, up_ne, up_at]
  have e3 : (mDrv M nd (nI s)).1 3 = M.1 3 := funext fun k => by simp (disch := omega) only [mDrv, up_ne, uf_i]
  have e4 : (mDrv M nd (nI s)).1 4 = M.1 4 := funext fun k => by simp (disch := omega) only [mDrv, up_ne, uf_i]
  have e5 : (mDrv M nd (nI s)).1 5 = M.1 5 := funext fun k => by simp (disch := omega) only [mDrv, up_ne, uf_i]
  have e010 : (mDrv M nd (nI s)).1 0 10 = nI (nd + 1) := up_at
  have eF : ∀ k, k ≠ 2 * nd + 1 → (mDrv M nd (nI s)).2 k = M.2 k := fun k hk => by simp (disch := omega) only [mDrv, up_f, uf_ne]
  have eFn : (mDrv M nd (nI s)).2 (2 * nd + 1) = 1090519040 := by simp (disch := omega) only [mDrv, up_f, uf_at]
  have ep : pl (mDrv M nd (nI s)) = pl M := by unfold pl; rw [e0 1 (by omega)]
  generalize mDrv M nd (nI s) = S at *
  have hpa : PhA M nd → PhA S (nd + 1) := fun p => ⟨(e0 2 (by omega)).trans p.1, fun k hk => by
    by_cases c : k = nd
    · rw [c]; exact e26
    · rw [e2 _ (by omega) (by omega)]; exact p.2 k (by omega)⟩
  have hpb : ∀ it, PhB M nd it → PhB S (nd + 1) it := fun it p => ⟨(e0 2 (by omega)).trans p.1, fun k hk => by
    by_cases c : k = nd
    · rw [c]; exact e26
    · rw [e2 _ (by omega) (by omega)]; exact p.2 k (by omega)⟩
  have hpc : ∀ it k0, k0 < nd → PhC M nd it k0 → PhC S (nd + 1) it k0 := fun it k0 hk0 p => ⟨(e0 2 (by omega)).trans p.1, fun k hk hkk => by
    by_cases c : k = nd
    · rw [c]; exact e26
    · rw [e2 _ (by omega) (by omega)]; exact p.2.1 k (by omega) hkk, by rw [e2 _ (by omega) (by omega)]; exact p.2.2⟩
  refine ⟨⟨⟨⟨hi, by omega, hj10⟩, ?_, ?_, ?_, ?_, ?_, fun n hn => ?_, fun k hk => ?_⟩, ?_, fun n hn => ?_, ?_, ?_, (e0 0 (by omega)).trans h00, ?_⟩, ⟨⟨(e0 9 (by omega)).trans z1, z2, e010, by omega, (e0 11 (by omega)).trans z5, z6⟩, ?_, ?_, ?_⟩, ⟨?_, fun k hk hk4 => ?_⟩, h5.row e3⟩
  · unfold Ip; rw [ep, e0 1 (by omega)]; exact hp
  · unfold Ihm hm; rw [e1]; exact hH
  · unfold Icl; rw [e1]; exact hC
  · refine ⟨fun k hk => ?_, ?_, ?_⟩
    · by_cases c : k = nd
      · rw [c, eF _ (by omega), eFn, yd]; exact ⟨Gd0, Gd8⟩
      · rw [eF _ (by omega), eF _ (by omega)]; exact hf.1 k (by omega)
    · rw [eF _ (by omega)]; exact hf.2.1
    · rw [eF _ (by omega)]; exact hf.2.2
  · unfold Iu; rw [e1]; exact hu
  · rw [e3]
    rcases hJb n hn with z | ⟨a, k, hk, b⟩ | z
    · exact Or.inl z
    · exact Or.inr (Or.inl ⟨a, k, by omega, b⟩)
    · exact Or.inr (Or.inr z)
  · by_cases c : k = nd
    · rw [c]; exact ⟨s, hs, e20⟩
    · rw [e2 _ (by omega) (by omega)]; exact hsl k (by omega)
  · obtain ⟨b1, b2, b3⟩ := hSm
    refine ⟨?_, ?_, ?_⟩
    · rw [e0 12 (by omega), b1]
      show _ = sumI (fun k => S.1 2 (7 * k + 3)) nd + S.1 2 (7 * nd + 3)
      rw [e2 _ (by omega) (by omega), y3, Int32.add_zero]
      exact sumI_c nd (fun k hk => (e2 _ (by omega) (by omega)).symm)
    · rw [e0 13 (by omega), b2]
      show _ = sumI (fun k => S.1 2 (7 * k + 4)) nd + S.1 2 (7 * nd + 4)
      rw [e2 _ (by omega) (by omega), y4, Int32.add_zero]
      exact sumI_c nd (fun k hk => (e2 _ (by omega) (by omega)).symm)
    · rw [e0 14 (by omega), b3]
      show _ = sumI (fun k => S.1 2 (7 * k + 5)) nd + S.1 2 (7 * nd + 5)
      rw [e2 _ (by omega) (by omega), y5, Int32.add_zero]
      exact sumI_c nd (fun k hk => (e2 _ (by omega) (by omega)).symm)
  · rw [e3, e4, e5, e1]; exact hJw n hn
  · unfold Amt; rw [e1]; exact hAm
  · unfold Nc; rw [e5]; exact hNc
  · rcases hP with ⟨p1, p2, p3⟩ | ⟨j, it, k, q, hO, p1, p2, p3⟩
    · exact Or.inl ⟨(e0 3 (by omega)).trans p1, hpa p2, fun n hn => by rw [e3]; exact p3 n hn⟩
    · refine Or.inr ⟨j, it, k, q, ?_, fun z => ?_, fun z i hi y => ?_, fun n hn hnj => by rw [e3]; exact p3 n hn hnj⟩
      · obtain ⟨⟨c1, c2, c3, c4, c5, c6⟩, c7, c8, c9, c10⟩ := hO
        refine ⟨⟨c1, (e0 3 (by omega)).trans c2, by rw [e3]; exact c3, c4, by rw [e3]; exact c5, c6⟩, ?_, ?_, by rw [e5]; exact c9, by rw [e4]; exact c10⟩
        · rw [e3, e4, e1]
          rcases c7 with ⟨w1, w2, w3, w4⟩ | ⟨w1, w2, w3, w4⟩ | w
          · exact Or.inl ⟨w1, w2, by omega, w4⟩
          · exact Or.inr (Or.inl ⟨w1, w2, by omega, w4⟩)
          · exact Or.inr (Or.inr w)
        · unfold Ph at c8 ⊢
          by_cases q1 : q ≤ 1
          · rw [if_pos q1] at c8 ⊢; exact hpa c8
          · rw [if_neg q1] at c8 ⊢
            by_cases q4 : q = 4 ∨ q = 5
            · rw [if_pos q4] at c8 ⊢
              refine hpc it k ?_ c8
              rcases c7 with ⟨-, -, w3, -⟩ | ⟨-, -, w3, -⟩ | ⟨-, -, -, w⟩
              · exact w3
              · exact w3
              · omega
            · rw [if_neg q4] at c8 ⊢; exact hpb it c8
      · rw [e1]; rw [e3] at z; exact p1 z
      · rw [e3] at z; rw [e1, e3] at y; exact p2 z i hi y
  · unfold Fk; rw [e1]; exact hFk
  · unfold Md; rw [e3]; exact hMd
  · unfold Un; rw [e4]; exact hUn
  · rw [e1]; exact hN1
  · rw [e2 _ (by omega) (by omega), e2 _ (by omega) (by omega), e2 _ (by omega) (by omega), eF _ (by omega)]; exact hN2 k (by omega) hk4
end P49i
section P49
variable {G : Gl} {h : Hp}
theorem c_dbegin (a : Nat) (s : Int32) (ha : Lay a = .inl 0) (hl : a < 456) : Ct G mX0_begin [ga G a, .int s] h 456 456 (dV (hDrv h a s)) := by
  refine Ct.of rfl (by simp [Value.category, ga]) (Nat.le_of_ble_eq_true rfl) (Nat.le_refl _) ?_
  show Go _ _ _ _ _ _ _ [some (ga G a), some (.int s)] []
  refine g_ald0 dX0_begin_0 ?_
  refine g_ild1 dX0_begin_1 ?_
  refine g_putI fb_0_0 mw_1_84 (by first | assumption | exact lay_item (by omega) | exact lay_drive (by omega) | exact lay_job (by omega) | rfl) (by omega) rfl rfl dX0_begin_2 ?_
  refine g_ald0 dX0_begin_5 ?_
  refine g_fconst0 dX0_begin_6 ?_
  show Go _ _ _ _ _ _ 7 _ _
  refine g_putF fb_0_1 mw_1_87 (by first | assumption | exact lay_item (by omega) | exact lay_drive (by omega) | exact lay_job (by omega) | rfl) (by omega) dX0_begin_7 ?_
  refine g_ald0 dX0_begin_10 ?_
  refine g_ldcf mw_3_161 dX0_begin_11 ?_
  refine g_putF fb_0_2 mw_1_90 (by first | assumption | exact lay_item (by omega) | exact lay_drive (by omega) | exact lay_job (by omega) | rfl) (by omega) dX0_begin_13 ?_
  refine g_ald0 dX0_begin_16 ?_
  refine g_iconst (v := nI 0) dX0_begin_17 (by decide +kernel) ?_
  show Go _ _ _ _ _ _ 18 _ _
  refine g_putI fb_0_3 mw_1_92 (by first | assumption | exact lay_item (by omega) | exact lay_drive (by omega) | exact lay_job (by omega) | rfl) (by omega) rfl rfl dX0_begin_18 ?_
  refine g_ald0 dX0_begin_21 ?_
  refine g_iconst (v := nI 0) dX0_begin_22 (by decide +kernel) ?_
  refine g_putI fb_0_4 mw_1_93 (by first | assumption | exact lay_item (by omega) | exact lay_drive (by omega) | exact lay_job (by omega) | rfl) (by omega) rfl rfl dX0_begin_23 ?_
  refine g_ald0 dX0_begin_26 ?_
  refine g_iconst (v := nI 0) dX0_begin_27 (by decide +kernel) ?_
  show Go _ _ _ _ _ _ 28 _ _
  refine g_putI fb_0_5 mw_1_94 (by first | assumption | exact lay_item (by omega) | exact lay_drive (by omega) | exact lay_job (by omega) | rfl) (by omega) rfl rfl dX0_begin_28 ?_
  refine g_ald0 dX0_begin_31 ?_
  refine g_bipush (v := -5) dX0_begin_32 (by decide +kernel) ?_
  refine g_putI fb_0_6 mw_1_95 (by first | assumption | exact lay_item (by omega) | exact lay_drive (by omega) | exact lay_job (by omega) | rfl) (by omega) rfl rfl dX0_begin_34 ?_
  exact g_vret rfl dX0_begin_37 ⟨rfl, rfl⟩
theorem c_addDrive_1 (s : Nat) (hs : ¬ s < 24) (hs9 : s < 1000) : Ct G mX9_addDrive [ga G 0, .int (nI s)] h 456 456 (dI (-1) h) := by
  refine Ct.of rfl (by simp [Value.category, ga]) (Nat.le_of_ble_eq_true rfl) (Nat.le_refl _) ?_
  show Go _ _ _ _ _ _ _ [some (ga G 0), some (.int (nI s)), none] []
  refine g_ild1 dX9_addDrive_0 ?_
  refine g_callS1 (c_hasSlot (h := h) s hs9) mw_2_159 ok_X7_hasSlot ⟨by decide, by decide⟩ (by omega) (by omega) (Nat.le_of_ble_eq_true rfl) dX9_addDrive_1 (dI_K ?_)
  rw [if_neg hs]
  refine g_if_ne_f (tgt := 9) dX9_addDrive_4 (by decide) (by decide) ?_
  refine g_iconst (v := -1) dX9_addDrive_7 (by decide +kernel) ?_
  exact g_iret rfl dX9_addDrive_8 ⟨rfl, rfl⟩
theorem c_addDrive_4 (s nd : Nat) (hs : s < 24) (hS : Sh h) (hn : h.1 2 3 = nI nd) (hd : nd ≤ 4) (hx : ∃ k, k < nd ∧ h.1 (23 + k) 0 = nI s) : Ct G mX9_addDrive [ga G 0, .int (nI s)] h 456 456 (dI (-4) h) := by
  refine Ct.of rfl (by simp [Value.category, ga]) (Nat.le_of_ble_eq_true rfl) (Nat.le_refl _) ?_
  show Go _ _ _ _ _ _ _ [some (ga G 0), some (.int (nI s)), none] []
  refine g_ild1 dX9_addDrive_0 ?_
  refine g_callS1 (c_hasSlot (h := h) s (by omega)) mw_2_159 ok_X7_hasSlot ⟨by decide, by decide⟩ (by omega) (by omega) (Nat.le_of_ble_eq_true rfl) dX9_addDrive_1 (dI_K ?_)
  rw [if_pos hs]
  refine g_if_ne_t (tgt := 9) dX9_addDrive_4 (by decide) (by decide) ?_
  refine g_ald0 dX9_addDrive_9 ?_
  refine g_getQ fb_9_0 mw_2_95 (by first | assumption | exact lay_item (by omega) | exact lay_drive (by omega) | exact lay_job (by omega) | rfl) (by omega) (sh_now hS) dX9_addDrive_10 ?_
  show Go _ _ _ _ _ _ 13 _ _
  refine g_getQ fb_6_0 mw_2_1 (by first | assumption | exact lay_item (by omega) | exact lay_drive (by omega) | exact lay_job (by omega) | rfl) (by omega) (sh_store hS) dX9_addDrive_13 ?_
  refine g_ild1 dX9_addDrive_16 ?_
  refine g_callV1 (c_driveBeside (h := h) (nI s) nd hS.1 hn hd) mw_3_149 ok_X7_driveBeside ⟨by decide, by decide⟩ (by first | assumption | exact lay_item (by omega) | exact lay_drive (by omega) | exact lay_job (by omega) | rfl) (by omega) rfl (by omega) (by omega) (Nat.le_of_ble_eq_true rfl) dX9_addDrive_17 (rI_K ?_)
  rintro r h ⟨rfl, hm⟩
  obtain ⟨i, hi, rfl⟩ : ∃ i, i < nd ∧ r = nI i := by
    rcases hm with ⟨-, z⟩ | ⟨i, hi, e, -⟩
    · obtain ⟨k, hk, e⟩ := hx; exact absurd e (z k hk)
    · exact ⟨i, hi, e⟩
  refine g_bipush (v := -5) dX9_addDrive_20 (by decide +kernel) ?_
  refine g_icmp_eq_f (tgt := 28) dX9_addDrive_22 (by decide) (nI_n5 (by omega)) ?_
  refine g_bipush (v := -4) dX9_addDrive_25 (by decide +kernel) ?_
  show Go _ _ _ _ _ _ 27 _ _
  exact g_iret rfl dX9_addDrive_27 ⟨rfl, rfl⟩
theorem c_addDrive_3 (s : Nat) (hs : s < 24) (hS : Sh h) (hn : h.1 2 3 = nI 4) (hx : ∀ k, k < 4 → ¬ h.1 (23 + k) 0 = nI s) : Ct G mX9_addDrive [ga G 0, .int (nI s)] h 456 456 (dI (-3) h) := by
  refine Ct.of rfl (by simp [Value.category, ga]) (Nat.le_of_ble_eq_true rfl) (Nat.le_refl _) ?_
  show Go _ _ _ _ _ _ _ [some (ga G 0), some (.int (nI s)), none] []
  refine g_ild1 dX9_addDrive_0 ?_
  refine g_callS1 (c_hasSlot (h := h) s (by omega)) mw_2_159 ok_X7_hasSlot ⟨by decide, by decide⟩ (by omega) (by omega) (Nat.le_of_ble_eq_true rfl) dX9_addDrive_1 (dI_K ?_)
  rw [if_pos hs]
  refine g_if_ne_t (tgt := 9) dX9_addDrive_4 (by decide) (by decide) ?_
  refine g_ald0 dX9_addDrive_9 ?_
  refine g_getQ fb_9_0 mw_2_95 (by first | assumption | exact lay_item (by omega) | exact lay_drive (by omega) | exact lay_job (by omega) | rfl) (by omega) (sh_now hS) dX9_addDrive_10 ?_
  show Go _ _ _ _ _ _ 13 _ _
  refine g_getQ fb_6_0 mw_2_1 (by first | assumption | exact lay_item (by omega) | exact lay_drive (by omega) | exact lay_job (by omega) | rfl) (by omega) (sh_store hS) dX9_addDrive_13 ?_
  refine g_ild1 dX9_addDrive_16 ?_
  refine g_callV1 (c_driveBeside (h := h) (nI s) 4 hS.1 hn (by omega)) mw_3_149 ok_X7_driveBeside ⟨by decide, by decide⟩ (by first | assumption | exact lay_item (by omega) | exact lay_drive (by omega) | exact lay_job (by omega) | rfl) (by omega) rfl (by omega) (by omega) (Nat.le_of_ble_eq_true rfl) dX9_addDrive_17 (rI_K ?_)
  rintro r h ⟨rfl, hm⟩
  obtain rfl : r = -5 := by
    rcases hm with ⟨z, -⟩ | ⟨i, hi, -, e, -⟩
    · exact z
    · exact absurd e (hx i hi)
  refine g_bipush (v := -5) dX9_addDrive_20 (by decide +kernel) ?_
  refine g_icmp_eq_t (tgt := 28) dX9_addDrive_22 (by decide) rfl ?_
  refine g_ald0 dX9_addDrive_28 ?_
  show Go _ _ _ _ _ _ 29 _ _
  refine g_getQ fb_9_0 mw_2_95 (by first | assumption | exact lay_item (by omega) | exact lay_drive (by omega) | exact lay_job (by omega) | rfl) (by omega) (sh_now hS) dX9_addDrive_29 ?_
  refine g_getQ fb_6_0 mw_2_1 (by first | assumption | exact lay_item (by omega) | exact lay_drive (by omega) | exact lay_job (by omega) | rfl) (by omega) (sh_store hS) dX9_addDrive_32 ?_
  refine g_callV0 (c_freeDrive_n (h := h) hS.1 hn) mw_3_153 ok_X7_freeDrive ⟨by decide, by decide⟩ (by first | assumption | exact lay_item (by omega) | exact lay_drive (by omega) | exact lay_job (by omega) | rfl) (by omega) rfl (by omega) (by omega) (Nat.le_of_ble_eq_true rfl) dX9_addDrive_35 (dQ_Kn ?_)
  refine g_zst2 (by decide) dX9_addDrive_38 ?_
  refine g_zld2 dX9_addDrive_39 ?_
  refine g_ifnonnullN dX9_addDrive_40 ?_
  show Go _ _ _ _ _ _ 43 _ _
  refine g_bipush (v := -3) dX9_addDrive_43 (by decide +kernel) ?_
  exact g_iret rfl dX9_addDrive_45 ⟨rfl, rfl⟩
theorem c_addDrive (M : Mo) (ni nd nj s : Nat) (hs : s < 24) (hR : Rb h M ni nd nj) (hi : ni ≤ 8) (hd : nd < 4) (hj : nj ≤ 10) (hC : Icl M ni) (hz : M.1 2 (7 * nd + 3) = 0 ∧ M.1 2 (7 * nd + 4) = 0 ∧ M.1 2 (7 * nd + 5) = 0 ∧ M.2 (2 * nd) = 0) (hx : ∀ k, k < nd → ¬ M.1 2 (7 * k) = nI s) : Ct G mX9_addDrive [ga G 0, .int (nI s)] h 456 456 (rI (fun r h' => r = nI nd ∧ Rb h' (mDrv M nd (nI s)) ni (nd + 1) nj ∧ KL h h')) := by
  obtain ⟨-, ⟨-, n2, -⟩, -, hD, -, -, hH, hS⟩ := id hR
  refine Ct.of rfl (by simp [Value.category, ga]) (Nat.le_of_ble_eq_true rfl) (Nat.le_refl _) ?_
  show Go _ _ _ _ _ _ _ [some (ga G 0), some (.int (nI s)), none] []
  refine g_ild1 dX9_addDrive_0 ?_
  refine g_callS1 (c_hasSlot (h := h) s (by omega)) mw_2_159 ok_X7_hasSlot ⟨by decide, by decide⟩ (by omega) (by omega) (Nat.le_of_ble_eq_true rfl) dX9_addDrive_1 (dI_K ?_)
  rw [if_pos hs]
  refine g_if_ne_t (tgt := 9) dX9_addDrive_4 (by decide) (by decide) ?_
  refine g_ald0 dX9_addDrive_9 ?_
  refine g_getQ fb_9_0 mw_2_95 (by first | assumption | exact lay_item (by omega) | exact lay_drive (by omega) | exact lay_job (by omega) | rfl) (by omega) (sh_now hS) dX9_addDrive_10 ?_
  show Go _ _ _ _ _ _ 13 _ _
  refine g_getQ fb_6_0 mw_2_1 (by first | assumption | exact lay_item (by omega) | exact lay_drive (by omega) | exact lay_job (by omega) | rfl) (by omega) (sh_store hS) dX9_addDrive_13 ?_
  refine g_ild1 dX9_addDrive_16 ?_
  refine g_callV1 (c_driveBeside (h := h) (nI s) nd hS.1 n2 (by omega)) mw_3_149 ok_X7_driveBeside ⟨by decide, by decide⟩ (by first | assumption | exact lay_item (by omega) | exact lay_drive (by omega) | exact lay_job (by omega) | rfl) (by omega) rfl (by omega) (by omega) (Nat.le_of_ble_eq_true rfl) dX9_addDrive_17 (rI_K ?_)
  rintro r h ⟨rfl, hm⟩
  obtain rfl : r = -5 := by
    rcases hm with ⟨z, -⟩ | ⟨i, hi, -, e, -⟩
    · exact z
    · exact absurd ((hD i hi).1.symm.trans e) (hx i hi)
  refine g_bipush (v := -5) dX9_addDrive_20 (by decide +kernel) ?_
  refine g_icmp_eq_t (tgt := 28) dX9_addDrive_22 (by decide) rfl ?_
  refine g_ald0 dX9_addDrive_28 ?_
  show Go _ _ _ _ _ _ 29 _ _
  refine g_getQ fb_9_0 mw_2_95 (by first | assumption | exact lay_item (by omega) | exact lay_drive (by omega) | exact lay_job (by omega) | rfl) (by omega) (sh_now hS) dX9_addDrive_29 ?_
  refine g_getQ fb_6_0 mw_2_1 (by first | assumption | exact lay_item (by omega) | exact lay_drive (by omega) | exact lay_job (by omega) | rfl) (by omega) (sh_store hS) dX9_addDrive_32 ?_
  refine g_callV0 (c_freeDrive (h := h) nd hS.1 n2 hd) mw_3_153 ok_X7_freeDrive ⟨by decide, by decide⟩ (by first | assumption | exact lay_item (by omega) | exact lay_drive (by omega) | exact lay_job (by omega) | rfl) (by omega) rfl (by omega) (by omega) (Nat.le_of_ble_eq_true rfl) dX9_addDrive_35 (dQ_K ?_)
  refine g_ast2 (by decide) dX9_addDrive_38 ?_
  refine g_ald2 dX9_addDrive_39 ?_
  refine g_ifnonnull (tgt := 46) dX9_addDrive_40 (by decide) ?_
  show Go _ _ _ _ _ _ 46 _ _
  refine g_ald0 dX9_addDrive_46 ?_
  refine g_getQ fb_9_1 mw_2_96 (by first | assumption | exact lay_item (by omega) | exact lay_drive (by omega) | exact lay_job (by omega) | rfl) (by omega) (sh_hist hS) dX9_addDrive_47 ?_
  refine g_ald0 dX9_addDrive_50 ?_
  refine g_getQ fb_9_0 mw_2_95 (by first | assumption | exact lay_item (by omega) | exact lay_drive (by omega) | exact lay_job (by omega) | rfl) (by omega) (sh_now hS) dX9_addDrive_51 ?_
  refine g_callV1 (c_record (h := h) hS (hR.cn hi (by omega) hj hC) hH) mw_3_79 ok_X1_record ⟨by decide, by decide⟩ (by first | assumption | exact lay_item (by omega) | exact lay_drive (by omega) | exact lay_job (by omega) | rfl) (by omega) rfl (by omega) (by omega) (Nat.le_of_ble_eq_true rfl) dX9_addDrive_54 (rV_K ?_)
  intro h1 k1
  have hS1 := k1.2.1
  have R1 := hR.kp hi (by omega) hj k1
  refine g_ald2 dX9_addDrive_57 ?_
  show Go _ _ _ _ _ _ 58 _ _
  refine g_ild1 dX9_addDrive_58 ?_
  refine g_callV1 (c_dbegin (h := h1) (23 + nd) (nI s) (lay_drive (by omega)) (by omega)) mw_3_157 ok_X0_begin ⟨by decide, by decide⟩ (by first | assumption | exact lay_item (by omega) | exact lay_drive (by omega) | exact lay_job (by omega) | rfl) (by omega) rfl (by omega) (by omega) (Nat.le_of_ble_eq_true rfl) dX9_addDrive_59 (dV_K ?_)
  refine g_ald0 dX9_addDrive_62 ?_
  refine g_getQ fb_9_0 mw_2_95 (by first | assumption | exact lay_item (by omega) | exact lay_drive (by omega) | exact lay_job (by omega) | rfl) (by omega) (sh_now hS1) dX9_addDrive_63 ?_
  refine g_getQ fb_6_0 mw_2_1 (by first | assumption | exact lay_item (by omega) | exact lay_drive (by omega) | exact lay_job (by omega) | rfl) (by omega) (sh_store hS1) dX9_addDrive_66 ?_
  refine g_dup dX9_addDrive_69 rfl ?_
  show Go _ _ _ _ _ _ 70 _ _
  refine g_getI_a fb_7_3 mw_1_117 (by first | assumption | exact lay_item (by omega) | exact lay_drive (by omega) | exact lay_job (by omega) | rfl) (by omega) dX9_addDrive_70 (fun xx70 ee70 => ?_)
  obtain rfl : xx70 = (nI nd) := ee70.symm.trans (by simp (disch := omega) only [hDrv, wI_ne, wF_i]; exact R1.2.1.2.1)
  refine g_dup_x1 dX9_addDrive_73 rfl rfl ?_
  refine g_iconst (v := nI 1) dX9_addDrive_74 (by decide +kernel) ?_
  first | refine g_iadd_n dX9_addDrive_75 ?_ | refine g_iadd dX9_addDrive_75 ?_
  refine g_putI fb_7_3 mw_1_117 (by first | assumption | exact lay_item (by omega) | exact lay_drive (by omega) | exact lay_job (by omega) | rfl) (by omega) rfl rfl dX9_addDrive_76 ?_
  exact g_iret rfl dX9_addDrive_79 ⟨_, rfl, rfl, rb_drive R1 hi hd hj (nI s) hz, KL.wI (by omega) (by unfold hDrv; repeat (first | exact KL.kp k1 | refine KL.wI (by omega) ?_ | refine KL.wF ?_))⟩
end P49
