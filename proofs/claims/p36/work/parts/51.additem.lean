/-! ===== addTape, addCleaner ===== -/
theorem IsMin.no {ok : Nat → Prop} {key : Nat → Nat} {n : Nat} {r : Int32} (h : IsMin ok key n r) (hr : r = -5) (hn : n < 1000) : ∀ i, i < n → ¬ ok i := by
  rcases h with ⟨-, z⟩ | ⟨i, hi, e, -⟩
  · exact z
  · exact absurd (e.symm.trans hr) (nI_n5 (by omega))
theorem IsMin.yes {ok : Nat → Prop} {key : Nat → Nat} {n : Nat} {r : Int32} (h : IsMin ok key n r) (hr : ¬ r = -5) : ∃ i, i < n ∧ ok i ∧ r = nI i := by
  rcases h with ⟨z, -⟩ | ⟨i, hi, e, ho, -⟩
  · exact absurd z hr
  · exact ⟨i, hi, ho, e⟩
def mItm (M : Mo) (n : Nat) (ty s am f : Int32) : Mo := up (up (up (up (up M 1 (6 * n) ty) 1 (6 * n + 1) s) 1 (6 * n + 3) am) 1 (6 * n + 4) f) 0 9 (nI (n + 1))
def hBeg (h : Hp) (a : Nat) (s : Int32) : Hp := wI (wI (wI (wI h a 1 s) a 2 (nI 0)) a 3 (-5)) a 7 (nI 0)
def hItm (h : Hp) (a : Nat) (ty s am fb : Int32) (fv : UInt32) : Hp := wF (wI (wI (wI (hBeg h a s) a 0 ty) a 4 am) a 5 fb) a 6 fv
theorem bt_9 : ∀ f : Fin 9, nI 0 ≤ bt f.1 ∧ bt f.1 ≤ (1065353216 : Int32) ∧ fbits f.1 = bt f.1 := by decide +kernel
theorem fval_0 : fval 0 = 0 := by decide +kernel
theorem rb_item {h : Hp} {M : Mo} {ni nd nj : Nat} (R : Rb h M ni nd nj) (hi : ni < 8) (hd : nd ≤ 4) (hj : nj ≤ 10) (ty s am fb : Int32) (fv : UInt32) (f : Nat) (hf : f < 9) (h5 : fb = fbits f) (h6 : fv = fval f) (hz : M.1 1 (6 * ni + 2) = 0 ∧ M.1 1 (6 * ni + 5) = 0) (hp : ∀ k, k < nd → M.1 2 (7 * k + 6) = -5) : Rb (wI (hItm h (4 + ni) ty s am fb fv) 2 1 (nI (ni + 1))) (mItm M ni ty s am (nI f)) (ni + 1) nd nj := by
  obtain ⟨y2, y5⟩ := hz
  obtain ⟨⟨s5, s6, s7, s8, s9, s10, s11, s3, s4⟩, ⟨n1, n2, n3, n4, n5⟩, hI, hD, hJ, hL, hH, hS⟩ := R
  have ei : ∀ a k, a ≠ 4 + ni → ¬ (a = 2 ∧ k = 1) → (wI (hItm h (4 + ni) ty s am fb fv) 2 1 (nI (ni + 1))).1 a k = h.1 a k := fun a k ha hk => by simp (disch := omega) only [hItm, hBeg, wI_ne, wF_i]
  have ef : ∀ a k, a ≠ 4 + ni → (wI (hItm h (4 + ni) ty s am fb fv) 2 1 (nI (ni + 1))).2.1 a k = h.2.1 a k := fun a k ha => by simp (disch := omega) only [hItm, hBeg, wI_f, wF_ne]
  have e0 : ∀ k, k ≠ 9 → (mItm M ni ty s am (nI f)).1 0 k = M.1 0 k := fun k hk => by simp (disch := omega) only [mItm, up_ne]
  have e1 : ∀ k, k < 6 * ni → (mItm M ni ty s am (nI f)).1 1 k = M.1 1 k := fun k hk => by simp (disch := omega) only [mItm, up_ne]
  have e2 : (mItm M ni ty s am (nI f)).1 2 = M.1 2 := funext fun k => by simp (disch := omega) only [mItm, up_ne]
  have e3 : (mItm M ni ty s am (nI f)).1 3 = M.1 3 := funext fun k => by simp (disch := omega) only [mItm, up_ne]
  have e4 : (mItm M ni ty s am (nI f)).1 4 = M.1 4 := funext fun k => by simp (disch := omega) only [mItm, up_ne]
  have e5 : (mItm M ni ty s am (nI f)).1 5 = M.1 5 := funext fun k => by simp (disch := omega) only [mItm, up_ne]
  have eF : (mItm M ni ty s am (nI f)).2 = M.2 := rfl
  refine ⟨?_, ?_, fun i hii => ?_, fun k hk => ?_, fun j hjj => ?_, ?_, ?_, hS⟩
  · rw [eF]; simp (disch := omega) only [ei, ef, e0]; exact ⟨s5, s6, s7, s8, s9, s10, s11, s3, s4⟩
  · simp (disch := omega) only [ei, e0]; exact ⟨wI_at, n2, n3, n4, n5⟩
  · rw [inD_congr (M := M) i nd (fun q hq => by rw [e2])]
    by_cases q : i < ni
    · simp (disch := omega) only [ei, ef, e1]; exact hI i q
    · obtain rfl : i = ni := by omega
      rw [inD_none (M := M) (by omega) nd hp]
      simp (disch := omega) only [hItm, hBeg, mItm, wI_at, wI_ne, wF_at, wF_ne, wI_f, wF_i, up_at, up_ne]
      exact ⟨(by first | trivial | rfl), (by first | trivial | rfl), y2.symm, (by first | trivial | rfl), (by first | trivial | rfl), ⟨f, hf, rfl, h5, h6⟩, y5.symm⟩
  · rw [e2, eF]; simp (disch := omega) only [ei, ef]; exact hD k hk
  · rw [e3, e4, e5]; simp (disch := omega) only [ei]; exact hJ j hjj
  · obtain ⟨w, w1, w2⟩ := hL
    exact ⟨w, w1, (ei _ _ (by omega) (by omega)).trans w2⟩
  · obtain ⟨w, w1, w2⟩ := hH
    exact ⟨w, w1, (ei _ _ (by omega) (by omega)).trans w2⟩
section P51i
variable {M : Mo} {ni nd nj T s f : Nat} {ty am : Int32}
theorem inv_item (hI : Inv M ni nd nj T) (hX : Xn M ni nd nj) (hi8 : ni < 8) (hs : s < 24) (hf9 : f < 9) (hty : (ty = 0 ∧ am = 0) ∨ ty = 1) (hx : ∀ i, i < ni → M.1 1 (6 * i + 1) ≠ nI s) (hid : Idl M nd nj) : Inv (mItm M ni ty (nI s) am (nI f)) (ni + 1) nd nj T ∧ Xn (mItm M ni ty (nI s) am (nI f)) (ni + 1) nd nj := by
  obtain ⟨hIS, hSm, hJw, hAm, hNc, h00, -⟩ := hI
  obtain ⟨⟨hi, hd, hj10⟩, hp, hH, hC, hf, hu, hJb, hsl⟩ := id hIS
  obtain ⟨⟨⟨z1, z2, z3, z4, z5, z6⟩, hFk, hMd, hUn⟩, ⟨hN1, hN2⟩, h5⟩ := hX
  have e0 : ∀ k, k ≠ 9 → (mItm M ni ty (nI s) am (nI f)).1 0 k = M.1 0 k := fun k hk => by simp (disch := omega) only [mItm, up_ne]
  have e1 : ∀ k, k < 6 * ni ∨ 6 * ni + 6 ≤ k → (mItm M ni ty (nI s) am (nI f)).1 1 k = M.1 1 k := fun k hk => by simp (disch := omega) only [mItm, up_ne]
  have e10 : (mItm M ni ty (nI s) am (nI f)).1 1 (6 * ni) = ty := by simp (disch := omega) only [mItm, up_ne, up_at]
  have e11 : (mItm M ni ty (nI s) am (nI f)).1 1 (6 * ni + 1) = nI s := by simp (disch := omega) only [mItm, up_ne, up_at]
  have e13 : (mItm M ni ty (nI s) am (nI f)).1 1 (6 * ni + 3) = am := by simp (disch := omega) only [mItm, up_ne, up_at]
  have e14 : (mItm M ni ty (nI s) am (nI f)).1 1 (6 * ni + 4) = nI f := by simp (disch := omega) only [mItm, up_ne, up_at]
  have e2 : (mItm M ni ty (nI s) am (nI f)).1 2 = M.1 2 := funext fun k => by simp (disch := omega) only [mItm, up_ne]
  have e3 : (mItm M ni ty (nI s) am (nI f)).1 3 = M.1 3 := funext fun k => by simp (disch := omega) only [mItm, up_ne]
  have e4 : (mItm M ni ty (nI s) am (nI f)).1 4 = M.1 4 := funext fun k => by simp (disch := omega) only [mItm, up_ne]
  have e5 : (mItm M ni ty (nI s) am (nI f)).1 5 = M.1 5 := funext fun k => by simp (disch := omega) only [mItm, up_ne]
  have eF : (mItm M ni ty (nI s) am (nI f)).2 = M.2 := rfl
  have e09 : (mItm M ni ty (nI s) am (nI f)).1 0 9 = nI (ni + 1) := up_at
  have ep : pl (mItm M ni ty (nI s) am (nI f)) = pl M := by unfold pl; rw [e0 1 (by omega)]
  generalize mItm M ni ty (nI s) am (nI f) = S at *
  refine ⟨⟨⟨⟨by omega, hd, hj10⟩, ?_, fun i hi => ?_, fun i hi => ?_, ?_, fun i j hi hj z => ?_, fun n hn => ?_, ?_⟩, ?_, fun n hn => ?_, fun i hi z => ?_, ?_, (e0 0 (by omega)).trans h00, Or.inl ⟨(e0 3 (by omega)).trans hid.1, pha_same (M := M) (e0 2 (by omega)) (fun k => by rw [e2]) hid.2.1, by rw [e3]; exact hid.2.2⟩⟩, ⟨⟨e09, by omega, (e0 10 (by omega)).trans z3, z4, (e0 11 (by omega)).trans z5, z6⟩, fun i hi => ?_, ?_, ?_⟩, ⟨fun i hi => ?_, ?_⟩, h5.row e3⟩
  · unfold Ip; rw [ep, e0 1 (by omega)]; exact hp
  · unfold hm
    by_cases c : i = ni
    · rw [c, e11, nI_clamp (by omega)]; exact ⟨hs, rfl⟩
    · rw [e1 _ (by omega)]; exact hH i (by omega)
  · by_cases c : i = ni
    · rw [c, e10]; rcases hty with ⟨y, -⟩ | y
      · exact Or.inl y
      · exact Or.inr y
    · rw [e1 _ (by omega)]; exact hC i (by omega)
  · unfold Ifl; rw [eF]; exact hf
  · by_cases c : i = ni
    · by_cases c2 : j = ni
      · omega
      · rw [c, e11, e1 _ (by omega)] at z; exact absurd z.symm (hx j (by omega))
    · by_cases c2 : j = ni
      · rw [c2, e11, e1 _ (by omega)] at z; exact absurd z (hx i (by omega))
      · rw [e1 _ (by omega), e1 _ (by omega)] at z; exact hu i j (by omega) (by omega) z
  · rw [e3]
    rcases hJb n hn with ⟨a, i, hi, b⟩ | z | ⟨a, ⟨i, hi, b⟩, c⟩
    · exact Or.inl ⟨a, i, by omega, b⟩
    · exact Or.inr (Or.inl z)
    · exact Or.inr (Or.inr ⟨a, ⟨i, by omega, b⟩, c⟩)
  · unfold Isl; rw [e2]; exact hsl
  · unfold Sm; rw [e0 12 (by omega), e0 13 (by omega), e0 14 (by omega), e2]; exact hSm
  · rw [e3, e4, e5]
    obtain ⟨a, b, c⟩ := hJw n hn
    refine ⟨a, b, fun z => ?_⟩
    have y := c z
    rcases hJb n hn with ⟨-, i, hi, b⟩ | ⟨w, -⟩ | ⟨w, -⟩
    · rw [b, nI_clamp (by omega)] at y ⊢
      rw [e1 _ (by omega)]; exact y
    · rw [z] at w; exact absurd w (by decide)
    · rw [z] at w; exact absurd w (by decide)
  · by_cases c : i = ni
    · rw [c, e10] at z
      rw [c, e13]
      rcases hty with ⟨-, y⟩ | y
      · exact ⟨0, by omega, y⟩
      · rw [y] at z; exact absurd z (by decide)
    · rw [e1 _ (by omega)] at z; rw [e1 _ (by omega)]; exact hAm i (by omega) z
  · unfold Nc; rw [e5]; exact hNc
  · by_cases c : i = ni
    · rw [c]; exact ⟨f, hf9, e14⟩
    · rw [e1 _ (by omega)]; exact hFk i (by omega)
  · unfold Md; rw [e3]; exact hMd
  · unfold Un; rw [e4]; exact hUn
  · rw [e1 _ (by omega), e1 _ (by omega)]; exact hN1 i (by omega)
  · rw [e2, eF]; exact hN2
end P51i
section P51
variable {G : Gl} {h : Hp}
theorem c_ibegin (a : Nat) (s : Int32) (ha : Lay a = .inl 2) (hl : a < 456) : Ct G mX2_begin [ga G a, .int s] h 456 456 (dV (hBeg h a s)) := by
  refine Ct.of rfl (by simp [Value.category, ga]) (Nat.le_of_ble_eq_true rfl) (Nat.le_refl _) ?_
  show Go _ _ _ _ _ _ _ [some (ga G a), some (.int s)] []
  refine g_ald0 dX2_begin_0 ?_
  refine g_ild1 dX2_begin_1 ?_
  refine g_putI fb_2_1 mw_1_44 (by first | assumption | exact lay_item (by omega) | exact lay_drive (by omega) | exact lay_job (by omega) | rfl) (by omega) rfl rfl dX2_begin_2 ?_
  refine g_ald0 dX2_begin_5 ?_
  refine g_iconst (v := nI 0) dX2_begin_6 (by decide +kernel) ?_
  show Go _ _ _ _ _ _ 7 _ _
  refine g_putI fb_2_2 mw_1_47 (by first | assumption | exact lay_item (by omega) | exact lay_drive (by omega) | exact lay_job (by omega) | rfl) (by omega) rfl rfl dX2_begin_7 ?_
  refine g_ald0 dX2_begin_10 ?_
  refine g_bipush (v := -5) dX2_begin_11 (by decide +kernel) ?_
  refine g_putI fb_2_3 mw_1_49 (by first | assumption | exact lay_item (by omega) | exact lay_drive (by omega) | exact lay_job (by omega) | rfl) (by omega) rfl rfl dX2_begin_13 ?_
  refine g_ald0 dX2_begin_16 ?_
  refine g_iconst (v := nI 0) dX2_begin_17 (by decide +kernel) ?_
  show Go _ _ _ _ _ _ 18 _ _
  refine g_putI fb_2_7 mw_1_58 (by first | assumption | exact lay_item (by omega) | exact lay_drive (by omega) | exact lay_job (by omega) | rfl) (by omega) rfl rfl dX2_begin_18 ?_
  exact g_vret rfl dX2_begin_21 ⟨rfl, rfl⟩
theorem c_beginTape (a : Nat) (s fb : Int32) (fv : UInt32) (ha : Lay a = .inl 2) (hl : a < 456) : Ct G mX2_beginTape [ga G a, .int s, .int fb, .float fv] h 456 456 (dV (hItm h a (nI 0) s (nI 0) fb fv)) := by
  refine Ct.of rfl (by simp [Value.category, ga]) (Nat.le_of_ble_eq_true rfl) (Nat.le_refl _) ?_
  show Go _ _ _ _ _ _ _ [some (ga G a), some (.int s), some (.int fb), some (.float fv)] []
  refine g_ald0 dX2_beginTape_0 ?_
  refine g_ild1 dX2_beginTape_1 ?_
  refine g_callV1 (c_ibegin (h := h) a s ha hl) mw_3_128 ok_X2_begin ⟨by decide, by decide⟩ (by first | assumption | exact lay_item (by omega) | exact lay_drive (by omega) | exact lay_job (by omega) | rfl) (by omega) rfl (by omega) (by omega) (Nat.le_of_ble_eq_true rfl) dX2_beginTape_2 (dV_K ?_)
  refine g_ald0 dX2_beginTape_5 ?_
  refine g_iconst (v := nI 0) dX2_beginTape_6 (by decide +kernel) ?_
  show Go _ _ _ _ _ _ 7 _ _
  refine g_putI fb_2_0 mw_1_40 (by first | assumption | exact lay_item (by omega) | exact lay_drive (by omega) | exact lay_job (by omega) | rfl) (by omega) rfl rfl dX2_beginTape_7 ?_
  refine g_ald0 dX2_beginTape_10 ?_
  refine g_iconst (v := nI 0) dX2_beginTape_11 (by decide +kernel) ?_
  refine g_putI fb_2_4 mw_1_51 (by first | assumption | exact lay_item (by omega) | exact lay_drive (by omega) | exact lay_job (by omega) | rfl) (by omega) rfl rfl dX2_beginTape_12 ?_
  refine g_ald0 dX2_beginTape_15 ?_
  refine g_ild2 dX2_beginTape_16 ?_
  show Go _ _ _ _ _ _ 17 _ _
  refine g_putI fb_2_5 mw_1_55 (by first | assumption | exact lay_item (by omega) | exact lay_drive (by omega) | exact lay_job (by omega) | rfl) (by omega) rfl rfl dX2_beginTape_17 ?_
  refine g_ald0 dX2_beginTape_20 ?_
  refine g_fld3 dX2_beginTape_21 ?_
  refine g_putF fb_2_6 mw_1_56 (by first | assumption | exact lay_item (by omega) | exact lay_drive (by omega) | exact lay_job (by omega) | rfl) (by omega) dX2_beginTape_22 ?_
  exact g_vret rfl dX2_beginTape_25 ⟨rfl, rfl⟩
theorem c_beginCleaner (a : Nat) (s u : Int32) (ha : Lay a = .inl 2) (hl : a < 456) : Ct G mX2_beginCleaner [ga G a, .int s, .int u] h 456 456 (dV (hItm h a (nI 1) s u (nI 0) FP.fconst0)) := by
  refine Ct.of rfl (by simp [Value.category, ga]) (Nat.le_of_ble_eq_true rfl) (Nat.le_refl _) ?_
  show Go _ _ _ _ _ _ _ [some (ga G a), some (.int s), some (.int u)] []
  refine g_ald0 dX2_beginCleaner_0 ?_
  refine g_ild1 dX2_beginCleaner_1 ?_
  refine g_callV1 (c_ibegin (h := h) a s ha hl) mw_3_128 ok_X2_begin ⟨by decide, by decide⟩ (by first | assumption | exact lay_item (by omega) | exact lay_drive (by omega) | exact lay_job (by omega) | rfl) (by omega) rfl (by omega) (by omega) (Nat.le_of_ble_eq_true rfl) dX2_beginCleaner_2 (dV_K ?_)
  refine g_ald0 dX2_beginCleaner_5 ?_
  refine g_iconst (v := nI 1) dX2_beginCleaner_6 (by decide +kernel) ?_
  show Go _ _ _ _ _ _ 7 _ _
  refine g_putI fb_2_0 mw_1_40 (by first | assumption | exact lay_item (by omega) | exact lay_drive (by omega) | exact lay_job (by omega) | rfl) (by omega) rfl rfl dX2_beginCleaner_7 ?_
  refine g_ald0 dX2_beginCleaner_10 ?_
  refine g_ild2 dX2_beginCleaner_11 ?_
  refine g_putI fb_2_4 mw_1_51 (by first | assumption | exact lay_item (by omega) | exact lay_drive (by omega) | exact lay_job (by omega) | rfl) (by omega) rfl rfl dX2_beginCleaner_12 ?_
  refine g_ald0 dX2_beginCleaner_15 ?_
  refine g_iconst (v := nI 0) dX2_beginCleaner_16 (by decide +kernel) ?_
  show Go _ _ _ _ _ _ 17 _ _
  refine g_putI fb_2_5 mw_1_55 (by first | assumption | exact lay_item (by omega) | exact lay_drive (by omega) | exact lay_job (by omega) | rfl) (by omega) rfl rfl dX2_beginCleaner_17 ?_
  refine g_ald0 dX2_beginCleaner_20 ?_
  refine g_fconst0 dX2_beginCleaner_21 ?_
  refine g_putF fb_2_6 mw_1_56 (by first | assumption | exact lay_item (by omega) | exact lay_drive (by omega) | exact lay_job (by omega) | rfl) (by omega) dX2_beginCleaner_22 ?_
  exact g_vret rfl dX2_beginCleaner_25 ⟨rfl, rfl⟩
theorem c_isTaken (x : Int32) (ni nj : Nat) (hS : Sh h) (n1 : h.1 2 1 = nI ni) (hi : ni ≤ 18) (n3 : h.1 27 1 = nI nj) (ho : h.1 1 8 = -5) : Ct G mX6_isTakenOrAimedAt [ga G 1, .int x] h 456 456 (rB (∃ i, i < ni ∧ h.1 (4 + i) 1 = x) h) := by
  refine Ct.of rfl (by simp [Value.category, ga]) (Nat.le_of_ble_eq_true rfl) (Nat.le_refl _) ?_
  show Go _ _ _ _ _ _ _ [some (ga G 1), some (.int x), none, none] []
  refine g_ald0 dX6_isTakenOrAimedAt_0 ?_
  refine g_getQ fb_6_1 mw_2_2 (by first | assumption | exact lay_item (by omega) | exact lay_drive (by omega) | exact lay_job (by omega) | rfl) (by omega) (sh_queue hS) dX6_isTakenOrAimedAt_1 ?_
  refine g_ald0 dX6_isTakenOrAimedAt_4 ?_
  refine g_getI_a fb_6_8 mw_2_15 (by first | assumption | exact lay_item (by omega) | exact lay_drive (by omega) | exact lay_job (by omega) | rfl) (by omega) dX6_isTakenOrAimedAt_5 (fun xx5 ee5 => ?_)
  obtain rfl : xx5 = (-5 : Int32) := ee5.symm.trans ho
  refine g_callV1 (c_jobAt_n (h := h) (-5) nj n3 (Or.inl (by decide))) mw_3_74 ok_X5_jobAt ⟨by decide, by decide⟩ (by first | assumption | exact lay_item (by omega) | exact lay_drive (by omega) | exact lay_job (by omega) | rfl) (by omega) rfl (by omega) (by omega) (Nat.le_of_ble_eq_true rfl) dX6_isTakenOrAimedAt_8 (dQ_Kn ?_)
  show Go _ _ _ _ _ _ 11 _ _
  refine g_zst2 (by decide) dX6_isTakenOrAimedAt_11 ?_
  refine g_zld2 dX6_isTakenOrAimedAt_12 ?_
  refine g_ifnullN (tgt := 36) dX6_isTakenOrAimedAt_13 (by decide) ?_
  refine g_iconst (v := nI 0) dX6_isTakenOrAimedAt_36 (by decide +kernel) ?_
  refine g_ist3 (by decide) dX6_isTakenOrAimedAt_37 ?_
  refine g_ild3 dX6_isTakenOrAimedAt_38 ?_
  show Go _ _ _ _ _ _ 39 _ _
  refine g_if_ne_f (tgt := 55) dX6_isTakenOrAimedAt_39 (by decide) rfl ?_
  refine g_ald0 dX6_isTakenOrAimedAt_42 ?_
  refine g_getQ fb_6_0 mw_2_0 (by first | assumption | exact lay_item (by omega) | exact lay_drive (by omega) | exact lay_job (by omega) | rfl) (by omega) (sh_store hS) dX6_isTakenOrAimedAt_43 ?_
  refine g_ild1 dX6_isTakenOrAimedAt_46 ?_
  refine g_callV1 (c_itemWithHome (h := h) x ni hS.1 n1 hi) mw_3_37 ok_X7_itemWithHome ⟨by decide, by decide⟩ (by first | assumption | exact lay_item (by omega) | exact lay_drive (by omega) | exact lay_job (by omega) | rfl) (by omega) rfl (by omega) (by omega) (Nat.le_of_ble_eq_true rfl) dX6_isTakenOrAimedAt_47 (rI_K ?_)
  rintro r h ⟨rfl, hm⟩
  refine g_bipush (v := -5) dX6_isTakenOrAimedAt_50 (by decide +kernel) ?_
  show Go _ _ _ _ _ _ 52 _ _
  refine g_icmp_eq (tgt := 59) dX6_isTakenOrAimedAt_52 (by decide) (fun c_52 => ?_) (fun c_52 => ?_)
  · skip
    refine g_iconst (v := nI 0) dX6_isTakenOrAimedAt_59 (by decide +kernel) ?_
    exact g_zret rfl rfl dX6_isTakenOrAimedAt_60 ⟨Or.inr ⟨rfl, fun z => by obtain ⟨i, hi2, e⟩ := z; exact hm.no c_52 (by omega) i hi2 e⟩, rfl⟩
  · skip
    refine g_iconst (v := nI 1) dX6_isTakenOrAimedAt_55 (by decide +kernel) ?_
    refine g_goto (tgt := 60) dX6_isTakenOrAimedAt_56 (by decide) ?_
    exact g_zret rfl rfl dX6_isTakenOrAimedAt_60 ⟨Or.inl ⟨rfl, by obtain ⟨i, hi2, e, -⟩ := hm.yes c_52; exact ⟨i, hi2, e⟩⟩, rfl⟩
theorem c_addTape_1 (s : Nat) (y : Int32) (hs : ¬ s < 24) (hs9 : s < 1000) : Ct G mX9_addTape [ga G 0, .int (nI s), .int y] h 456 456 (dI (-1) h) := by
  refine Ct.of rfl (by simp [Value.category, ga]) (Nat.le_of_ble_eq_true rfl) (Nat.le_refl _) ?_
  show Go _ _ _ _ _ _ _ [some (ga G 0), some (.int (nI s)), some (.int y), none] []
  refine g_ild1 dX9_addTape_0 ?_
  refine g_callS1 (c_hasSlot (h := h) s hs9) mw_2_159 ok_X7_hasSlot ⟨by decide, by decide⟩ (by omega) (by omega) (Nat.le_of_ble_eq_true rfl) dX9_addTape_1 (dI_K ?_)
  rw [if_neg hs]
  refine g_if_ne_f (tgt := 9) dX9_addTape_4 (by decide) (by decide) ?_
  refine g_iconst (v := -1) dX9_addTape_7 (by decide +kernel) ?_
  exact g_iret rfl dX9_addTape_8 ⟨rfl, rfl⟩
theorem c_addTape_2 (s : Nat) (y : Int32) (hs : s < 24) (hy : ¬ ((nI 0) ≤ y ∧ y ≤ 1065353216)) : Ct G mX9_addTape [ga G 0, .int (nI s), .int y] h 456 456 (dI (-2) h) := by
  refine Ct.of rfl (by simp [Value.category, ga]) (Nat.le_of_ble_eq_true rfl) (Nat.le_refl _) ?_
  show Go _ _ _ _ _ _ _ [some (ga G 0), some (.int (nI s)), some (.int y), none] []
  refine g_ild1 dX9_addTape_0 ?_
  refine g_callS1 (c_hasSlot (h := h) s (by omega)) mw_2_159 ok_X7_hasSlot ⟨by decide, by decide⟩ (by omega) (by omega) (Nat.le_of_ble_eq_true rfl) dX9_addTape_1 (dI_K ?_)
  rw [if_pos hs]
  refine g_if_ne_t (tgt := 9) dX9_addTape_4 (by decide) (by decide) ?_
  refine g_ild2 dX9_addTape_9 ?_
  refine g_iconst (v := nI 0) dX9_addTape_10 (by decide +kernel) ?_
  show Go _ _ _ _ _ _ 11 _ _
  refine g_ldc mw_3_69 dX9_addTape_11 ?_
  refine g_callS3 (c_isFrom (h := h) y (nI 0) 1065353216) mw_2_133 ok_X9_isFrom ⟨by decide, by decide⟩ (by omega) (by omega) (Nat.le_of_ble_eq_true rfl) dX9_addTape_13 (dI_K ?_)
  rw [if_neg hy]
  refine g_if_ne_f (tgt := 22) dX9_addTape_16 (by decide) (by decide) ?_
  refine g_bipush (v := -2) dX9_addTape_19 (by decide +kernel) ?_
  exact g_iret rfl dX9_addTape_21 ⟨rfl, rfl⟩
theorem c_addTape_4 (s ni nj : Nat) (y : Int32) (hs : s < 24) (hy : (nI 0) ≤ y ∧ y ≤ 1065353216) (hS : Sh h) (n1 : h.1 2 1 = nI ni) (hi : ni ≤ 18) (n3 : h.1 27 1 = nI nj) (ho : h.1 1 8 = -5) (hx : ∃ i, i < ni ∧ h.1 (4 + i) 1 = nI s) : Ct G mX9_addTape [ga G 0, .int (nI s), .int y] h 456 456 (dI (-4) h) := by
  refine Ct.of rfl (by simp [Value.category, ga]) (Nat.le_of_ble_eq_true rfl) (Nat.le_refl _) ?_
  show Go _ _ _ _ _ _ _ [some (ga G 0), some (.int (nI s)), some (.int y), none] []
  refine g_ild1 dX9_addTape_0 ?_
  refine g_callS1 (c_hasSlot (h := h) s (by omega)) mw_2_159 ok_X7_hasSlot ⟨by decide, by decide⟩ (by omega) (by omega) (Nat.le_of_ble_eq_true rfl) dX9_addTape_1 (dI_K ?_)
  rw [if_pos hs]
  refine g_if_ne_t (tgt := 9) dX9_addTape_4 (by decide) (by decide) ?_
  refine g_ild2 dX9_addTape_9 ?_
  refine g_iconst (v := nI 0) dX9_addTape_10 (by decide +kernel) ?_
  show Go _ _ _ _ _ _ 11 _ _
  refine g_ldc mw_3_69 dX9_addTape_11 ?_
  refine g_callS3 (c_isFrom (h := h) y (nI 0) 1065353216) mw_2_133 ok_X9_isFrom ⟨by decide, by decide⟩ (by omega) (by omega) (Nat.le_of_ble_eq_true rfl) dX9_addTape_13 (dI_K ?_)
  rw [if_pos hy]
  refine g_if_ne_t (tgt := 22) dX9_addTape_16 (by decide) (by decide) ?_
  refine g_ald0 dX9_addTape_22 ?_
  refine g_getQ fb_9_0 mw_2_95 (by first | assumption | exact lay_item (by omega) | exact lay_drive (by omega) | exact lay_job (by omega) | rfl) (by omega) (sh_now hS) dX9_addTape_23 ?_
  refine g_ild1 dX9_addTape_26 ?_
  show Go _ _ _ _ _ _ 27 _ _
  refine g_callV1 (c_isTaken (h := h) (nI s) ni nj hS n1 hi n3 ho) mw_3_70 ok_X6_isTakenOrAimedAt ⟨by decide, by decide⟩ (by first | assumption | exact lay_item (by omega) | exact lay_drive (by omega) | exact lay_job (by omega) | rfl) (by omega) rfl (by omega) (by omega) (Nat.le_of_ble_eq_true rfl) dX9_addTape_27 (rB_K ?_)
  intro r hr
  obtain rfl : r = 1 := by
    rcases hr with ⟨z, -⟩ | ⟨-, z⟩
    · exact z
    · exact absurd hx z
  refine g_if_eq_f (tgt := 36) dX9_addTape_30 (by decide) (by decide) ?_
  refine g_bipush (v := -4) dX9_addTape_33 (by decide +kernel) ?_
  exact g_iret rfl dX9_addTape_35 ⟨rfl, rfl⟩
theorem c_addCleaner_2 (s : Nat) (y : Int32) (hs : s < 24) (hy : ¬ ((nI 1) ≤ y ∧ y ≤ (nI 50))) : Ct G mX9_addCleaner [ga G 0, .int (nI s), .int y] h 456 456 (dI (-2) h) := by
  refine Ct.of rfl (by simp [Value.category, ga]) (Nat.le_of_ble_eq_true rfl) (Nat.le_refl _) ?_
  show Go _ _ _ _ _ _ _ [some (ga G 0), some (.int (nI s)), some (.int y), none] []
  refine g_ild1 dX9_addCleaner_0 ?_
  refine g_callS1 (c_hasSlot (h := h) s (by omega)) mw_2_159 ok_X7_hasSlot ⟨by decide, by decide⟩ (by omega) (by omega) (Nat.le_of_ble_eq_true rfl) dX9_addCleaner_1 (dI_K ?_)
  rw [if_pos hs]
  refine g_if_ne_t (tgt := 9) dX9_addCleaner_4 (by decide) (by decide) ?_
  refine g_ild2 dX9_addCleaner_9 ?_
  refine g_iconst (v := nI 1) dX9_addCleaner_10 (by decide +kernel) ?_
  show Go _ _ _ _ _ _ 11 _ _
  refine g_bipush (v := nI 50) dX9_addCleaner_11 (by decide +kernel) ?_
  refine g_callS3 (c_isFrom (h := h) y (nI 1) (nI 50)) mw_2_133 ok_X9_isFrom ⟨by decide, by decide⟩ (by omega) (by omega) (Nat.le_of_ble_eq_true rfl) dX9_addCleaner_13 (dI_K ?_)
  rw [if_neg hy]
  refine g_if_ne_f (tgt := 22) dX9_addCleaner_16 (by decide) (by decide) ?_
  refine g_bipush (v := -2) dX9_addCleaner_19 (by decide +kernel) ?_
  exact g_iret rfl dX9_addCleaner_21 ⟨rfl, rfl⟩
theorem c_addCleaner_4 (s ni nj : Nat) (y : Int32) (hs : s < 24) (hy : (nI 1) ≤ y ∧ y ≤ (nI 50)) (hS : Sh h) (n1 : h.1 2 1 = nI ni) (hi : ni ≤ 18) (n3 : h.1 27 1 = nI nj) (ho : h.1 1 8 = -5) (hx : ∃ i, i < ni ∧ h.1 (4 + i) 1 = nI s) : Ct G mX9_addCleaner [ga G 0, .int (nI s), .int y] h 456 456 (dI (-4) h) := by
  refine Ct.of rfl (by simp [Value.category, ga]) (Nat.le_of_ble_eq_true rfl) (Nat.le_refl _) ?_
  show Go _ _ _ _ _ _ _ [some (ga G 0), some (.int (nI s)), some (.int y), none] []
  refine g_ild1 dX9_addCleaner_0 ?_
  refine g_callS1 (c_hasSlot (h := h) s (by omega)) mw_2_159 ok_X7_hasSlot ⟨by decide, by decide⟩ (by omega) (by omega) (Nat.le_of_ble_eq_true rfl) dX9_addCleaner_1 (dI_K ?_)
  rw [if_pos hs]
  refine g_if_ne_t (tgt := 9) dX9_addCleaner_4 (by decide) (by decide) ?_
  refine g_ild2 dX9_addCleaner_9 ?_
  refine g_iconst (v := nI 1) dX9_addCleaner_10 (by decide +kernel) ?_
  show Go _ _ _ _ _ _ 11 _ _
  refine g_bipush (v := nI 50) dX9_addCleaner_11 (by decide +kernel) ?_
  refine g_callS3 (c_isFrom (h := h) y (nI 1) (nI 50)) mw_2_133 ok_X9_isFrom ⟨by decide, by decide⟩ (by omega) (by omega) (Nat.le_of_ble_eq_true rfl) dX9_addCleaner_13 (dI_K ?_)
  rw [if_pos hy]
  refine g_if_ne_t (tgt := 22) dX9_addCleaner_16 (by decide) (by decide) ?_
  refine g_ald0 dX9_addCleaner_22 ?_
  refine g_getQ fb_9_0 mw_2_95 (by first | assumption | exact lay_item (by omega) | exact lay_drive (by omega) | exact lay_job (by omega) | rfl) (by omega) (sh_now hS) dX9_addCleaner_23 ?_
  refine g_ild1 dX9_addCleaner_26 ?_
  show Go _ _ _ _ _ _ 27 _ _
  refine g_callV1 (c_isTaken (h := h) (nI s) ni nj hS n1 hi n3 ho) mw_3_70 ok_X6_isTakenOrAimedAt ⟨by decide, by decide⟩ (by first | assumption | exact lay_item (by omega) | exact lay_drive (by omega) | exact lay_job (by omega) | rfl) (by omega) rfl (by omega) (by omega) (Nat.le_of_ble_eq_true rfl) dX9_addCleaner_27 (rB_K ?_)
  intro r hr
  obtain rfl : r = 1 := by
    rcases hr with ⟨z, -⟩ | ⟨-, z⟩
    · exact z
    · exact absurd hx z
  refine g_if_eq_f (tgt := 36) dX9_addCleaner_30 (by decide) (by decide) ?_
  refine g_bipush (v := -4) dX9_addCleaner_33 (by decide +kernel) ?_
  exact g_iret rfl dX9_addCleaner_35 ⟨rfl, rfl⟩
theorem c_addTape (M : Mo) (ni nd nj s f : Nat) (hs : s < 24) (hf : f < 9) (hR : Rb h M ni nd nj) (hi : ni < 8) (hd : nd ≤ 4) (hj : nj ≤ 10) (hC : Icl M ni) (hz : M.1 1 (6 * ni + 2) = 0 ∧ M.1 1 (6 * ni + 5) = 0) (hid : Idl M nd nj) (hx : ∀ i, i < ni → M.1 1 (6 * i + 1) ≠ nI s) : Ct G mX9_addTape [ga G 0, .int (nI s), .int (bt f)] h 456 456 (rI (fun r h' => r = nI ni ∧ Rb h' (mItm M ni (nI 0) (nI s) (nI 0) (nI f)) (ni + 1) nd nj ∧ KL h h')) := by
  obtain ⟨⟨-, -, -, s8, -⟩, ⟨n1, -, n3, -⟩, hIt, -, -, -, hH, hS⟩ := id hR
  obtain ⟨b1, b2, b3⟩ := bt_9 ⟨f, hf⟩
  refine Ct.of rfl (by simp [Value.category, ga]) (Nat.le_of_ble_eq_true rfl) (Nat.le_refl _) ?_
  show Go _ _ _ _ _ _ _ [some (ga G 0), some (.int (nI s)), some (.int (bt f)), none] []
  refine g_ild1 dX9_addTape_0 ?_
  refine g_callS1 (c_hasSlot (h := h) s (by omega)) mw_2_159 ok_X7_hasSlot ⟨by decide, by decide⟩ (by omega) (by omega) (Nat.le_of_ble_eq_true rfl) dX9_addTape_1 (dI_K ?_)
  rw [if_pos hs]
  refine g_if_ne_t (tgt := 9) dX9_addTape_4 (by decide) (by decide) ?_
  refine g_ild2 dX9_addTape_9 ?_
  refine g_iconst (v := nI 0) dX9_addTape_10 (by decide +kernel) ?_
  show Go _ _ _ _ _ _ 11 _ _
  refine g_ldc mw_3_69 dX9_addTape_11 ?_
  refine g_callS3 (c_isFrom (h := h) (bt f) (nI 0) 1065353216) mw_2_133 ok_X9_isFrom ⟨by decide, by decide⟩ (by omega) (by omega) (Nat.le_of_ble_eq_true rfl) dX9_addTape_13 (dI_K ?_)
  rw [if_pos ⟨b1, b2⟩]
  refine g_if_ne_t (tgt := 22) dX9_addTape_16 (by decide) (by decide) ?_
  refine g_ald0 dX9_addTape_22 ?_
  refine g_getQ fb_9_0 mw_2_95 (by first | assumption | exact lay_item (by omega) | exact lay_drive (by omega) | exact lay_job (by omega) | rfl) (by omega) (sh_now hS) dX9_addTape_23 ?_
  refine g_ild1 dX9_addTape_26 ?_
  show Go _ _ _ _ _ _ 27 _ _
  refine g_callV1 (c_isTaken (h := h) (nI s) ni nj hS n1 (by omega) n3 (s8.trans hid.1)) mw_3_70 ok_X6_isTakenOrAimedAt ⟨by decide, by decide⟩ (by first | assumption | exact lay_item (by omega) | exact lay_drive (by omega) | exact lay_job (by omega) | rfl) (by omega) rfl (by omega) (by omega) (Nat.le_of_ble_eq_true rfl) dX9_addTape_27 (rB_K ?_)
  intro r hr
  obtain rfl : r = 0 := by
    rcases hr with ⟨-, i, hi2, e⟩ | ⟨z, -⟩
    · exact absurd ((hIt i hi2).2.1.symm.trans e) (hx i hi2)
    · exact z
  refine g_if_eq_t (tgt := 36) dX9_addTape_30 (by decide) rfl ?_
  refine g_ald0 dX9_addTape_36 ?_
  refine g_getQ fb_9_0 mw_2_95 (by first | assumption | exact lay_item (by omega) | exact lay_drive (by omega) | exact lay_job (by omega) | rfl) (by omega) (sh_now hS) dX9_addTape_37 ?_
  refine g_getQ fb_6_0 mw_2_1 (by first | assumption | exact lay_item (by omega) | exact lay_drive (by omega) | exact lay_job (by omega) | rfl) (by omega) (sh_store hS) dX9_addTape_40 ?_
  refine g_callV0 (c_freeItem (h := h) ni hS.1 n1 (by omega)) mw_3_75 ok_X7_freeItem ⟨by decide, by decide⟩ (by first | assumption | exact lay_item (by omega) | exact lay_drive (by omega) | exact lay_job (by omega) | rfl) (by omega) rfl (by omega) (by omega) (Nat.le_of_ble_eq_true rfl) dX9_addTape_43 (dQ_K ?_)
  show Go _ _ _ _ _ _ 46 _ _
  refine g_ast3 (by decide) dX9_addTape_46 ?_
  refine g_ald3 dX9_addTape_47 ?_
  refine g_ifnonnull (tgt := 54) dX9_addTape_48 (by decide) ?_
  refine g_ald0 dX9_addTape_54 ?_
  refine g_getQ fb_9_1 mw_2_96 (by first | assumption | exact lay_item (by omega) | exact lay_drive (by omega) | exact lay_job (by omega) | rfl) (by omega) (sh_hist hS) dX9_addTape_55 ?_
  refine g_ald0 dX9_addTape_58 ?_
  show Go _ _ _ _ _ _ 59 _ _
  refine g_getQ fb_9_0 mw_2_95 (by first | assumption | exact lay_item (by omega) | exact lay_drive (by omega) | exact lay_job (by omega) | rfl) (by omega) (sh_now hS) dX9_addTape_59 ?_
  refine g_callV1 (c_record (h := h) hS (hR.cn (by omega) hd hj hC) hH) mw_3_79 ok_X1_record ⟨by decide, by decide⟩ (by first | assumption | exact lay_item (by omega) | exact lay_drive (by omega) | exact lay_job (by omega) | rfl) (by omega) rfl (by omega) (by omega) (Nat.le_of_ble_eq_true rfl) dX9_addTape_62 (rV_K ?_)
  intro h1 k1
  have hS1 := k1.2.1
  have R1 := hR.kp (by omega) hd hj k1
  refine g_ald3 dX9_addTape_65 ?_
  refine g_ild1 dX9_addTape_66 ?_
  refine g_ild2 dX9_addTape_67 ?_
  refine g_ild2 dX9_addTape_68 ?_
  show Go _ _ _ _ _ _ 69 _ _
  refine g_callS1 (c_floatOf (h := h1) f (by omega)) mw_3_118 ok_X9_floatOf ⟨by decide, by decide⟩ (by omega) (by omega) (Nat.le_of_ble_eq_true rfl) dX9_addTape_69 (dF_K ?_)
  refine g_callV3 (c_beginTape (h := h1) (4 + ni) (nI s) (bt f) (fval f) (lay_item (by omega)) (by omega)) mw_3_124 ok_X2_beginTape ⟨by decide, by decide⟩ (by first | assumption | exact lay_item (by omega) | exact lay_drive (by omega) | exact lay_job (by omega) | rfl) (by omega) rfl (by omega) (by omega) (Nat.le_of_ble_eq_true rfl) dX9_addTape_72 (dV_K ?_)
  refine g_ald0 dX9_addTape_75 ?_
  refine g_getQ fb_9_0 mw_2_95 (by first | assumption | exact lay_item (by omega) | exact lay_drive (by omega) | exact lay_job (by omega) | rfl) (by omega) (sh_now hS1) dX9_addTape_76 ?_
  refine g_getQ fb_6_0 mw_2_1 (by first | assumption | exact lay_item (by omega) | exact lay_drive (by omega) | exact lay_job (by omega) | rfl) (by omega) (sh_store hS1) dX9_addTape_79 ?_
  refine g_dup dX9_addTape_82 rfl ?_
  show Go _ _ _ _ _ _ 83 _ _
  refine g_getI_a fb_7_1 mw_1_114 (by first | assumption | exact lay_item (by omega) | exact lay_drive (by omega) | exact lay_job (by omega) | rfl) (by omega) dX9_addTape_83 (fun xx83 ee83 => ?_)
  obtain rfl : xx83 = (nI ni) := ee83.symm.trans (by simp (disch := omega) only [hItm, hBeg, wI_ne, wF_i]; exact R1.2.1.1)
  refine g_dup_x1 dX9_addTape_86 rfl rfl ?_
  refine g_iconst (v := nI 1) dX9_addTape_87 (by decide +kernel) ?_
  first | refine g_iadd_n dX9_addTape_88 ?_ | refine g_iadd dX9_addTape_88 ?_
  refine g_putI fb_7_1 mw_1_114 (by first | assumption | exact lay_item (by omega) | exact lay_drive (by omega) | exact lay_job (by omega) | rfl) (by omega) rfl rfl dX9_addTape_89 ?_
  exact g_iret rfl dX9_addTape_92 ⟨_, rfl, rfl, rb_item R1 hi hd hj (nI 0) (nI s) (nI 0) (bt f) (fval f) f hf b3.symm rfl hz hid.2.1.2, KL.wI (by omega) (by unfold hItm hBeg; repeat (first | exact KL.kp k1 | refine KL.wI (by omega) ?_ | refine KL.wF ?_))⟩
theorem c_addCleaner (M : Mo) (ni nd nj s u : Nat) (hs : s < 24) (hu : nI 1 ≤ nI u ∧ nI u ≤ nI 50) (hR : Rb h M ni nd nj) (hi : ni < 8) (hd : nd ≤ 4) (hj : nj ≤ 10) (hC : Icl M ni) (hz : M.1 1 (6 * ni + 2) = 0 ∧ M.1 1 (6 * ni + 5) = 0) (hid : Idl M nd nj) (hx : ∀ i, i < ni → M.1 1 (6 * i + 1) ≠ nI s) : Ct G mX9_addCleaner [ga G 0, .int (nI s), .int (nI u)] h 456 456 (rI (fun r h' => r = nI ni ∧ Rb h' (mItm M ni (nI 1) (nI s) (nI u) (nI 0)) (ni + 1) nd nj ∧ KL h h')) := by
  obtain ⟨⟨-, -, -, s8, -⟩, ⟨n1, -, n3, -⟩, hIt, -, -, -, hH, hS⟩ := id hR
  refine Ct.of rfl (by simp [Value.category, ga]) (Nat.le_of_ble_eq_true rfl) (Nat.le_refl _) ?_
  show Go _ _ _ _ _ _ _ [some (ga G 0), some (.int (nI s)), some (.int (nI u)), none] []
  refine g_ild1 dX9_addCleaner_0 ?_
  refine g_callS1 (c_hasSlot (h := h) s (by omega)) mw_2_159 ok_X7_hasSlot ⟨by decide, by decide⟩ (by omega) (by omega) (Nat.le_of_ble_eq_true rfl) dX9_addCleaner_1 (dI_K ?_)
  rw [if_pos hs]
  refine g_if_ne_t (tgt := 9) dX9_addCleaner_4 (by decide) (by decide) ?_
  refine g_ild2 dX9_addCleaner_9 ?_
  refine g_iconst (v := nI 1) dX9_addCleaner_10 (by decide +kernel) ?_
  show Go _ _ _ _ _ _ 11 _ _
  refine g_bipush (v := nI 50) dX9_addCleaner_11 (by decide +kernel) ?_
  refine g_callS3 (c_isFrom (h := h) (nI u) (nI 1) (nI 50)) mw_2_133 ok_X9_isFrom ⟨by decide, by decide⟩ (by omega) (by omega) (Nat.le_of_ble_eq_true rfl) dX9_addCleaner_13 (dI_K ?_)
  rw [if_pos hu]
  refine g_if_ne_t (tgt := 22) dX9_addCleaner_16 (by decide) (by decide) ?_
  refine g_ald0 dX9_addCleaner_22 ?_
  refine g_getQ fb_9_0 mw_2_95 (by first | assumption | exact lay_item (by omega) | exact lay_drive (by omega) | exact lay_job (by omega) | rfl) (by omega) (sh_now hS) dX9_addCleaner_23 ?_
  refine g_ild1 dX9_addCleaner_26 ?_
  show Go _ _ _ _ _ _ 27 _ _
  refine g_callV1 (c_isTaken (h := h) (nI s) ni nj hS n1 (by omega) n3 (s8.trans hid.1)) mw_3_70 ok_X6_isTakenOrAimedAt ⟨by decide, by decide⟩ (by first | assumption | exact lay_item (by omega) | exact lay_drive (by omega) | exact lay_job (by omega) | rfl) (by omega) rfl (by omega) (by omega) (Nat.le_of_ble_eq_true rfl) dX9_addCleaner_27 (rB_K ?_)
  intro r hr
  obtain rfl : r = 0 := by
    rcases hr with ⟨-, i, hi2, e⟩ | ⟨z, -⟩
    · exact absurd ((hIt i hi2).2.1.symm.trans e) (hx i hi2)
    · exact z
  refine g_if_eq_t (tgt := 36) dX9_addCleaner_30 (by decide) rfl ?_
  refine g_ald0 dX9_addCleaner_36 ?_
  refine g_getQ fb_9_0 mw_2_95 (by first | assumption | exact lay_item (by omega) | exact lay_drive (by omega) | exact lay_job (by omega) | rfl) (by omega) (sh_now hS) dX9_addCleaner_37 ?_
  refine g_getQ fb_6_0 mw_2_1 (by first | assumption | exact lay_item (by omega) | exact lay_drive (by omega) | exact lay_job (by omega) | rfl) (by omega) (sh_store hS) dX9_addCleaner_40 ?_
  refine g_callV0 (c_freeItem (h := h) ni hS.1 n1 (by omega)) mw_3_75 ok_X7_freeItem ⟨by decide, by decide⟩ (by first | assumption | exact lay_item (by omega) | exact lay_drive (by omega) | exact lay_job (by omega) | rfl) (by omega) rfl (by omega) (by omega) (Nat.le_of_ble_eq_true rfl) dX9_addCleaner_43 (dQ_K ?_)
  show Go _ _ _ _ _ _ 46 _ _
  refine g_ast3 (by decide) dX9_addCleaner_46 ?_
  refine g_ald3 dX9_addCleaner_47 ?_
  refine g_ifnonnull (tgt := 54) dX9_addCleaner_48 (by decide) ?_
  refine g_ald0 dX9_addCleaner_54 ?_
  refine g_getQ fb_9_1 mw_2_96 (by first | assumption | exact lay_item (by omega) | exact lay_drive (by omega) | exact lay_job (by omega) | rfl) (by omega) (sh_hist hS) dX9_addCleaner_55 ?_
  refine g_ald0 dX9_addCleaner_58 ?_
  show Go _ _ _ _ _ _ 59 _ _
  refine g_getQ fb_9_0 mw_2_95 (by first | assumption | exact lay_item (by omega) | exact lay_drive (by omega) | exact lay_job (by omega) | rfl) (by omega) (sh_now hS) dX9_addCleaner_59 ?_
  refine g_callV1 (c_record (h := h) hS (hR.cn (by omega) hd hj hC) hH) mw_3_79 ok_X1_record ⟨by decide, by decide⟩ (by first | assumption | exact lay_item (by omega) | exact lay_drive (by omega) | exact lay_job (by omega) | rfl) (by omega) rfl (by omega) (by omega) (Nat.le_of_ble_eq_true rfl) dX9_addCleaner_62 (rV_K ?_)
  intro h1 k1
  have hS1 := k1.2.1
  have R1 := hR.kp (by omega) hd hj k1
  refine g_ald3 dX9_addCleaner_65 ?_
  refine g_ild1 dX9_addCleaner_66 ?_
  refine g_ild2 dX9_addCleaner_67 ?_
  refine g_callV2 (c_beginCleaner (h := h1) (4 + ni) (nI s) (nI u) (lay_item (by omega)) (by omega)) mw_3_137 ok_X2_beginCleaner ⟨by decide, by decide⟩ (by first | assumption | exact lay_item (by omega) | exact lay_drive (by omega) | exact lay_job (by omega) | rfl) (by omega) rfl (by omega) (by omega) (Nat.le_of_ble_eq_true rfl) dX9_addCleaner_68 (dV_K ?_)
  show Go _ _ _ _ _ _ 71 _ _
  refine g_ald0 dX9_addCleaner_71 ?_
  refine g_getQ fb_9_0 mw_2_95 (by first | assumption | exact lay_item (by omega) | exact lay_drive (by omega) | exact lay_job (by omega) | rfl) (by omega) (sh_now hS1) dX9_addCleaner_72 ?_
  refine g_getQ fb_6_0 mw_2_1 (by first | assumption | exact lay_item (by omega) | exact lay_drive (by omega) | exact lay_job (by omega) | rfl) (by omega) (sh_store hS1) dX9_addCleaner_75 ?_
  refine g_dup dX9_addCleaner_78 rfl ?_
  refine g_getI_a fb_7_1 mw_1_114 (by first | assumption | exact lay_item (by omega) | exact lay_drive (by omega) | exact lay_job (by omega) | rfl) (by omega) dX9_addCleaner_79 (fun xx79 ee79 => ?_)
  obtain rfl : xx79 = (nI ni) := ee79.symm.trans (by simp (disch := omega) only [hItm, hBeg, wI_ne, wF_i]; exact R1.2.1.1)
  refine g_dup_x1 dX9_addCleaner_82 rfl rfl ?_
  show Go _ _ _ _ _ _ 83 _ _
  refine g_iconst (v := nI 1) dX9_addCleaner_83 (by decide +kernel) ?_
  first | refine g_iadd_n dX9_addCleaner_84 ?_ | refine g_iadd dX9_addCleaner_84 ?_
  refine g_putI fb_7_1 mw_1_114 (by first | assumption | exact lay_item (by omega) | exact lay_drive (by omega) | exact lay_job (by omega) | rfl) (by omega) rfl rfl dX9_addCleaner_85 ?_
  exact g_iret rfl dX9_addCleaner_88 ⟨_, rfl, rfl, rb_item R1 hi hd hj (nI 1) (nI s) (nI u) (nI 0) FP.fconst0 0 (by omega) rfl fval_0.symm hz hid.2.1.2, KL.wI (by omega) (by unfold hItm hBeg; repeat (first | exact KL.kp k1 | refine KL.wI (by omega) ?_ | refine KL.wF ?_))⟩
end P51
