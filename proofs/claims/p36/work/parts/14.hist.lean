/-! ===== THE HISTORY KEEPS A STATE ===== -/
/-- what stays behind: all but the history's own cells -/
def K0 (h h' : Hp) : Prop := (∀ a j, (a < 64 ∨ 444 ≤ a) → h'.1 a j = h.1 a j ∧ h'.2.1 a j = h.2.1 a j) ∧ h'.2.2.1 = h.2.2.1 ∧ ∀ a j, a ≠ 65 → h'.2.2.2 a j = h.2.2.2 a j
/-- the history's count is in its bounds -/
def Hk (h : Hp) : Prop := ∃ k, k ≤ 4 ∧ h.1 64 1 = nI k
def Kp (h h' : Hp) : Prop := K0 h h' ∧ Sh h' ∧ Hk h'
theorem K0.rf (h : Hp) : K0 h h := ⟨fun _ _ _ => ⟨rfl, rfl⟩, rfl, fun _ _ _ => rfl⟩
theorem K0.tr {h h1 h2 : Hp} (a : K0 h h1) (b : K0 h1 h2) : K0 h h2 := ⟨fun x j hx => ⟨(b.1 x j hx).1.trans (a.1 x j hx).1, (b.1 x j hx).2.trans (a.1 x j hx).2⟩, b.2.1.trans a.2.1, fun x j hx => (b.2.2 x j hx).trans (a.2.2 x j hx)⟩
theorem St_of {h h' : Hp} {b : Nat} (hb : b = 1 ∨ 66 ≤ b) (e : ∀ a j, a ≠ 65 → h'.2.2.2 a j = h.2.2.2 a j) (s : St h b) : St h' b := by
  unfold St at s ⊢
  rw [e b 0 (by omega), e b 1 (by omega), e b 2 (by omega), e (b + 1) 0 (by omega), e (b + 1) 2 (by omega), e (b + 26) 0 (by omega), e (b + 58) 0 (by omega), e (b + 58) 1 (by omega), e (b + 58) 2 (by omega), e (b + 58) 3 (by omega)]
  obtain ⟨a1, a2, a3, a4, a5, a6, a7, a8, a9, a10⟩ := s
  exact ⟨a1, a2, a3, a4, a5, fun i hi => (e _ _ (by omega)).trans (a6 i hi), fun i hi => (e _ _ (by omega)).trans (a7 i hi), a8, fun i hi => (e _ _ (by omega)).trans (a9 i hi), a10⟩
theorem Sh_of {h h' : Hp} (e : ∀ a j, a ≠ 65 → h'.2.2.2 a j = h.2.2.2 a j) (hs : Hs h') (s : Sh h) : Sh h' :=
  ⟨St_of (Or.inl rfl) e s.1, (e _ _ (by omega)).trans s.2.1, (e _ _ (by omega)).trans s.2.2.1, (e _ _ (by omega)).trans s.2.2.2.1, hs, fun j hj => St_of (Or.inr (by omega)) e (s.2.2.2.2.2 j hj)⟩
theorem K0.Cn {h h' : Hp} (k : K0 h h') (n : Cn h) : Cn h' := by
  obtain ⟨⟨ni, a1, a2, a3⟩, ⟨nd, b1, b2⟩, nj, c1, c2⟩ := n
  exact ⟨⟨ni, a1, ((k.1 2 1 (by omega)).1).trans a2, fun i hi => by rw [(k.1 (4 + i) 0 (by omega)).1]; exact a3 i hi⟩, ⟨nd, b1, ((k.1 2 3 (by omega)).1).trans b2⟩, nj, c1, ((k.1 27 1 (by omega)).1).trans c2⟩
section P14
variable {G : Gl} {h : Hp}
theorem c_record (hS : Sh h) (hC : Cn h) (hH : Hk h) : Ct G mX1_record [ga G 64, ga G 1] h 456 456 (rV (Kp h)) := by
  obtain ⟨k, hk, hh⟩ := hH
  refine Ct.of rfl (by simp [Value.category, ga]) (Nat.le_of_ble_eq_true rfl) (Nat.le_refl _) ?_
  show Go _ _ _ _ _ _ _ [some (ga G 64), some (ga G 1)] []
  have tail : ∀ h1 k1, K0 h h1 → Sh h1 → h1.1 64 1 = nI k1 → k1 < 4 → Go G mX1_record 456 (rV (Kp h)) h1 456 16 [some (ga G 64), some (ga G 1)] [] := by
    intro h1 k1 z s1 e1 hk1
    obtain ⟨j, hj, hj2⟩ := s1.2.2.2.2.1 k1 hk1
    have hb : Bs (66 + 63 * j) := ⟨j, hj, rfl⟩
    have hlt := hb.lt
    have hb0 := lb0 hb
    refine g_ald0 dX1_record_16 ?_
    refine g_getQ fb_1_0 mw_2_57 (by first | rfl | assumption | (exact lay_item (by omega)) | (exact lay_drive (by omega)) | (exact lay_job (by omega))) (by omega) (sh_states s1) dX1_record_17 ?_
    refine g_ald0 dX1_record_20 ?_
    refine g_getI_a fb_1_1 mw_2_58 (by first | rfl | assumption | (exact lay_item (by omega)) | (exact lay_drive (by omega)) | (exact lay_job (by omega))) (by omega) dX1_record_21 (fun xx21 ee21 => ?_)
    obtain rfl : xx21 = (nI k1) := ee21.symm.trans e1
    refine g_qald6 (by first | rfl | assumption | (exact lay_item (by omega)) | (exact lay_drive (by omega)) | (exact lay_job (by omega))) (by omega) rfl (by omega) hj2 dX1_record_24 ?_
    show Go _ _ _ _ _ _ 25 _ _
    refine g_ald1 dX1_record_25 ?_
    refine g_callV1 (c_stcopy _ hb s1.1 (s1.2.2.2.2.2 j hj) (z.Cn hC)) mw_3_87 ok_X6_copyFrom ⟨by decide, by decide⟩ (by first | rfl | assumption | (exact lay_item (by omega)) | (exact lay_drive (by omega)) | (exact lay_job (by omega))) (by omega) rfl (by omega) (by omega) (Nat.le_of_ble_eq_true rfl) dX1_record_26 (rV_K ?_)
    intro h2 k2
    refine g_ald0 dX1_record_29 ?_
    refine g_dup dX1_record_30 rfl ?_
    refine g_getI_a fb_1_1 mw_2_58 (by first | rfl | assumption | (exact lay_item (by omega)) | (exact lay_drive (by omega)) | (exact lay_job (by omega))) (by omega) dX1_record_31 (fun xx31 ee31 => ?_)
    obtain rfl : xx31 = (nI k1) := ee31.symm.trans ((k2.1 64 1 (by omega)).1.trans e1)
    refine g_iconst (v := nI 1) dX1_record_34 (by decide +kernel) ?_
    show Go _ _ _ _ _ _ 35 _ _
    refine g_iadd_v dX1_record_35 (nI_1 k1) ?_
    refine g_putI fb_1_1 mw_2_58 (by first | rfl | assumption | (exact lay_item (by omega)) | (exact lay_drive (by omega)) | (exact lay_job (by omega))) (by omega) rfl rfl dX1_record_36 ?_
    refine g_vret rfl dX1_record_39 ⟨rfl, z.tr ⟨fun a i ha => ⟨(wI_ne (by omega)).trans (k2.1 a i (by omega)).1, (k2.1 a i (by omega)).2⟩, congrArg (fun x => x.1) k2.2, fun a i _ => congrFun (congrFun (congrArg (fun x => x.2) k2.2) a) i⟩, Sh_of (h := h1) (fun a i _ => congrFun (congrFun (congrArg (fun x => x.2) k2.2) a) i) (fun i hi => by obtain ⟨q, q1, q2⟩ := s1.2.2.2.2.1 i hi; exact ⟨q, q1, ck_q (h := h1) (h1 := h2) k2 q2⟩) s1, k1 + 1, by omega, wI_at⟩
  rcases Nat.lt_or_ge k 4 with hk4 | hk4
  · skip
    refine g_ald0 dX1_record_0 ?_
    refine g_getI_a fb_1_1 mw_2_58 (by first | rfl | assumption | (exact lay_item (by omega)) | (exact lay_drive (by omega)) | (exact lay_job (by omega))) (by omega) dX1_record_1 (fun xx1 ee1 => ?_)
    obtain rfl : xx1 = (nI k) := ee1.symm.trans hh
    refine g_ald0 dX1_record_4 ?_
    refine g_getQ fb_1_0 mw_2_57 (by first | rfl | assumption | (exact lay_item (by omega)) | (exact lay_drive (by omega)) | (exact lay_job (by omega))) (by omega) (sh_states hS) dX1_record_5 ?_
    refine g_alen (by first | rfl | assumption | (exact lay_item (by omega)) | (exact lay_drive (by omega)) | (exact lay_job (by omega))) (by omega) (by decide) rfl dX1_record_8 ?_
    show Go _ _ _ _ _ _ 9 _ _
    refine g_icmp_lt_t (tgt := 16) dX1_record_9 (by decide) (nI_lt (by omega) (by omega)) ?_
    exact tail h k (K0.rf h) hS hh hk4
  · obtain rfl : k = 4 := by omega
    refine g_ald0 dX1_record_0 ?_
    refine g_getI_a fb_1_1 mw_2_58 (by first | rfl | assumption | (exact lay_item (by omega)) | (exact lay_drive (by omega)) | (exact lay_job (by omega))) (by omega) dX1_record_1 (fun xx1 ee1 => ?_)
    obtain rfl : xx1 = (nI 4) := ee1.symm.trans hh
    refine g_ald0 dX1_record_4 ?_
    refine g_getQ fb_1_0 mw_2_57 (by first | rfl | assumption | (exact lay_item (by omega)) | (exact lay_drive (by omega)) | (exact lay_job (by omega))) (by omega) (sh_states hS) dX1_record_5 ?_
    refine g_alen (by first | rfl | assumption | (exact lay_item (by omega)) | (exact lay_drive (by omega)) | (exact lay_job (by omega))) (by omega) (by decide) rfl dX1_record_8 ?_
    show Go _ _ _ _ _ _ 9 _ _
    refine g_icmp_lt_f (tgt := 16) dX1_record_9 (by decide) (by decide) ?_
    refine g_ald0 dX1_record_12 ?_
    refine g_callV0 (c_drop (sh_states hS) hS.2.2.2.2.1) mw_3_83 ok_X1_dropOldest ⟨by decide, by decide⟩ (by first | rfl | assumption | (exact lay_item (by omega)) | (exact lay_drive (by omega)) | (exact lay_job (by omega))) (by omega) rfl (by omega) (by omega) (Nat.le_of_ble_eq_true rfl) dX1_record_13 (rV_K ?_)
    rintro h1 ⟨a1, a2, a3, a4, a5, a6⟩
    exact tail h1 3 ⟨fun a j ha => ⟨a1 a j (by omega), congrFun (congrFun a3 a) j⟩, a4, a5⟩ (Sh_of a5 a6 hS) a2 (by omega)
end P14
