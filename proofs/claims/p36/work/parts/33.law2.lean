/-! ===== THE LAW'S CHOICES: from the last down, the least, of equals the lower ===== -/
def MnF (ok : Nat → Prop) (key : Nat → Nat) (lo n : Nat) (r : Int32) : Prop := (r = -5 ∧ ∀ i, lo ≤ i → i < n → ¬ ok i) ∨ ∃ i, lo ≤ i ∧ i < n ∧ r = nI i ∧ ok i ∧ (∀ j, lo ≤ j → j < n → ok j → key i ≤ key j) ∧ ∀ j, lo ≤ j → j < i → ok j → key i < key j
theorem MnF.zero {ok : Nat → Prop} {key : Nat → Nat} {n : Nat} {r : Int32} (h : MnF ok key 0 n r) : IsMin ok key n r := by
  rcases h with ⟨h1, h2⟩ | ⟨i, -, h2, h3, h4, h5, h6⟩
  · exact Or.inl ⟨h1, fun i hi => h2 i (Nat.zero_le _) hi⟩
  · exact Or.inr ⟨i, h2, h3, h4, fun j hj => h5 j (Nat.zero_le _) hj, fun j hj => h6 j (Nat.zero_le _) hj⟩
theorem MnF.top (ok : Nat → Prop) (key : Nat → Nat) (n : Nat) : MnF ok key n n (-5) := Or.inl ⟨rfl, fun i h1 h2 => by omega⟩
theorem MnF.skip {ok : Nat → Prop} {key : Nat → Nat} {m n : Nat} {r : Int32} (h : MnF ok key (m + 1) n r) (hn : ¬ ok m) : MnF ok key m n r := by
  rcases h with ⟨h1, h2⟩ | ⟨i, h1, h2, h3, h4, h5, h6⟩
  · refine Or.inl ⟨h1, fun i a b => ?_⟩
    rcases Nat.lt_or_ge m i with q | q
    · exact h2 i q b
    · rw [show i = m by omega]; exact hn
  · refine Or.inr ⟨i, by omega, h2, h3, h4, fun j a b c => ?_, fun j a b c => ?_⟩
    · rcases Nat.lt_or_ge m j with q | q
      · exact h5 j q b c
      · rw [show j = m by omega] at c; exact absurd c hn
    · rcases Nat.lt_or_ge m j with q | q
      · exact h6 j q b c
      · rw [show j = m by omega] at c; exact absurd c hn
theorem MnF.keep {ok : Nat → Prop} {key : Nat → Nat} {m n b : Nat} (hn : n < 1000) (h : MnF ok key (m + 1) n (nI b)) (hb : b < n) (hk : key b < key m) : MnF ok key m n (nI b) := by
  rcases h with ⟨h1, h2⟩ | ⟨i, h1, h2, h3, h4, h5, h6⟩
  · exact absurd h1 (nI_n5 (by omega))
  · obtain rfl : b = i := (nI_eq (by omega) (by omega)).mp h3
    refine Or.inr ⟨b, by omega, h2, rfl, h4, fun j a c d => ?_, fun j a c d => ?_⟩
    · rcases Nat.lt_or_ge m j with q | q
      · exact h5 j q c d
      · rw [show j = m by omega]; omega
    · rcases Nat.lt_or_ge m j with q | q
      · exact h6 j q c d
      · rw [show j = m by omega]; exact hk
theorem MnF.take {ok : Nat → Prop} {key : Nat → Nat} {m n : Nat} {r : Int32} (hm : m < n) (hn : n < 1000) (h : MnF ok key (m + 1) n r) (ho : ok m) (hk : r = -5 ∨ ∃ b, r = nI b ∧ b < n ∧ key m ≤ key b) : MnF ok key m n (nI m) := by
  refine Or.inr ⟨m, Nat.le_refl _, hm, rfl, ho, fun j a c d => ?_, fun j a c d => by omega⟩
  rcases Nat.lt_or_ge m j with q | q
  · rcases h with ⟨h1, h2⟩ | ⟨i, h1, h2, h3, h4, h5, h6⟩
    · exact absurd d (h2 j q c)
    · rcases hk with hk | ⟨b, b1, b2, b3⟩
      · exact absurd (h3.symm.trans hk) (nI_n5 (by omega))
      · obtain rfl : b = i := (nI_eq (by omega) (by omega)).mp (b1.symm.trans h3)
        have := h5 j q c d
        omega
  · rw [show j = m by omega]; exact Nat.le_refl _
def pd : Nat → Int32
  | 0 => -1
  | m + 1 => nI m
theorem pd_0 : ∀ m, nI m - 1 = pd m
  | 0 => by decide
  | m + 1 => nI_sub (a := m + 1) (b := 1) (by omega)
theorem pd_1 (m : Nat) : nI m + -1 = pd m := by rw [← pd_0, Int32.sub_eq_add_neg]
section P33
variable {G : Gl} {h : Hp}
theorem l_drive (M : Mo) (ni nd nj : Nat) (hL : Lw h M) (hz : Iz M ni nd nj) (hf : Ifl M nd) : Ct G mL_drive [ga G 449, ga G 452] h 456 456 (rI (fun r h' => h' = h ∧ IsMin (fun k => ¬ dst M k) (fun k => (M.2 (2 * k)).toNat) nd r)) := by
  obtain ⟨-, -, z1, z2, -⟩ := hz
  refine Ct.of rfl (by simp [Value.category, ga]) (Nat.le_of_ble_eq_true rfl) (Nat.le_refl _) ?_
  show Go _ _ _ _ _ _ _ [some (ga G 449), some (ga G 452), none, none] []
  have loop : ∀ m r, m ≤ nd → MnF (fun k => ¬ dst M k) (fun k => (M.2 (2 * k)).toNat) m nd r → Go G mL_drive 456 (rI (fun r h' => h' = h ∧ IsMin (fun k => ¬ dst M k) (fun k => (M.2 (2 * k)).toNat) nd r)) h 456 10 [some (ga G 449), some (ga G 452), some (.int r), some (.int (pd m))] [] := by
    intro m
    induction m with
    | zero =>
      intro r hm hq
      refine g_ild3 dL_drive_10 ?_
      refine g_if_lt_t (tgt := 52) dL_drive_11 (by decide) (by decide) ?_
      refine g_ild2 dL_drive_52 ?_
      exact g_iret rfl dL_drive_53 ⟨r, rfl, rfl, hq.zero⟩
    | succ m ih =>
      intro r hm hq
      obtain ⟨g1, g2⟩ := hf.1 m (by omega)
      show Go _ _ _ _ _ _ _ [some (ga G 449), some (ga G 452), some (.int r), some (.int (nI m))] []
      rcases id hq with ⟨rfl, -⟩ | ⟨b, b0, b1, rfl, -⟩
      · skip
        refine g_ild3 dL_drive_10 ?_
        refine g_if_lt_f (tgt := 52) dL_drive_11 (by decide) (Int32.not_lt.mpr (nI_pos' (by omega))) ?_
        refine g_ald1 dL_drive_14 ?_
        refine g_ild3 dL_drive_15 ?_
        refine g_callS2 (l_isDusty (h := h) M m hL (by omega) g1 g2) mw_2_185 ok_L_isDusty ⟨by decide, by decide⟩ (by omega) (by omega) (Nat.le_of_ble_eq_true rfl) dL_drive_16 (rB_K ?_)
        intro rd hd
        show Go _ _ _ _ _ _ 19 _ _
        refine g_if_ne (tgt := 44) dL_drive_19 (by decide) (fun c_19 => ?_) (fun c_19 => ?_)
        · skip
          have hs : dst M m := (hd.resolve_right (fun z => c_19 z.1)).2
          refine g_ild2 dL_drive_44 ?_
          refine g_ist2 (by decide) dL_drive_45 ?_
          refine g_iinc3 (by decide) dL_drive_46 (pd_1 m) ?_
          refine g_goto (tgt := 10) dL_drive_49 (by decide) ?_
          first | exact ih _ (by omega) (hq.take (by omega) (by omega) hs (Or.inl rfl)) | exact ih _ (by omega) (hq.skip (fun z => z hs))
        · skip
          have hs : ¬ dst M m := (hd.resolve_left (fun z => absurd (z.1.symm.trans c_19) (by decide))).2
          refine g_ild2 dL_drive_22 ?_
          show Go _ _ _ _ _ _ 23 _ _
          refine g_if_lt_t (tgt := 40) dL_drive_23 (by decide) (by decide) ?_
          refine g_ild3 dL_drive_40 ?_
          refine g_goto (tgt := 45) dL_drive_41 (by decide) ?_
          refine g_ist2 (by decide) dL_drive_45 ?_
          refine g_iinc3 (by decide) dL_drive_46 (pd_1 m) ?_
          refine g_goto (tgt := 10) dL_drive_49 (by decide) ?_
          first | exact ih _ (by omega) (hq.take (by omega) (by omega) hs (Or.inl rfl)) | exact ih _ (by omega) (hq.skip (fun z => z hs))
      · obtain ⟨k1, k2⟩ := hf.1 b (by omega)
        refine g_ild3 dL_drive_10 ?_
        refine g_if_lt_f (tgt := 52) dL_drive_11 (by decide) (Int32.not_lt.mpr (nI_pos' (by omega))) ?_
        refine g_ald1 dL_drive_14 ?_
        refine g_ild3 dL_drive_15 ?_
        refine g_callS2 (l_isDusty (h := h) M m hL (by omega) g1 g2) mw_2_185 ok_L_isDusty ⟨by decide, by decide⟩ (by omega) (by omega) (Nat.le_of_ble_eq_true rfl) dL_drive_16 (rB_K ?_)
        intro rd hd
        show Go _ _ _ _ _ _ 19 _ _
        refine g_if_ne (tgt := 44) dL_drive_19 (by decide) (fun c_19 => ?_) (fun c_19 => ?_)
        · skip
          have hs : dst M m := (hd.resolve_right (fun z => c_19 z.1)).2
          refine g_ild2 dL_drive_44 ?_
          refine g_ist2 (by decide) dL_drive_45 ?_
          refine g_iinc3 (by decide) dL_drive_46 (pd_1 m) ?_
          refine g_goto (tgt := 10) dL_drive_49 (by decide) ?_
          first | exact ih _ (by omega) (hq.take (by omega) (by omega) hs (Or.inr ⟨b, rfl, b1, hc⟩)) | exact ih _ (by omega) (hq.keep (by omega) b1 hc) | exact ih _ (by omega) (hq.skip (fun z => z hs))
        · skip
          have hs : ¬ dst M m := (hd.resolve_left (fun z => absurd (z.1.symm.trans c_19) (by decide))).2
          refine g_ild2 dL_drive_22 ?_
          show Go _ _ _ _ _ _ 23 _ _
          refine g_if_lt_f (tgt := 40) dL_drive_23 (by decide) (Int32.not_lt.mpr (nI_pos' (by omega))) ?_
          refine g_ald1 dL_drive_26 ?_
          refine g_iconst (v := nI 2) dL_drive_27 (by decide +kernel) ?_
          refine g_ild3 dL_drive_28 ?_
          first | refine g_imul_n dL_drive_29 ?_ | refine g_imul dL_drive_29 ?_
          refine g_dldr rfl (by omega) rfl (by omega) dL_drive_30 hL rfl ?_
          show Go _ _ _ _ _ _ 31 _ _
          refine g_ald1 dL_drive_31 ?_
          refine g_iconst (v := nI 2) dL_drive_32 (by decide +kernel) ?_
          refine g_ild2 dL_drive_33 ?_
          first | refine g_imul_n dL_drive_34 ?_ | refine g_imul dL_drive_34 ?_
          refine g_dldr rfl (by omega) rfl (by omega) dL_drive_35 hL rfl ?_
          refine g_dcmp dL_drive_36 ?_
          show Go _ _ _ _ _ _ 37 _ _
          rw [fl_dcmp g1 k1]
          refine g_if_gt (tgt := 44) dL_drive_37 (by decide) (fun c_37 => ?_) (fun c_37 => ?_)
          · skip
            have hc : (M.2 (2 * b)).toNat < (M.2 (2 * m)).toNat := Nat.lt_of_not_le (fun z => absurd (cmpv_le.mpr z) (Int32.not_le.mpr c_37))
            refine g_ild2 dL_drive_44 ?_
            refine g_ist2 (by decide) dL_drive_45 ?_
            refine g_iinc3 (by decide) dL_drive_46 (pd_1 m) ?_
            refine g_goto (tgt := 10) dL_drive_49 (by decide) ?_
            first | exact ih _ (by omega) (hq.take (by omega) (by omega) hs (Or.inr ⟨b, rfl, b1, hc⟩)) | exact ih _ (by omega) (hq.keep (by omega) b1 hc) | exact ih _ (by omega) (hq.skip (fun z => z hs))
          · skip
            have hc : (M.2 (2 * m)).toNat ≤ (M.2 (2 * b)).toNat := cmpv_le.mp (Int32.not_lt.mp c_37)
            refine g_ild3 dL_drive_40 ?_
            show Go _ _ _ _ _ _ 41 _ _
            refine g_goto (tgt := 45) dL_drive_41 (by decide) ?_
            refine g_ist2 (by decide) dL_drive_45 ?_
            refine g_iinc3 (by decide) dL_drive_46 (pd_1 m) ?_
            refine g_goto (tgt := 10) dL_drive_49 (by decide) ?_
            first | exact ih _ (by omega) (hq.take (by omega) (by omega) hs (Or.inr ⟨b, rfl, b1, hc⟩)) | exact ih _ (by omega) (hq.keep (by omega) b1 hc) | exact ih _ (by omega) (hq.skip (fun z => z hs))
  refine g_bipush (v := -5) dL_drive_0 (by decide +kernel) ?_
  refine g_ist2 (by decide) dL_drive_2 ?_
  refine g_ald0 dL_drive_3 ?_
  refine g_bipush (v := nI 10) dL_drive_4 (by decide +kernel) ?_
  first | refine g_ildr Rw.g rfl (by omega) rfl (by omega) dL_drive_6 hL (v := (nI nd)) z1 ?_ | refine g_ildr Rw.t rfl (by omega) rfl (by omega) dL_drive_6 hL (v := (nI nd)) z1 ?_ | refine g_ildr Rw.d rfl (by omega) rfl (by omega) dL_drive_6 hL (v := (nI nd)) z1 ?_ | refine g_ildr Rw.a rfl (by omega) rfl (by omega) dL_drive_6 hL (v := (nI nd)) z1 ?_ | refine g_ildr Rw.b rfl (by omega) rfl (by omega) dL_drive_6 hL (v := (nI nd)) z1 ?_ | refine g_ildr Rw.c rfl (by omega) rfl (by omega) dL_drive_6 hL (v := (nI nd)) z1 ?_
  show Go _ _ _ _ _ _ 7 _ _
  refine g_iconst (v := nI 1) dL_drive_7 (by decide +kernel) ?_
  refine g_isub_v dL_drive_8 (pd_0 nd) ?_
  refine g_ist3 (by decide) dL_drive_9 ?_
  exact loop nd _ (Nat.le_refl _) (MnF.top _ _ _)
theorem l_cleaner (M : Mo) (ni nd nj : Nat) (hL : Lw h M) (hz : Iz M ni nd nj) (hH : Ihm M ni) (hp : Ip M) : Ct G mL_cleaner [ga G 449, ga G 450] h 456 456 (rI (fun r h' => h' = h ∧ IsMin (fun i => M.1 1 (6 * i) = 1 ∧ 0 < M.1 1 (6 * i + 3)) (fun i => ad (hm M i) (pl M)) ni r)) := by
  obtain ⟨z1, z2, -⟩ := hz
  refine Ct.of rfl (by simp [Value.category, ga]) (Nat.le_of_ble_eq_true rfl) (Nat.le_refl _) ?_
  show Go _ _ _ _ _ _ _ [some (ga G 449), some (ga G 450), none, none, none] []
  have loop : ∀ m r x4, m ≤ ni → MnF (fun i => M.1 1 (6 * i) = 1 ∧ 0 < M.1 1 (6 * i + 3)) (fun i => ad (hm M i) (pl M)) m ni r → Go G mL_cleaner 456 (rI (fun r h' => h' = h ∧ IsMin (fun i => M.1 1 (6 * i) = 1 ∧ 0 < M.1 1 (6 * i + 3)) (fun i => ad (hm M i) (pl M)) ni r)) h 456 10 [some (ga G 449), some (ga G 450), some (.int r), some (.int (pd m)), x4] [] := by
    intro m
    induction m with
    | zero =>
      intro r x4 hm hq
      refine g_ild3 dL_cleaner_10 ?_
      refine g_if_lt_t (tgt := 94) dL_cleaner_11 (by decide) (by decide) ?_
      refine g_ild2 dL_cleaner_94 ?_
      exact g_iret rfl dL_cleaner_95 ⟨r, rfl, rfl, hq.zero⟩
    | succ m ih =>
      intro r x4 hm' hq
      obtain ⟨m1, m2⟩ := hH m (by omega)
      show Go _ _ _ _ _ _ _ [some (ga G 449), some (ga G 450), some (.int r), some (.int (nI m)), x4] []
      rcases id hq with ⟨rfl, -⟩ | ⟨b, b0, b1, rfl, -⟩
      · skip
        refine g_ild3 dL_cleaner_10 ?_
        refine g_if_lt_f (tgt := 94) dL_cleaner_11 (by decide) (Int32.not_lt.mpr (nI_pos' (by omega))) ?_
        refine g_ald1 dL_cleaner_14 ?_
        refine g_bipush (v := nI 6) dL_cleaner_15 (by decide +kernel) ?_
        refine g_ild3 dL_cleaner_17 ?_
        show Go _ _ _ _ _ _ 18 _ _
        first | refine g_imul_n dL_cleaner_18 ?_ | refine g_imul dL_cleaner_18 ?_
        first | refine g_ildr Rw.g rfl (by omega) rfl (by omega) dL_cleaner_19 hL rfl ?_ | refine g_ildr Rw.t rfl (by omega) rfl (by omega) dL_cleaner_19 hL rfl ?_ | refine g_ildr Rw.d rfl (by omega) rfl (by omega) dL_cleaner_19 hL rfl ?_ | refine g_ildr Rw.a rfl (by omega) rfl (by omega) dL_cleaner_19 hL rfl ?_ | refine g_ildr Rw.b rfl (by omega) rfl (by omega) dL_cleaner_19 hL rfl ?_ | refine g_ildr Rw.c rfl (by omega) rfl (by omega) dL_cleaner_19 hL rfl ?_
        refine g_iconst (v := nI 1) dL_cleaner_20 (by decide +kernel) ?_
        refine g_icmp_ne (tgt := 39) dL_cleaner_21 (by decide) (fun c_21 => ?_) (fun c_21 => ?_)
        · skip
          skip
          refine g_iconst (v := nI 0) dL_cleaner_39 (by decide +kernel) ?_
          refine g_ist4 (by decide) dL_cleaner_40 ?_
          show Go _ _ _ _ _ _ 42 _ _
          refine g_ild4 dL_cleaner_42 ?_
          refine g_if_eq_t (tgt := 86) dL_cleaner_44 (by decide) (by decide) ?_
          refine g_ild2 dL_cleaner_86 ?_
          refine g_ist2 (by decide) dL_cleaner_87 ?_
          refine g_iinc3 (by decide) dL_cleaner_88 (pd_1 m) ?_
          refine g_goto (tgt := 10) dL_cleaner_91 (by decide) ?_
          first | exact ih _ _ (by omega) (hq.take (by omega) (by omega) ⟨c_21, Int32.not_le.mp c_32⟩ (Or.inl rfl)) | exact ih _ _ (by omega) (hq.skip (fun z => c_21 z.1)) | exact ih _ _ (by omega) (hq.skip (fun z => absurd c_32 (Int32.not_le.mpr z.2)))
        · skip
          skip
          show Go _ _ _ _ _ _ 24 _ _
          refine g_ald1 dL_cleaner_24 ?_
          refine g_bipush (v := nI 6) dL_cleaner_25 (by decide +kernel) ?_
          refine g_ild3 dL_cleaner_27 ?_
          first | refine g_imul_n dL_cleaner_28 ?_ | refine g_imul dL_cleaner_28 ?_
          refine g_iconst (v := nI 3) dL_cleaner_29 (by decide +kernel) ?_
          first | refine g_iadd_n dL_cleaner_30 ?_ | refine g_iadd dL_cleaner_30 ?_
          show Go _ _ _ _ _ _ 31 _ _
          first | refine g_ildr Rw.g rfl (by omega) rfl (by omega) dL_cleaner_31 hL rfl ?_ | refine g_ildr Rw.t rfl (by omega) rfl (by omega) dL_cleaner_31 hL rfl ?_ | refine g_ildr Rw.d rfl (by omega) rfl (by omega) dL_cleaner_31 hL rfl ?_ | refine g_ildr Rw.a rfl (by omega) rfl (by omega) dL_cleaner_31 hL rfl ?_ | refine g_ildr Rw.b rfl (by omega) rfl (by omega) dL_cleaner_31 hL rfl ?_ | refine g_ildr Rw.c rfl (by omega) rfl (by omega) dL_cleaner_31 hL rfl ?_
          refine g_if_le (tgt := 39) dL_cleaner_32 (by decide) (fun c_32 => ?_) (fun c_32 => ?_)
          · skip
            refine g_iconst (v := nI 0) dL_cleaner_39 (by decide +kernel) ?_
            refine g_ist4 (by decide) dL_cleaner_40 ?_
            refine g_ild4 dL_cleaner_42 ?_
            refine g_if_eq_t (tgt := 86) dL_cleaner_44 (by decide) (by decide) ?_
            show Go _ _ _ _ _ _ 86 _ _
            refine g_ild2 dL_cleaner_86 ?_
            refine g_ist2 (by decide) dL_cleaner_87 ?_
            refine g_iinc3 (by decide) dL_cleaner_88 (pd_1 m) ?_
            refine g_goto (tgt := 10) dL_cleaner_91 (by decide) ?_
            first | exact ih _ _ (by omega) (hq.take (by omega) (by omega) ⟨c_21, Int32.not_le.mp c_32⟩ (Or.inl rfl)) | exact ih _ _ (by omega) (hq.skip (fun z => c_21 z.1)) | exact ih _ _ (by omega) (hq.skip (fun z => absurd c_32 (Int32.not_le.mpr z.2)))
          · skip
            refine g_iconst (v := nI 1) dL_cleaner_35 (by decide +kernel) ?_
            refine g_goto (tgt := 40) dL_cleaner_36 (by decide) ?_
            show Go _ _ _ _ _ _ 40 _ _
            refine g_ist4 (by decide) dL_cleaner_40 ?_
            refine g_ild4 dL_cleaner_42 ?_
            refine g_if_eq_f (tgt := 86) dL_cleaner_44 (by decide) (by decide) ?_
            refine g_ild2 dL_cleaner_47 ?_
            refine g_if_lt_t (tgt := 82) dL_cleaner_48 (by decide) (by decide) ?_
            refine g_ild3 dL_cleaner_82 ?_
            show Go _ _ _ _ _ _ 83 _ _
            refine g_goto (tgt := 87) dL_cleaner_83 (by decide) ?_
            refine g_ist2 (by decide) dL_cleaner_87 ?_
            refine g_iinc3 (by decide) dL_cleaner_88 (pd_1 m) ?_
            refine g_goto (tgt := 10) dL_cleaner_91 (by decide) ?_
            first | exact ih _ _ (by omega) (hq.take (by omega) (by omega) ⟨c_21, Int32.not_le.mp c_32⟩ (Or.inl rfl)) | exact ih _ _ (by omega) (hq.skip (fun z => c_21 z.1)) | exact ih _ _ (by omega) (hq.skip (fun z => absurd c_32 (Int32.not_le.mpr z.2)))
      · obtain ⟨k1, k2⟩ := hH b (by omega)
        refine g_ild3 dL_cleaner_10 ?_
        refine g_if_lt_f (tgt := 94) dL_cleaner_11 (by decide) (Int32.not_lt.mpr (nI_pos' (by omega))) ?_
        refine g_ald1 dL_cleaner_14 ?_
        refine g_bipush (v := nI 6) dL_cleaner_15 (by decide +kernel) ?_
        refine g_ild3 dL_cleaner_17 ?_
        show Go _ _ _ _ _ _ 18 _ _
        first | refine g_imul_n dL_cleaner_18 ?_ | refine g_imul dL_cleaner_18 ?_
        first | refine g_ildr Rw.g rfl (by omega) rfl (by omega) dL_cleaner_19 hL rfl ?_ | refine g_ildr Rw.t rfl (by omega) rfl (by omega) dL_cleaner_19 hL rfl ?_ | refine g_ildr Rw.d rfl (by omega) rfl (by omega) dL_cleaner_19 hL rfl ?_ | refine g_ildr Rw.a rfl (by omega) rfl (by omega) dL_cleaner_19 hL rfl ?_ | refine g_ildr Rw.b rfl (by omega) rfl (by omega) dL_cleaner_19 hL rfl ?_ | refine g_ildr Rw.c rfl (by omega) rfl (by omega) dL_cleaner_19 hL rfl ?_
        refine g_iconst (v := nI 1) dL_cleaner_20 (by decide +kernel) ?_
        refine g_icmp_ne (tgt := 39) dL_cleaner_21 (by decide) (fun c_21 => ?_) (fun c_21 => ?_)
        · skip
          refine g_iconst (v := nI 0) dL_cleaner_39 (by decide +kernel) ?_
          refine g_ist4 (by decide) dL_cleaner_40 ?_
          show Go _ _ _ _ _ _ 42 _ _
          refine g_ild4 dL_cleaner_42 ?_
          refine g_if_eq_t (tgt := 86) dL_cleaner_44 (by decide) (by decide) ?_
          refine g_ild2 dL_cleaner_86 ?_
          refine g_ist2 (by decide) dL_cleaner_87 ?_
          refine g_iinc3 (by decide) dL_cleaner_88 (pd_1 m) ?_
          refine g_goto (tgt := 10) dL_cleaner_91 (by decide) ?_
          first | exact ih _ _ (by omega) (hq.take (by omega) (by omega) ⟨c_21, Int32.not_le.mp c_32⟩ (Or.inr ⟨b, rfl, b1, hc⟩)) | exact ih _ _ (by omega) (hq.skip (fun z => c_21 z.1)) | exact ih _ _ (by omega) (hq.skip (fun z => absurd c_32 (Int32.not_le.mpr z.2))) | exact ih _ _ (by omega) (hq.keep (by omega) b1 hc)
        · skip
          show Go _ _ _ _ _ _ 24 _ _
          refine g_ald1 dL_cleaner_24 ?_
          refine g_bipush (v := nI 6) dL_cleaner_25 (by decide +kernel) ?_
          refine g_ild3 dL_cleaner_27 ?_
          first | refine g_imul_n dL_cleaner_28 ?_ | refine g_imul dL_cleaner_28 ?_
          refine g_iconst (v := nI 3) dL_cleaner_29 (by decide +kernel) ?_
          first | refine g_iadd_n dL_cleaner_30 ?_ | refine g_iadd dL_cleaner_30 ?_
          show Go _ _ _ _ _ _ 31 _ _
          first | refine g_ildr Rw.g rfl (by omega) rfl (by omega) dL_cleaner_31 hL rfl ?_ | refine g_ildr Rw.t rfl (by omega) rfl (by omega) dL_cleaner_31 hL rfl ?_ | refine g_ildr Rw.d rfl (by omega) rfl (by omega) dL_cleaner_31 hL rfl ?_ | refine g_ildr Rw.a rfl (by omega) rfl (by omega) dL_cleaner_31 hL rfl ?_ | refine g_ildr Rw.b rfl (by omega) rfl (by omega) dL_cleaner_31 hL rfl ?_ | refine g_ildr Rw.c rfl (by omega) rfl (by omega) dL_cleaner_31 hL rfl ?_
          refine g_if_le (tgt := 39) dL_cleaner_32 (by decide) (fun c_32 => ?_) (fun c_32 => ?_)
          · skip
            refine g_iconst (v := nI 0) dL_cleaner_39 (by decide +kernel) ?_
            refine g_ist4 (by decide) dL_cleaner_40 ?_
            refine g_ild4 dL_cleaner_42 ?_
            refine g_if_eq_t (tgt := 86) dL_cleaner_44 (by decide) (by decide) ?_
            show Go _ _ _ _ _ _ 86 _ _
            refine g_ild2 dL_cleaner_86 ?_
            refine g_ist2 (by decide) dL_cleaner_87 ?_
            refine g_iinc3 (by decide) dL_cleaner_88 (pd_1 m) ?_
            refine g_goto (tgt := 10) dL_cleaner_91 (by decide) ?_
            first | exact ih _ _ (by omega) (hq.take (by omega) (by omega) ⟨c_21, Int32.not_le.mp c_32⟩ (Or.inr ⟨b, rfl, b1, hc⟩)) | exact ih _ _ (by omega) (hq.skip (fun z => c_21 z.1)) | exact ih _ _ (by omega) (hq.skip (fun z => absurd c_32 (Int32.not_le.mpr z.2))) | exact ih _ _ (by omega) (hq.keep (by omega) b1 hc)
          · skip
            refine g_iconst (v := nI 1) dL_cleaner_35 (by decide +kernel) ?_
            refine g_goto (tgt := 40) dL_cleaner_36 (by decide) ?_
            show Go _ _ _ _ _ _ 40 _ _
            refine g_ist4 (by decide) dL_cleaner_40 ?_
            refine g_ild4 dL_cleaner_42 ?_
            refine g_if_eq_f (tgt := 86) dL_cleaner_44 (by decide) (by decide) ?_
            refine g_ild2 dL_cleaner_47 ?_
            refine g_if_lt_f (tgt := 82) dL_cleaner_48 (by decide) (Int32.not_lt.mpr (nI_pos' (by omega))) ?_
            refine g_ald1 dL_cleaner_51 ?_
            show Go _ _ _ _ _ _ 52 _ _
            refine g_bipush (v := nI 6) dL_cleaner_52 (by decide +kernel) ?_
            refine g_ild3 dL_cleaner_54 ?_
            first | refine g_imul_n dL_cleaner_55 ?_ | refine g_imul dL_cleaner_55 ?_
            refine g_iconst (v := nI 1) dL_cleaner_56 (by decide +kernel) ?_
            first | refine g_iadd_n dL_cleaner_57 ?_ | refine g_iadd dL_cleaner_57 ?_
            first | refine g_ildr Rw.g rfl (by omega) rfl (by omega) dL_cleaner_58 hL (v := (nI (hm M m))) m2 ?_ | refine g_ildr Rw.t rfl (by omega) rfl (by omega) dL_cleaner_58 hL (v := (nI (hm M m))) m2 ?_ | refine g_ildr Rw.d rfl (by omega) rfl (by omega) dL_cleaner_58 hL (v := (nI (hm M m))) m2 ?_ | refine g_ildr Rw.a rfl (by omega) rfl (by omega) dL_cleaner_58 hL (v := (nI (hm M m))) m2 ?_ | refine g_ildr Rw.b rfl (by omega) rfl (by omega) dL_cleaner_58 hL (v := (nI (hm M m))) m2 ?_ | refine g_ildr Rw.c rfl (by omega) rfl (by omega) dL_cleaner_58 hL (v := (nI (hm M m))) m2 ?_
            show Go _ _ _ _ _ _ 59 _ _
            refine g_ald0 dL_cleaner_59 ?_
            refine g_iconst (v := nI 1) dL_cleaner_60 (by decide +kernel) ?_
            first | refine g_ildr Rw.g rfl (by omega) rfl (by omega) dL_cleaner_61 hL (v := (nI (pl M))) hp.2 ?_ | refine g_ildr Rw.t rfl (by omega) rfl (by omega) dL_cleaner_61 hL (v := (nI (pl M))) hp.2 ?_ | refine g_ildr Rw.d rfl (by omega) rfl (by omega) dL_cleaner_61 hL (v := (nI (pl M))) hp.2 ?_ | refine g_ildr Rw.a rfl (by omega) rfl (by omega) dL_cleaner_61 hL (v := (nI (pl M))) hp.2 ?_ | refine g_ildr Rw.b rfl (by omega) rfl (by omega) dL_cleaner_61 hL (v := (nI (pl M))) hp.2 ?_ | refine g_ildr Rw.c rfl (by omega) rfl (by omega) dL_cleaner_61 hL (v := (nI (pl M))) hp.2 ?_
            refine g_callS2 (l_away (h := h) _ _ m1 hp.1) mw_3_53 ok_L_away ⟨by decide, by decide⟩ (by omega) (by omega) (Nat.le_of_ble_eq_true rfl) dL_cleaner_62 (dI_K ?_)
            refine g_ald1 dL_cleaner_65 ?_
            refine g_bipush (v := nI 6) dL_cleaner_66 (by decide +kernel) ?_
            show Go _ _ _ _ _ _ 68 _ _
            refine g_ild2 dL_cleaner_68 ?_
            first | refine g_imul_n dL_cleaner_69 ?_ | refine g_imul dL_cleaner_69 ?_
            refine g_iconst (v := nI 1) dL_cleaner_70 (by decide +kernel) ?_
            first | refine g_iadd_n dL_cleaner_71 ?_ | refine g_iadd dL_cleaner_71 ?_
            first | refine g_ildr Rw.g rfl (by omega) rfl (by omega) dL_cleaner_72 hL (v := (nI (hm M b))) k2 ?_ | refine g_ildr Rw.t rfl (by omega) rfl (by omega) dL_cleaner_72 hL (v := (nI (hm M b))) k2 ?_ | refine g_ildr Rw.d rfl (by omega) rfl (by omega) dL_cleaner_72 hL (v := (nI (hm M b))) k2 ?_ | refine g_ildr Rw.a rfl (by omega) rfl (by omega) dL_cleaner_72 hL (v := (nI (hm M b))) k2 ?_ | refine g_ildr Rw.b rfl (by omega) rfl (by omega) dL_cleaner_72 hL (v := (nI (hm M b))) k2 ?_ | refine g_ildr Rw.c rfl (by omega) rfl (by omega) dL_cleaner_72 hL (v := (nI (hm M b))) k2 ?_
            refine g_ald0 dL_cleaner_73 ?_
            show Go _ _ _ _ _ _ 74 _ _
            refine g_iconst (v := nI 1) dL_cleaner_74 (by decide +kernel) ?_
            first | refine g_ildr Rw.g rfl (by omega) rfl (by omega) dL_cleaner_75 hL (v := (nI (pl M))) hp.2 ?_ | refine g_ildr Rw.t rfl (by omega) rfl (by omega) dL_cleaner_75 hL (v := (nI (pl M))) hp.2 ?_ | refine g_ildr Rw.d rfl (by omega) rfl (by omega) dL_cleaner_75 hL (v := (nI (pl M))) hp.2 ?_ | refine g_ildr Rw.a rfl (by omega) rfl (by omega) dL_cleaner_75 hL (v := (nI (pl M))) hp.2 ?_ | refine g_ildr Rw.b rfl (by omega) rfl (by omega) dL_cleaner_75 hL (v := (nI (pl M))) hp.2 ?_ | refine g_ildr Rw.c rfl (by omega) rfl (by omega) dL_cleaner_75 hL (v := (nI (pl M))) hp.2 ?_
            refine g_callS2 (l_away (h := h) _ _ k1 hp.1) mw_3_53 ok_L_away ⟨by decide, by decide⟩ (by omega) (by omega) (Nat.le_of_ble_eq_true rfl) dL_cleaner_76 (dI_K ?_)
            refine g_icmp_gt (tgt := 86) dL_cleaner_79 (by decide) (fun c_79 => ?_) (fun c_79 => ?_)
            · skip
              have hc : ad (hm M b) (pl M) < ad (hm M m) (pl M) := (nI_ltI (by have := ad_lt k1 hp.1; omega) (by have := ad_lt m1 hp.1; omega)).mp c_79
              refine g_ild2 dL_cleaner_86 ?_
              refine g_ist2 (by decide) dL_cleaner_87 ?_
              show Go _ _ _ _ _ _ 88 _ _
              refine g_iinc3 (by decide) dL_cleaner_88 (pd_1 m) ?_
              refine g_goto (tgt := 10) dL_cleaner_91 (by decide) ?_
              first | exact ih _ _ (by omega) (hq.take (by omega) (by omega) ⟨c_21, Int32.not_le.mp c_32⟩ (Or.inr ⟨b, rfl, b1, hc⟩)) | exact ih _ _ (by omega) (hq.skip (fun z => c_21 z.1)) | exact ih _ _ (by omega) (hq.skip (fun z => absurd c_32 (Int32.not_le.mpr z.2))) | exact ih _ _ (by omega) (hq.keep (by omega) b1 hc)
            · skip
              have hc : ad (hm M m) (pl M) ≤ ad (hm M b) (pl M) := Nat.le_of_not_lt (fun z => c_79 ((nI_ltI (by have := ad_lt k1 hp.1; omega) (by have := ad_lt m1 hp.1; omega)).mpr z))
              refine g_ild3 dL_cleaner_82 ?_
              refine g_goto (tgt := 87) dL_cleaner_83 (by decide) ?_
              refine g_ist2 (by decide) dL_cleaner_87 ?_
              refine g_iinc3 (by decide) dL_cleaner_88 (pd_1 m) ?_
              show Go _ _ _ _ _ _ 91 _ _
              refine g_goto (tgt := 10) dL_cleaner_91 (by decide) ?_
              first | exact ih _ _ (by omega) (hq.take (by omega) (by omega) ⟨c_21, Int32.not_le.mp c_32⟩ (Or.inr ⟨b, rfl, b1, hc⟩)) | exact ih _ _ (by omega) (hq.skip (fun z => c_21 z.1)) | exact ih _ _ (by omega) (hq.skip (fun z => absurd c_32 (Int32.not_le.mpr z.2))) | exact ih _ _ (by omega) (hq.keep (by omega) b1 hc)
  refine g_bipush (v := -5) dL_cleaner_0 (by decide +kernel) ?_
  refine g_ist2 (by decide) dL_cleaner_2 ?_
  refine g_ald0 dL_cleaner_3 ?_
  refine g_bipush (v := nI 9) dL_cleaner_4 (by decide +kernel) ?_
  first | refine g_ildr Rw.g rfl (by omega) rfl (by omega) dL_cleaner_6 hL (v := (nI ni)) z1 ?_ | refine g_ildr Rw.t rfl (by omega) rfl (by omega) dL_cleaner_6 hL (v := (nI ni)) z1 ?_ | refine g_ildr Rw.d rfl (by omega) rfl (by omega) dL_cleaner_6 hL (v := (nI ni)) z1 ?_ | refine g_ildr Rw.a rfl (by omega) rfl (by omega) dL_cleaner_6 hL (v := (nI ni)) z1 ?_ | refine g_ildr Rw.b rfl (by omega) rfl (by omega) dL_cleaner_6 hL (v := (nI ni)) z1 ?_ | refine g_ildr Rw.c rfl (by omega) rfl (by omega) dL_cleaner_6 hL (v := (nI ni)) z1 ?_
  show Go _ _ _ _ _ _ 7 _ _
  refine g_iconst (v := nI 1) dL_cleaner_7 (by decide +kernel) ?_
  refine g_isub_v dL_cleaner_8 (pd_0 ni) ?_
  refine g_ist3 (by decide) dL_cleaner_9 ?_
  exact loop ni _ _ (Nat.le_refl _) (MnF.top _ _ _)
end P33
