/-! ===== the law's sets ===== -/
section P48r
variable {G : Gl} {M : Mt} {n1 : Nat} {R : Option Value → Hp → Prop} {h : Hp} {n pc : Nat} {ls : List (Option Value)} {st : List Value}
theorem g_dmul_v {x y v : UInt64} (d : decode M.2.1 pc = .ok (.dmul, 1)) (hv : FP.dmul x y = v) (hne : vf_n64 v) (k : Go G M n1 R h n (pc + 1) ls (.double v :: st)) : Go G M n1 R h n pc ls (.double y :: .double x :: st) := by
  subst hv
  exact g_dmul d hne k
theorem g_i2d_v {x : Int32} {v : UInt64} (d : decode M.2.1 pc = .ok (.i2d, 1)) (hv : FP.i2d x = v) (k : Go G M n1 R h n (pc + 1) ls (.double v :: st)) : Go G M n1 R h n pc ls (.int x :: st) := by
  subst hv
  exact g_i2d d k
end P48r
theorem rem3 : ∀ p : Fin 3, ∀ r : Fin 2, nI (p.1 + 1 + r.1) - nI (p.1 + 1 + r.1) / nI 3 * nI 3 = nI ((p.1 + 1 + r.1) % 3) := by decide +kernel
section P48
variable {G : Gl} {h : Hp}
theorem lq_sets (M : Mo) (ni nd nj T : Nat) (x : Int32) (hT : Tn h M ni nd nj T) : Ct G mL_sets [ga G 0, ga G 449, ga G 450, ga G 452, .int x] h 456 456 (rI (fun r h' => r = 1 ∧ ∃ M', Tn h' M' ni nd nj T)) := by
  obtain ⟨hL, hR, hI, hX⟩ := id hT
  obtain ⟨⟨hi, hd, hj⟩, -, -, hC, hf, -⟩ := id hI.1
  obtain ⟨⟨z1, -, z3, -⟩, -⟩ := id hX.1
  have hK := KR.rf h
  refine Ct.of rfl (by simp [Value.category, ga]) (Nat.le_of_ble_eq_true rfl) (Nat.le_refl _) ?_
  show Go _ _ _ _ _ _ _ [some (ga G 0), some (ga G 449), some (ga G 450), some (ga G 452), some (.int x), none, none, none] []
  have k25 : ∀ n, n < 256 → 8 ≤ n → Go G mL_sets 456 (rI (fun r h' => r = 1 ∧ ∃ M', Tn h' M' ni nd nj T)) h 456 25 [some (ga G 0), some (ga G 449), some (ga G 450), some (ga G 452), some (.int x), some (.int (nI n)), none, none] [] := by
    intro n hn h8
    by_cases c : M.2 9 = fval n
    · skip
      refine g_ald3 dL_sets_25 ?_
      refine g_bipush (v := nI 9) dL_sets_26 (by decide +kernel) ?_
      refine g_dldr rfl (by omega) rfl (by omega) dL_sets_28 hL rfl ?_
      refine g_ild5 dL_sets_29 ?_
      refine g_i2d dL_sets_31 ?_
      show Go _ _ _ _ _ _ 32 _ _
      refine g_ldc2d mw_3_209 dL_sets_32 ?_
      refine g_dmul_v dL_sets_35 (fv_d ⟨n, hn⟩) (fl_n64 (fv_g hn)) ?_
      refine g_dcmp dL_sets_36 ?_
      refine g_if_ne_f (tgt := 45) dL_sets_37 (by decide) ((dcmp0 hf.2.2 (fv_g hn)).mpr c) ?_
      refine g_bipush (v := -5) dL_sets_40 (by decide +kernel) ?_
      refine g_goto (tgt := 46) dL_sets_42 (by decide) ?_
      show Go _ _ _ _ _ _ 46 _ _
      refine g_ist6 (by decide) dL_sets_46 ?_
      refine g_ald3 dL_sets_48 ?_
      refine g_bipush (v := nI 9) dL_sets_49 (by decide +kernel) ?_
      refine g_ild5 dL_sets_51 ?_
      refine g_i2d dL_sets_53 ?_
      refine g_ldc2d mw_3_209 dL_sets_54 ?_
      show Go _ _ _ _ _ _ 57 _ _
      refine g_dmul_v dL_sets_57 (fv_d ⟨n, hn⟩) (fl_n64 (fv_g hn)) ?_
      refine g_dstr rfl (by omega) rfl (by omega) dL_sets_58 hL hK ?_
      intro h hL hK
      rw [← c, uf_same] at hL
      have R1 := hR.kr hi hd hj hK
      refine g_ald0 dL_sets_59 ?_
      refine g_ild5 dL_sets_60 ?_
      refine g_callS1 (l_bits (h := h) n hn) mw_2_152 ok_L_bits ⟨by decide, by decide⟩ (by omega) (by omega) (Nat.le_of_ble_eq_true rfl) dL_sets_62 (dI_K ?_)
      refine g_callV1 (c_setLimit_s (h := h) n hn h8 R1.2.2.2.2.2.2.2 (R1.1.2.2.2.2.2.2.2.2.trans c)) mw_3_210 ok_X9_setLimit ⟨by decide, by decide⟩ (by first | assumption | exact lay_item (by omega) | exact lay_drive (by omega) | exact lay_job (by omega) | rfl) (by omega) rfl (by omega) (by omega) (Nat.le_of_ble_eq_true rfl) dL_sets_65 (dI_K ?_)
      show Go _ _ _ _ _ _ 68 _ _
      refine g_ild6 dL_sets_68 ?_
      refine g_icmp_ne_f (tgt := 104) dL_sets_70 (by decide) rfl ?_
      refine g_ald0 dL_sets_73 ?_
      refine g_ild5 dL_sets_74 ?_
      refine g_callS1 (l_bits (h := h) n hn) mw_2_152 ok_L_bits ⟨by decide, by decide⟩ (by omega) (by omega) (Nat.le_of_ble_eq_true rfl) dL_sets_76 (dI_K ?_)
      refine g_callV1 (c_setLimit_s (h := h) n hn h8 R1.2.2.2.2.2.2.2 (R1.1.2.2.2.2.2.2.2.2.trans c)) mw_3_210 ok_X9_setLimit ⟨by decide, by decide⟩ (by first | assumption | exact lay_item (by omega) | exact lay_drive (by omega) | exact lay_job (by omega) | rfl) (by omega) rfl (by omega) (by omega) (Nat.le_of_ble_eq_true rfl) dL_sets_79 (dI_K ?_)
      show Go _ _ _ _ _ _ 82 _ _
      refine g_bipush (v := -5) dL_sets_82 (by decide +kernel) ?_
      refine g_icmp_ne_f (tgt := 104) dL_sets_84 (by decide) rfl ?_
      refine g_ald0 dL_sets_87 ?_
      refine g_iconst (v := nI 4) dL_sets_88 (by decide +kernel) ?_
      refine g_callS1 (l_bits (h := h) 4 (by omega)) mw_2_152 ok_L_bits ⟨by decide, by decide⟩ (by omega) (by omega) (Nat.le_of_ble_eq_true rfl) dL_sets_89 (dI_K ?_)
      refine g_callV1 (c_setLimit_2 (h := h) (bt 4) (by decide +kernel)) mw_3_210 ok_X9_setLimit ⟨by decide, by decide⟩ (by first | assumption | exact lay_item (by omega) | exact lay_drive (by omega) | exact lay_job (by omega) | rfl) (by omega) rfl (by omega) (by omega) (Nat.le_of_ble_eq_true rfl) dL_sets_92 (dI_K ?_)
      show Go _ _ _ _ _ _ 95 _ _
      refine g_bipush (v := -2) dL_sets_95 (by decide +kernel) ?_
      refine g_icmp_ne_f (tgt := 104) dL_sets_97 (by decide) rfl ?_
      refine g_iconst (v := nI 1) dL_sets_100 (by decide +kernel) ?_
      refine g_goto (tgt := 105) dL_sets_101 (by decide) ?_
      exact g_zret rfl rfl dL_sets_105 ⟨1, rfl, rfl, M, hL, R1, hI, hX⟩
    · skip
      refine g_ald3 dL_sets_25 ?_
      refine g_bipush (v := nI 9) dL_sets_26 (by decide +kernel) ?_
      refine g_dldr rfl (by omega) rfl (by omega) dL_sets_28 hL rfl ?_
      refine g_ild5 dL_sets_29 ?_
      refine g_i2d dL_sets_31 ?_
      show Go _ _ _ _ _ _ 32 _ _
      refine g_ldc2d mw_3_209 dL_sets_32 ?_
      refine g_dmul_v dL_sets_35 (fv_d ⟨n, hn⟩) (fl_n64 (fv_g hn)) ?_
      refine g_dcmp dL_sets_36 ?_
      refine g_if_ne_t (tgt := 45) dL_sets_37 (by decide) (fun z => c ((dcmp0 hf.2.2 (fv_g hn)).mp z)) ?_
      refine g_iconst (v := nI 1) dL_sets_45 (by decide +kernel) ?_
      refine g_ist6 (by decide) dL_sets_46 ?_
      show Go _ _ _ _ _ _ 48 _ _
      refine g_ald3 dL_sets_48 ?_
      refine g_bipush (v := nI 9) dL_sets_49 (by decide +kernel) ?_
      refine g_ild5 dL_sets_51 ?_
      refine g_i2d dL_sets_53 ?_
      refine g_ldc2d mw_3_209 dL_sets_54 ?_
      refine g_dmul_v dL_sets_57 (fv_d ⟨n, hn⟩) (fl_n64 (fv_g hn)) ?_
      show Go _ _ _ _ _ _ 58 _ _
      refine g_dstr rfl (by omega) rfl (by omega) dL_sets_58 hL hK ?_
      intro h hL hK
      refine g_ald0 dL_sets_59 ?_
      refine g_ild5 dL_sets_60 ?_
      refine g_callS1 (l_bits (h := h) n hn) mw_2_152 ok_L_bits ⟨by decide, by decide⟩ (by omega) (by omega) (Nat.le_of_ble_eq_true rfl) dL_sets_62 (dI_K ?_)
      refine g_callV1 (c_setLimit (h := h) M ni nd nj n hn h8 (hR.kr hi hd hj hK) hi hd hj hC hf c) mw_3_210 ok_X9_setLimit ⟨by decide, by decide⟩ (by first | assumption | exact lay_item (by omega) | exact lay_drive (by omega) | exact lay_job (by omega) | rfl) (by omega) rfl (by omega) (by omega) (Nat.le_of_ble_eq_true rfl) dL_sets_65 (rI_K ?_)
      rintro r h2 ⟨rfl, R2, K2⟩
      refine g_ild6 dL_sets_68 ?_
      show Go _ _ _ _ _ _ 70 _ _
      refine g_icmp_ne_f (tgt := 104) dL_sets_70 (by decide) rfl ?_
      refine g_ald0 dL_sets_73 ?_
      refine g_ild5 dL_sets_74 ?_
      refine g_callS1 (l_bits (h := h2) n hn) mw_2_152 ok_L_bits ⟨by decide, by decide⟩ (by omega) (by omega) (Nat.le_of_ble_eq_true rfl) dL_sets_76 (dI_K ?_)
      refine g_callV1 (c_setLimit_s (h := h2) n hn h8 R2.2.2.2.2.2.2.2 (R2.1.2.2.2.2.2.2.2.2.trans uf_at)) mw_3_210 ok_X9_setLimit ⟨by decide, by decide⟩ (by first | assumption | exact lay_item (by omega) | exact lay_drive (by omega) | exact lay_job (by omega) | rfl) (by omega) rfl (by omega) (by omega) (Nat.le_of_ble_eq_true rfl) dL_sets_79 (dI_K ?_)
      refine g_bipush (v := -5) dL_sets_82 (by decide +kernel) ?_
      show Go _ _ _ _ _ _ 84 _ _
      refine g_icmp_ne_f (tgt := 104) dL_sets_84 (by decide) rfl ?_
      refine g_ald0 dL_sets_87 ?_
      refine g_iconst (v := nI 4) dL_sets_88 (by decide +kernel) ?_
      refine g_callS1 (l_bits (h := h2) 4 (by omega)) mw_2_152 ok_L_bits ⟨by decide, by decide⟩ (by omega) (by omega) (Nat.le_of_ble_eq_true rfl) dL_sets_89 (dI_K ?_)
      refine g_callV1 (c_setLimit_2 (h := h2) (bt 4) (by decide +kernel)) mw_3_210 ok_X9_setLimit ⟨by decide, by decide⟩ (by first | assumption | exact lay_item (by omega) | exact lay_drive (by omega) | exact lay_job (by omega) | rfl) (by omega) rfl (by omega) (by omega) (Nat.le_of_ble_eq_true rfl) dL_sets_92 (dI_K ?_)
      refine g_bipush (v := -2) dL_sets_95 (by decide +kernel) ?_
      show Go _ _ _ _ _ _ 97 _ _
      refine g_icmp_ne_f (tgt := 104) dL_sets_97 (by decide) rfl ?_
      refine g_iconst (v := nI 1) dL_sets_100 (by decide +kernel) ?_
      refine g_goto (tgt := 105) dL_sets_101 (by decide) ?_
      exact g_zret rfl rfl dL_sets_105 ⟨1, rfl, rfl, _, hL.kl K2, R2, inv_uf hI (fv_g hn), xt_uf (Or.inl rfl) hX⟩
  have k422 : ∀ p q, p < 3 → q < 3 → p ≠ q → Go G mL_sets 456 (rI (fun r h' => r = 1 ∧ ∃ M', Tn h' M' ni nd nj T)) h 456 422 [some (ga G 0), some (ga G 449), some (ga G 450), some (ga G 452), some (.int x), some (.int (nI p)), some (.int (nI q)), none] [] := by
    intro p q hp hq hpq
    by_cases e6 : M.1 0 6 = nI p
    · by_cases e7 : M.1 0 7 = nI q
      · skip
        refine g_ald1 dL_sets_422 ?_
        refine g_bipush (v := nI 6) dL_sets_423 (by decide +kernel) ?_
        first | refine g_ildr Rw.g rfl (by omega) rfl (by omega) dL_sets_425 hL (v := (nI p)) e6 ?_ | refine g_ildr Rw.t rfl (by omega) rfl (by omega) dL_sets_425 hL (v := (nI p)) e6 ?_ | refine g_ildr Rw.d rfl (by omega) rfl (by omega) dL_sets_425 hL (v := (nI p)) e6 ?_ | refine g_ildr Rw.a rfl (by omega) rfl (by omega) dL_sets_425 hL (v := (nI p)) e6 ?_ | refine g_ildr Rw.b rfl (by omega) rfl (by omega) dL_sets_425 hL (v := (nI p)) e6 ?_ | refine g_ildr Rw.c rfl (by omega) rfl (by omega) dL_sets_425 hL (v := (nI p)) e6 ?_
        refine g_ild5 dL_sets_426 ?_
        refine g_icmp_ne_f (tgt := 445) dL_sets_428 (by decide) rfl ?_
        show Go _ _ _ _ _ _ 431 _ _
        refine g_ald1 dL_sets_431 ?_
        refine g_bipush (v := nI 7) dL_sets_432 (by decide +kernel) ?_
        first | refine g_ildr Rw.g rfl (by omega) rfl (by omega) dL_sets_434 hL (v := (nI q)) e7 ?_ | refine g_ildr Rw.t rfl (by omega) rfl (by omega) dL_sets_434 hL (v := (nI q)) e7 ?_ | refine g_ildr Rw.d rfl (by omega) rfl (by omega) dL_sets_434 hL (v := (nI q)) e7 ?_ | refine g_ildr Rw.a rfl (by omega) rfl (by omega) dL_sets_434 hL (v := (nI q)) e7 ?_ | refine g_ildr Rw.b rfl (by omega) rfl (by omega) dL_sets_434 hL (v := (nI q)) e7 ?_ | refine g_ildr Rw.c rfl (by omega) rfl (by omega) dL_sets_434 hL (v := (nI q)) e7 ?_
        refine g_ild6 dL_sets_435 ?_
        refine g_icmp_ne_f (tgt := 445) dL_sets_437 (by decide) rfl ?_
        refine g_bipush (v := -5) dL_sets_440 (by decide +kernel) ?_
        show Go _ _ _ _ _ _ 442 _ _
        refine g_goto (tgt := 452) dL_sets_442 (by decide) ?_
        refine g_ist7 (by decide) dL_sets_452 ?_
        refine g_ald1 dL_sets_454 ?_
        refine g_bipush (v := nI 6) dL_sets_455 (by decide +kernel) ?_
        refine g_ild5 dL_sets_457 ?_
        first | refine g_istr Rw.g rfl (by omega) rfl (by omega) dL_sets_459 hL hK ?_ | refine g_istr Rw.t rfl (by omega) rfl (by omega) dL_sets_459 hL hK ?_ | refine g_istr Rw.d rfl (by omega) rfl (by omega) dL_sets_459 hL hK ?_ | refine g_istr Rw.a rfl (by omega) rfl (by omega) dL_sets_459 hL hK ?_ | refine g_istr Rw.b rfl (by omega) rfl (by omega) dL_sets_459 hL hK ?_ | refine g_istr Rw.c rfl (by omega) rfl (by omega) dL_sets_459 hL hK ?_
        intro h hL hK
        show Go _ _ _ _ _ _ 460 _ _
        refine g_ald1 dL_sets_460 ?_
        refine g_bipush (v := nI 7) dL_sets_461 (by decide +kernel) ?_
        refine g_ild6 dL_sets_463 ?_
        first | refine g_istr Rw.g rfl (by omega) rfl (by omega) dL_sets_465 hL hK ?_ | refine g_istr Rw.t rfl (by omega) rfl (by omega) dL_sets_465 hL hK ?_ | refine g_istr Rw.d rfl (by omega) rfl (by omega) dL_sets_465 hL hK ?_ | refine g_istr Rw.a rfl (by omega) rfl (by omega) dL_sets_465 hL hK ?_ | refine g_istr Rw.b rfl (by omega) rfl (by omega) dL_sets_465 hL hK ?_ | refine g_istr Rw.c rfl (by omega) rfl (by omega) dL_sets_465 hL hK ?_
        intro h hL hK
        refine g_ald1 dL_sets_466 ?_
        refine g_bipush (v := nI 8) dL_sets_467 (by decide +kernel) ?_
        show Go _ _ _ _ _ _ 469 _ _
        refine g_iconst (v := nI 3) dL_sets_469 (by decide +kernel) ?_
        refine g_ild5 dL_sets_470 ?_
        refine g_isub dL_sets_472 ?_
        refine g_ild6 dL_sets_473 ?_
        refine g_isub dL_sets_475 ?_
        first | refine g_istr Rw.g rfl (by omega) rfl (by omega) dL_sets_476 hL hK ?_ | refine g_istr Rw.t rfl (by omega) rfl (by omega) dL_sets_476 hL hK ?_ | refine g_istr Rw.d rfl (by omega) rfl (by omega) dL_sets_476 hL hK ?_ | refine g_istr Rw.a rfl (by omega) rfl (by omega) dL_sets_476 hL hK ?_ | refine g_istr Rw.b rfl (by omega) rfl (by omega) dL_sets_476 hL hK ?_ | refine g_istr Rw.c rfl (by omega) rfl (by omega) dL_sets_476 hL hK ?_
        intro h hL hK
        have hL : Lw h (mOrd M (nI p) (nI q)) := hL
        have R1 := hR.kr hi hd hj hK
        show Go _ _ _ _ _ _ 477 _ _
        refine g_ald0 dL_sets_477 ?_
        refine g_ild5 dL_sets_478 ?_
        refine g_ild6 dL_sets_480 ?_
        refine g_callV2 (c_setOrder_s (h := h) M ni nd nj p q hp hq hpq R1 e6 e7) mw_3_225 ok_X9_setOrder ⟨by decide, by decide⟩ (by first | assumption | exact lay_item (by omega) | exact lay_drive (by omega) | exact lay_job (by omega) | rfl) (by omega) rfl (by omega) (by omega) (Nat.le_of_ble_eq_true rfl) dL_sets_482 (dI_K ?_)
        refine g_ild7 dL_sets_485 ?_
        refine g_icmp_ne_f (tgt := 507) dL_sets_487 (by decide) rfl ?_
        show Go _ _ _ _ _ _ 490 _ _
        refine g_ald0 dL_sets_490 ?_
        refine g_ild5 dL_sets_491 ?_
        refine g_ild5 dL_sets_493 ?_
        refine g_callV2 (c_setOrder_2 (h := h) p hp) mw_3_225 ok_X9_setOrder ⟨by decide, by decide⟩ (by first | assumption | exact lay_item (by omega) | exact lay_drive (by omega) | exact lay_job (by omega) | rfl) (by omega) rfl (by omega) (by omega) (Nat.le_of_ble_eq_true rfl) dL_sets_495 (dI_K ?_)
        refine g_bipush (v := -2) dL_sets_498 (by decide +kernel) ?_
        refine g_icmp_ne_f (tgt := 507) dL_sets_500 (by decide) rfl ?_
        show Go _ _ _ _ _ _ 503 _ _
        refine g_iconst (v := nI 1) dL_sets_503 (by decide +kernel) ?_
        refine g_goto (tgt := 508) dL_sets_504 (by decide) ?_
        exact g_zret rfl rfl dL_sets_508 ⟨1, rfl, rfl, _, hL, rb_ordS R1 hi hd hj _ _ e6 e7, inv_ord hI, xt_ord hX⟩
      · skip
        refine g_ald1 dL_sets_422 ?_
        refine g_bipush (v := nI 6) dL_sets_423 (by decide +kernel) ?_
        first | refine g_ildr Rw.g rfl (by omega) rfl (by omega) dL_sets_425 hL (v := (nI p)) e6 ?_ | refine g_ildr Rw.t rfl (by omega) rfl (by omega) dL_sets_425 hL (v := (nI p)) e6 ?_ | refine g_ildr Rw.d rfl (by omega) rfl (by omega) dL_sets_425 hL (v := (nI p)) e6 ?_ | refine g_ildr Rw.a rfl (by omega) rfl (by omega) dL_sets_425 hL (v := (nI p)) e6 ?_ | refine g_ildr Rw.b rfl (by omega) rfl (by omega) dL_sets_425 hL (v := (nI p)) e6 ?_ | refine g_ildr Rw.c rfl (by omega) rfl (by omega) dL_sets_425 hL (v := (nI p)) e6 ?_
        refine g_ild5 dL_sets_426 ?_
        refine g_icmp_ne_f (tgt := 445) dL_sets_428 (by decide) rfl ?_
        show Go _ _ _ _ _ _ 431 _ _
        refine g_ald1 dL_sets_431 ?_
        refine g_bipush (v := nI 7) dL_sets_432 (by decide +kernel) ?_
        first | refine g_ildr Rw.g rfl (by omega) rfl (by omega) dL_sets_434 hL rfl ?_ | refine g_ildr Rw.t rfl (by omega) rfl (by omega) dL_sets_434 hL rfl ?_ | refine g_ildr Rw.d rfl (by omega) rfl (by omega) dL_sets_434 hL rfl ?_ | refine g_ildr Rw.a rfl (by omega) rfl (by omega) dL_sets_434 hL rfl ?_ | refine g_ildr Rw.b rfl (by omega) rfl (by omega) dL_sets_434 hL rfl ?_ | refine g_ildr Rw.c rfl (by omega) rfl (by omega) dL_sets_434 hL rfl ?_
        refine g_ild6 dL_sets_435 ?_
        refine g_icmp_ne_t (tgt := 445) dL_sets_437 (by decide) e7 ?_
        refine g_iconst (v := nI 3) dL_sets_445 (by decide +kernel) ?_
        show Go _ _ _ _ _ _ 446 _ _
        refine g_ild5 dL_sets_446 ?_
        refine g_isub dL_sets_448 ?_
        refine g_ild6 dL_sets_449 ?_
        refine g_isub dL_sets_451 ?_
        refine g_ist7 (by decide) dL_sets_452 ?_
        refine g_ald1 dL_sets_454 ?_
        show Go _ _ _ _ _ _ 455 _ _
        refine g_bipush (v := nI 6) dL_sets_455 (by decide +kernel) ?_
        refine g_ild5 dL_sets_457 ?_
        first | refine g_istr Rw.g rfl (by omega) rfl (by omega) dL_sets_459 hL hK ?_ | refine g_istr Rw.t rfl (by omega) rfl (by omega) dL_sets_459 hL hK ?_ | refine g_istr Rw.d rfl (by omega) rfl (by omega) dL_sets_459 hL hK ?_ | refine g_istr Rw.a rfl (by omega) rfl (by omega) dL_sets_459 hL hK ?_ | refine g_istr Rw.b rfl (by omega) rfl (by omega) dL_sets_459 hL hK ?_ | refine g_istr Rw.c rfl (by omega) rfl (by omega) dL_sets_459 hL hK ?_
        intro h hL hK
        refine g_ald1 dL_sets_460 ?_
        refine g_bipush (v := nI 7) dL_sets_461 (by decide +kernel) ?_
        refine g_ild6 dL_sets_463 ?_
        show Go _ _ _ _ _ _ 465 _ _
        first | refine g_istr Rw.g rfl (by omega) rfl (by omega) dL_sets_465 hL hK ?_ | refine g_istr Rw.t rfl (by omega) rfl (by omega) dL_sets_465 hL hK ?_ | refine g_istr Rw.d rfl (by omega) rfl (by omega) dL_sets_465 hL hK ?_ | refine g_istr Rw.a rfl (by omega) rfl (by omega) dL_sets_465 hL hK ?_ | refine g_istr Rw.b rfl (by omega) rfl (by omega) dL_sets_465 hL hK ?_ | refine g_istr Rw.c rfl (by omega) rfl (by omega) dL_sets_465 hL hK ?_
        intro h hL hK
        refine g_ald1 dL_sets_466 ?_
        refine g_bipush (v := nI 8) dL_sets_467 (by decide +kernel) ?_
        refine g_iconst (v := nI 3) dL_sets_469 (by decide +kernel) ?_
        refine g_ild5 dL_sets_470 ?_
        refine g_isub dL_sets_472 ?_
        show Go _ _ _ _ _ _ 473 _ _
        refine g_ild6 dL_sets_473 ?_
        refine g_isub dL_sets_475 ?_
        first | refine g_istr Rw.g rfl (by omega) rfl (by omega) dL_sets_476 hL hK ?_ | refine g_istr Rw.t rfl (by omega) rfl (by omega) dL_sets_476 hL hK ?_ | refine g_istr Rw.d rfl (by omega) rfl (by omega) dL_sets_476 hL hK ?_ | refine g_istr Rw.a rfl (by omega) rfl (by omega) dL_sets_476 hL hK ?_ | refine g_istr Rw.b rfl (by omega) rfl (by omega) dL_sets_476 hL hK ?_ | refine g_istr Rw.c rfl (by omega) rfl (by omega) dL_sets_476 hL hK ?_
        intro h hL hK
        have hL : Lw h (mOrd M (nI p) (nI q)) := hL
        have R1 := hR.kr hi hd hj hK
        refine g_ald0 dL_sets_477 ?_
        refine g_ild5 dL_sets_478 ?_
        refine g_ild6 dL_sets_480 ?_
        show Go _ _ _ _ _ _ 482 _ _
        refine g_callV2 (c_setOrder (h := h) M ni nd nj p q hp hq hpq R1 hi hd hj hC (fun z => e7 z.2)) mw_3_225 ok_X9_setOrder ⟨by decide, by decide⟩ (by first | assumption | exact lay_item (by omega) | exact lay_drive (by omega) | exact lay_job (by omega) | rfl) (by omega) rfl (by omega) (by omega) (Nat.le_of_ble_eq_true rfl) dL_sets_482 (rI_K ?_)
        rintro r h2 ⟨rfl, R2, K2⟩
        refine g_ild7 dL_sets_485 ?_
        refine g_icmp_ne_f (tgt := 507) dL_sets_487 (by decide) rfl ?_
        refine g_ald0 dL_sets_490 ?_
        refine g_ild5 dL_sets_491 ?_
        refine g_ild5 dL_sets_493 ?_
        show Go _ _ _ _ _ _ 495 _ _
        refine g_callV2 (c_setOrder_2 (h := h2) p hp) mw_3_225 ok_X9_setOrder ⟨by decide, by decide⟩ (by first | assumption | exact lay_item (by omega) | exact lay_drive (by omega) | exact lay_job (by omega) | rfl) (by omega) rfl (by omega) (by omega) (Nat.le_of_ble_eq_true rfl) dL_sets_495 (dI_K ?_)
        refine g_bipush (v := -2) dL_sets_498 (by decide +kernel) ?_
        refine g_icmp_ne_f (tgt := 507) dL_sets_500 (by decide) rfl ?_
        refine g_iconst (v := nI 1) dL_sets_503 (by decide +kernel) ?_
        refine g_goto (tgt := 508) dL_sets_504 (by decide) ?_
        exact g_zret rfl rfl dL_sets_508 ⟨1, rfl, rfl, _, hL.kl K2, R2, inv_ord hI, xt_ord hX⟩
    · skip
      refine g_ald1 dL_sets_422 ?_
      refine g_bipush (v := nI 6) dL_sets_423 (by decide +kernel) ?_
      first | refine g_ildr Rw.g rfl (by omega) rfl (by omega) dL_sets_425 hL rfl ?_ | refine g_ildr Rw.t rfl (by omega) rfl (by omega) dL_sets_425 hL rfl ?_ | refine g_ildr Rw.d rfl (by omega) rfl (by omega) dL_sets_425 hL rfl ?_ | refine g_ildr Rw.a rfl (by omega) rfl (by omega) dL_sets_425 hL rfl ?_ | refine g_ildr Rw.b rfl (by omega) rfl (by omega) dL_sets_425 hL rfl ?_ | refine g_ildr Rw.c rfl (by omega) rfl (by omega) dL_sets_425 hL rfl ?_
      refine g_ild5 dL_sets_426 ?_
      refine g_icmp_ne_t (tgt := 445) dL_sets_428 (by decide) e6 ?_
      show Go _ _ _ _ _ _ 445 _ _
      refine g_iconst (v := nI 3) dL_sets_445 (by decide +kernel) ?_
      refine g_ild5 dL_sets_446 ?_
      refine g_isub dL_sets_448 ?_
      refine g_ild6 dL_sets_449 ?_
      refine g_isub dL_sets_451 ?_
      refine g_ist7 (by decide) dL_sets_452 ?_
      show Go _ _ _ _ _ _ 454 _ _
      refine g_ald1 dL_sets_454 ?_
      refine g_bipush (v := nI 6) dL_sets_455 (by decide +kernel) ?_
      refine g_ild5 dL_sets_457 ?_
      first | refine g_istr Rw.g rfl (by omega) rfl (by omega) dL_sets_459 hL hK ?_ | refine g_istr Rw.t rfl (by omega) rfl (by omega) dL_sets_459 hL hK ?_ | refine g_istr Rw.d rfl (by omega) rfl (by omega) dL_sets_459 hL hK ?_ | refine g_istr Rw.a rfl (by omega) rfl (by omega) dL_sets_459 hL hK ?_ | refine g_istr Rw.b rfl (by omega) rfl (by omega) dL_sets_459 hL hK ?_ | refine g_istr Rw.c rfl (by omega) rfl (by omega) dL_sets_459 hL hK ?_
      intro h hL hK
      refine g_ald1 dL_sets_460 ?_
      refine g_bipush (v := nI 7) dL_sets_461 (by decide +kernel) ?_
      show Go _ _ _ _ _ _ 463 _ _
      refine g_ild6 dL_sets_463 ?_
      first | refine g_istr Rw.g rfl (by omega) rfl (by omega) dL_sets_465 hL hK ?_ | refine g_istr Rw.t rfl (by omega) rfl (by omega) dL_sets_465 hL hK ?_ | refine g_istr Rw.d rfl (by omega) rfl (by omega) dL_sets_465 hL hK ?_ | refine g_istr Rw.a rfl (by omega) rfl (by omega) dL_sets_465 hL hK ?_ | refine g_istr Rw.b rfl (by omega) rfl (by omega) dL_sets_465 hL hK ?_ | refine g_istr Rw.c rfl (by omega) rfl (by omega) dL_sets_465 hL hK ?_
      intro h hL hK
      refine g_ald1 dL_sets_466 ?_
      refine g_bipush (v := nI 8) dL_sets_467 (by decide +kernel) ?_
      refine g_iconst (v := nI 3) dL_sets_469 (by decide +kernel) ?_
      refine g_ild5 dL_sets_470 ?_
      show Go _ _ _ _ _ _ 472 _ _
      refine g_isub dL_sets_472 ?_
      refine g_ild6 dL_sets_473 ?_
      refine g_isub dL_sets_475 ?_
      first | refine g_istr Rw.g rfl (by omega) rfl (by omega) dL_sets_476 hL hK ?_ | refine g_istr Rw.t rfl (by omega) rfl (by omega) dL_sets_476 hL hK ?_ | refine g_istr Rw.d rfl (by omega) rfl (by omega) dL_sets_476 hL hK ?_ | refine g_istr Rw.a rfl (by omega) rfl (by omega) dL_sets_476 hL hK ?_ | refine g_istr Rw.b rfl (by omega) rfl (by omega) dL_sets_476 hL hK ?_ | refine g_istr Rw.c rfl (by omega) rfl (by omega) dL_sets_476 hL hK ?_
      intro h hL hK
      have hL : Lw h (mOrd M (nI p) (nI q)) := hL
      have R1 := hR.kr hi hd hj hK
      refine g_ald0 dL_sets_477 ?_
      refine g_ild5 dL_sets_478 ?_
      show Go _ _ _ _ _ _ 480 _ _
      refine g_ild6 dL_sets_480 ?_
      refine g_callV2 (c_setOrder (h := h) M ni nd nj p q hp hq hpq R1 hi hd hj hC (fun z => e6 z.1)) mw_3_225 ok_X9_setOrder ⟨by decide, by decide⟩ (by first | assumption | exact lay_item (by omega) | exact lay_drive (by omega) | exact lay_job (by omega) | rfl) (by omega) rfl (by omega) (by omega) (Nat.le_of_ble_eq_true rfl) dL_sets_482 (rI_K ?_)
      rintro r h2 ⟨rfl, R2, K2⟩
      refine g_ild7 dL_sets_485 ?_
      refine g_icmp_ne_f (tgt := 507) dL_sets_487 (by decide) rfl ?_
      refine g_ald0 dL_sets_490 ?_
      refine g_ild5 dL_sets_491 ?_
      show Go _ _ _ _ _ _ 493 _ _
      refine g_ild5 dL_sets_493 ?_
      refine g_callV2 (c_setOrder_2 (h := h2) p hp) mw_3_225 ok_X9_setOrder ⟨by decide, by decide⟩ (by first | assumption | exact lay_item (by omega) | exact lay_drive (by omega) | exact lay_job (by omega) | rfl) (by omega) rfl (by omega) (by omega) (Nat.le_of_ble_eq_true rfl) dL_sets_495 (dI_K ?_)
      refine g_bipush (v := -2) dL_sets_498 (by decide +kernel) ?_
      refine g_icmp_ne_f (tgt := 507) dL_sets_500 (by decide) rfl ?_
      refine g_iconst (v := nI 1) dL_sets_503 (by decide +kernel) ?_
      refine g_goto (tgt := 508) dL_sets_504 (by decide) ?_
      show Go _ _ _ _ _ _ 508 _ _
      exact g_zret rfl rfl dL_sets_508 ⟨1, rfl, rfl, _, hL.kl K2, R2, inv_ord hI, xt_ord hX⟩
  have k393 : Go G mL_sets 456 (rI (fun r h' => r = 1 ∧ ∃ M', Tn h' M' ni nd nj T)) h 456 393 [some (ga G 0), some (ga G 449), some (ga G 450), some (ga G 452), some (.int x), none, none, none] [] := by
    refine g_ild4 dL_sets_393 ?_
    refine g_bipush (v := nI 6) dL_sets_395 (by decide +kernel) ?_
    refine g_ishr dL_sets_397 ?_
    refine g_iconst (v := nI 3) dL_sets_398 (by decide +kernel) ?_
    refine g_callS2 (l_low (h := h) _ 3 (by omega) (by omega)) mw_2_118 ok_L_low ⟨by decide, by decide⟩ (by omega) (by omega) (Nat.le_of_ble_eq_true rfl) dL_sets_399 (rI_K ?_)
    rintro r h ⟨rfl, p, hp, rfl⟩
    show Go _ _ _ _ _ _ 402 _ _
    refine g_ist5 (by decide) dL_sets_402 ?_
    refine g_ild5 dL_sets_404 ?_
    refine g_iconst (v := nI 1) dL_sets_406 (by decide +kernel) ?_
    first | refine g_iadd_n dL_sets_407 ?_ | refine g_iadd dL_sets_407 ?_
    refine g_ild4 dL_sets_408 ?_
    refine g_bipush (v := nI 9) dL_sets_410 (by decide +kernel) ?_
    show Go _ _ _ _ _ _ 412 _ _
    refine g_ishr dL_sets_412 ?_
    refine g_iconst (v := nI 2) dL_sets_413 (by decide +kernel) ?_
    refine g_callS2 (l_low (h := h) _ 2 (by omega) (by omega)) mw_2_118 ok_L_low ⟨by decide, by decide⟩ (by omega) (by omega) (Nat.le_of_ble_eq_true rfl) dL_sets_414 (rI_K ?_)
    rintro r h ⟨rfl, y, hy, rfl⟩
    first | refine g_iadd_n dL_sets_417 ?_ | refine g_iadd dL_sets_417 ?_
    refine g_iconst (v := nI 3) dL_sets_418 (by decide +kernel) ?_
    refine g_irem dL_sets_419 (by decide) (rem3 ⟨p, hp⟩ ⟨y, hy⟩) ?_
    show Go _ _ _ _ _ _ 420 _ _
    refine g_ist6 (by decide) dL_sets_420 ?_
    exact k422 p ((p + 1 + y) % 3) hp (Nat.mod_lt _ (by omega)) (by omega)
  have k284 : ∀ i u, i < ni → 1 ≤ u → u ≤ 4 → Go G mL_sets 456 (rI (fun r h' => r = 1 ∧ ∃ M', Tn h' M' ni nd nj T)) h 456 284 [some (ga G 0), some (ga G 449), some (ga G 450), some (ga G 452), some (.int x), some (.int (nI i)), some (.int (nI u)), none] [] := by
    intro i u hi9 hu1 hu4
    have hu : nI 1 ≤ nI u ∧ nI u ≤ nI 50 := ⟨nI_le (by omega) (by omega), nI_le (by omega) (by omega)⟩
    rcases hC i hi9 with hc | hc
    · skip
      refine g_ald2 dL_sets_284 ?_
      refine g_bipush (v := nI 6) dL_sets_285 (by decide +kernel) ?_
      refine g_ild5 dL_sets_287 ?_
      first | refine g_imul_n dL_sets_289 ?_ | refine g_imul dL_sets_289 ?_
      first | refine g_ildr Rw.g rfl (by omega) rfl (by omega) dL_sets_290 hL (v := (0 : Int32)) hc ?_ | refine g_ildr Rw.t rfl (by omega) rfl (by omega) dL_sets_290 hL (v := (0 : Int32)) hc ?_ | refine g_ildr Rw.d rfl (by omega) rfl (by omega) dL_sets_290 hL (v := (0 : Int32)) hc ?_ | refine g_ildr Rw.a rfl (by omega) rfl (by omega) dL_sets_290 hL (v := (0 : Int32)) hc ?_ | refine g_ildr Rw.b rfl (by omega) rfl (by omega) dL_sets_290 hL (v := (0 : Int32)) hc ?_ | refine g_ildr Rw.c rfl (by omega) rfl (by omega) dL_sets_290 hL (v := (0 : Int32)) hc ?_
      show Go _ _ _ _ _ _ 291 _ _
      refine g_if_ne_f (tgt := 299) dL_sets_291 (by decide) rfl ?_
      refine g_bipush (v := -4) dL_sets_294 (by decide +kernel) ?_
      refine g_goto (tgt := 327) dL_sets_296 (by decide) ?_
      refine g_ist7 (by decide) dL_sets_327 ?_
      refine g_ald2 dL_sets_329 ?_
      refine g_bipush (v := nI 6) dL_sets_330 (by decide +kernel) ?_
      show Go _ _ _ _ _ _ 332 _ _
      refine g_ild5 dL_sets_332 ?_
      first | refine g_imul_n dL_sets_334 ?_ | refine g_imul dL_sets_334 ?_
      refine g_iconst (v := nI 3) dL_sets_335 (by decide +kernel) ?_
      first | refine g_iadd_n dL_sets_336 ?_ | refine g_iadd dL_sets_336 ?_
      refine g_ald2 dL_sets_337 ?_
      refine g_bipush (v := nI 6) dL_sets_338 (by decide +kernel) ?_
      show Go _ _ _ _ _ _ 340 _ _
      refine g_ild5 dL_sets_340 ?_
      first | refine g_imul_n dL_sets_342 ?_ | refine g_imul dL_sets_342 ?_
      first | refine g_ildr Rw.g rfl (by omega) rfl (by omega) dL_sets_343 hL (v := (0 : Int32)) hc ?_ | refine g_ildr Rw.t rfl (by omega) rfl (by omega) dL_sets_343 hL (v := (0 : Int32)) hc ?_ | refine g_ildr Rw.d rfl (by omega) rfl (by omega) dL_sets_343 hL (v := (0 : Int32)) hc ?_ | refine g_ildr Rw.a rfl (by omega) rfl (by omega) dL_sets_343 hL (v := (0 : Int32)) hc ?_ | refine g_ildr Rw.b rfl (by omega) rfl (by omega) dL_sets_343 hL (v := (0 : Int32)) hc ?_ | refine g_ildr Rw.c rfl (by omega) rfl (by omega) dL_sets_343 hL (v := (0 : Int32)) hc ?_
      refine g_if_ne_f (tgt := 359) dL_sets_344 (by decide) rfl ?_
      refine g_ald2 dL_sets_347 ?_
      refine g_bipush (v := nI 6) dL_sets_348 (by decide +kernel) ?_
      show Go _ _ _ _ _ _ 350 _ _
      refine g_ild5 dL_sets_350 ?_
      first | refine g_imul_n dL_sets_352 ?_ | refine g_imul dL_sets_352 ?_
      refine g_iconst (v := nI 3) dL_sets_353 (by decide +kernel) ?_
      first | refine g_iadd_n dL_sets_354 ?_ | refine g_iadd dL_sets_354 ?_
      first | refine g_ildr Rw.g rfl (by omega) rfl (by omega) dL_sets_355 hL rfl ?_ | refine g_ildr Rw.t rfl (by omega) rfl (by omega) dL_sets_355 hL rfl ?_ | refine g_ildr Rw.d rfl (by omega) rfl (by omega) dL_sets_355 hL rfl ?_ | refine g_ildr Rw.a rfl (by omega) rfl (by omega) dL_sets_355 hL rfl ?_ | refine g_ildr Rw.b rfl (by omega) rfl (by omega) dL_sets_355 hL rfl ?_ | refine g_ildr Rw.c rfl (by omega) rfl (by omega) dL_sets_355 hL rfl ?_
      refine g_goto (tgt := 361) dL_sets_356 (by decide) ?_
      show Go _ _ _ _ _ _ 361 _ _
      first | refine g_istr Rw.g rfl (by omega) rfl (by omega) dL_sets_361 hL hK ?_ | refine g_istr Rw.t rfl (by omega) rfl (by omega) dL_sets_361 hL hK ?_ | refine g_istr Rw.d rfl (by omega) rfl (by omega) dL_sets_361 hL hK ?_ | refine g_istr Rw.a rfl (by omega) rfl (by omega) dL_sets_361 hL hK ?_ | refine g_istr Rw.b rfl (by omega) rfl (by omega) dL_sets_361 hL hK ?_ | refine g_istr Rw.c rfl (by omega) rfl (by omega) dL_sets_361 hL hK ?_
      intro h hL hK
      rw [up_same] at hL
      have R1 := hR.kr hi hd hj hK
      refine g_ald0 dL_sets_362 ?_
      refine g_ild5 dL_sets_363 ?_
      refine g_ild6 dL_sets_365 ?_
      refine g_callV2 (c_refill_4 (h := h) M ni nd nj i (nI u) R1 hi hi9 hu hc) mw_3_221 ok_X9_refill ⟨by decide, by decide⟩ (by first | assumption | exact lay_item (by omega) | exact lay_drive (by omega) | exact lay_job (by omega) | rfl) (by omega) rfl (by omega) (by omega) (Nat.le_of_ble_eq_true rfl) dL_sets_367 (dI_K ?_)
      refine g_ild7 dL_sets_370 ?_
      show Go _ _ _ _ _ _ 372 _ _
      refine g_icmp_ne_f (tgt := 391) dL_sets_372 (by decide) rfl ?_
      refine g_ald0 dL_sets_375 ?_
      refine g_ild5 dL_sets_376 ?_
      refine g_iconst (v := nI 0) dL_sets_378 (by decide +kernel) ?_
      refine g_callV2 (c_refill_2 (h := h) i ni (nI 0) R1.2.2.2.2.2.2.2 R1.2.1.1 (by omega) hi9 (by decide)) mw_3_221 ok_X9_refill ⟨by decide, by decide⟩ (by first | assumption | exact lay_item (by omega) | exact lay_drive (by omega) | exact lay_job (by omega) | rfl) (by omega) rfl (by omega) (by omega) (Nat.le_of_ble_eq_true rfl) dL_sets_379 (dI_K ?_)
      refine g_bipush (v := -2) dL_sets_382 (by decide +kernel) ?_
      show Go _ _ _ _ _ _ 384 _ _
      refine g_icmp_ne_f (tgt := 391) dL_sets_384 (by decide) rfl ?_
      refine g_iconst (v := nI 1) dL_sets_387 (by decide +kernel) ?_
      refine g_goto (tgt := 392) dL_sets_388 (by decide) ?_
      exact g_zret rfl rfl dL_sets_392 ⟨1, rfl, rfl, M, hL, R1, hI, hX⟩
    · by_cases hs : M.1 1 (6 * i + 3) = nI u
      · skip
        refine g_ald2 dL_sets_284 ?_
        refine g_bipush (v := nI 6) dL_sets_285 (by decide +kernel) ?_
        refine g_ild5 dL_sets_287 ?_
        first | refine g_imul_n dL_sets_289 ?_ | refine g_imul dL_sets_289 ?_
        first | refine g_ildr Rw.g rfl (by omega) rfl (by omega) dL_sets_290 hL (v := (1 : Int32)) hc ?_ | refine g_ildr Rw.t rfl (by omega) rfl (by omega) dL_sets_290 hL (v := (1 : Int32)) hc ?_ | refine g_ildr Rw.d rfl (by omega) rfl (by omega) dL_sets_290 hL (v := (1 : Int32)) hc ?_ | refine g_ildr Rw.a rfl (by omega) rfl (by omega) dL_sets_290 hL (v := (1 : Int32)) hc ?_ | refine g_ildr Rw.b rfl (by omega) rfl (by omega) dL_sets_290 hL (v := (1 : Int32)) hc ?_ | refine g_ildr Rw.c rfl (by omega) rfl (by omega) dL_sets_290 hL (v := (1 : Int32)) hc ?_
        show Go _ _ _ _ _ _ 291 _ _
        refine g_if_ne_t (tgt := 299) dL_sets_291 (by decide) (by decide) ?_
        refine g_ald2 dL_sets_299 ?_
        refine g_bipush (v := nI 6) dL_sets_300 (by decide +kernel) ?_
        refine g_ild5 dL_sets_302 ?_
        first | refine g_imul_n dL_sets_304 ?_ | refine g_imul dL_sets_304 ?_
        refine g_iconst (v := nI 3) dL_sets_305 (by decide +kernel) ?_
        show Go _ _ _ _ _ _ 306 _ _
        first | refine g_iadd_n dL_sets_306 ?_ | refine g_iadd dL_sets_306 ?_
        first | refine g_ildr Rw.g rfl (by omega) rfl (by omega) dL_sets_307 hL (v := (nI u)) hs ?_ | refine g_ildr Rw.t rfl (by omega) rfl (by omega) dL_sets_307 hL (v := (nI u)) hs ?_ | refine g_ildr Rw.d rfl (by omega) rfl (by omega) dL_sets_307 hL (v := (nI u)) hs ?_ | refine g_ildr Rw.a rfl (by omega) rfl (by omega) dL_sets_307 hL (v := (nI u)) hs ?_ | refine g_ildr Rw.b rfl (by omega) rfl (by omega) dL_sets_307 hL (v := (nI u)) hs ?_ | refine g_ildr Rw.c rfl (by omega) rfl (by omega) dL_sets_307 hL (v := (nI u)) hs ?_
        refine g_ild6 dL_sets_308 ?_
        refine g_icmp_ne_f (tgt := 318) dL_sets_310 (by decide) rfl ?_
        refine g_bipush (v := -5) dL_sets_313 (by decide +kernel) ?_
        refine g_goto (tgt := 327) dL_sets_315 (by decide) ?_
        show Go _ _ _ _ _ _ 327 _ _
        refine g_ist7 (by decide) dL_sets_327 ?_
        refine g_ald2 dL_sets_329 ?_
        refine g_bipush (v := nI 6) dL_sets_330 (by decide +kernel) ?_
        refine g_ild5 dL_sets_332 ?_
        first | refine g_imul_n dL_sets_334 ?_ | refine g_imul dL_sets_334 ?_
        refine g_iconst (v := nI 3) dL_sets_335 (by decide +kernel) ?_
        show Go _ _ _ _ _ _ 336 _ _
        first | refine g_iadd_n dL_sets_336 ?_ | refine g_iadd dL_sets_336 ?_
        refine g_ald2 dL_sets_337 ?_
        refine g_bipush (v := nI 6) dL_sets_338 (by decide +kernel) ?_
        refine g_ild5 dL_sets_340 ?_
        first | refine g_imul_n dL_sets_342 ?_ | refine g_imul dL_sets_342 ?_
        first | refine g_ildr Rw.g rfl (by omega) rfl (by omega) dL_sets_343 hL (v := (1 : Int32)) hc ?_ | refine g_ildr Rw.t rfl (by omega) rfl (by omega) dL_sets_343 hL (v := (1 : Int32)) hc ?_ | refine g_ildr Rw.d rfl (by omega) rfl (by omega) dL_sets_343 hL (v := (1 : Int32)) hc ?_ | refine g_ildr Rw.a rfl (by omega) rfl (by omega) dL_sets_343 hL (v := (1 : Int32)) hc ?_ | refine g_ildr Rw.b rfl (by omega) rfl (by omega) dL_sets_343 hL (v := (1 : Int32)) hc ?_ | refine g_ildr Rw.c rfl (by omega) rfl (by omega) dL_sets_343 hL (v := (1 : Int32)) hc ?_
        show Go _ _ _ _ _ _ 344 _ _
        refine g_if_ne_t (tgt := 359) dL_sets_344 (by decide) (by decide) ?_
        refine g_ild6 dL_sets_359 ?_
        first | refine g_istr Rw.g rfl (by omega) rfl (by omega) dL_sets_361 hL hK ?_ | refine g_istr Rw.t rfl (by omega) rfl (by omega) dL_sets_361 hL hK ?_ | refine g_istr Rw.d rfl (by omega) rfl (by omega) dL_sets_361 hL hK ?_ | refine g_istr Rw.a rfl (by omega) rfl (by omega) dL_sets_361 hL hK ?_ | refine g_istr Rw.b rfl (by omega) rfl (by omega) dL_sets_361 hL hK ?_ | refine g_istr Rw.c rfl (by omega) rfl (by omega) dL_sets_361 hL hK ?_
        intro h hL hK
        rw [← hs, up_same] at hL
        have R1 := hR.kr hi hd hj hK
        refine g_ald0 dL_sets_362 ?_
        refine g_ild5 dL_sets_363 ?_
        refine g_ild6 dL_sets_365 ?_
        show Go _ _ _ _ _ _ 367 _ _
        refine g_callV2 (c_refill_s (h := h) M ni nd nj i (nI u) R1 hi hi9 hu hc hs) mw_3_221 ok_X9_refill ⟨by decide, by decide⟩ (by first | assumption | exact lay_item (by omega) | exact lay_drive (by omega) | exact lay_job (by omega) | rfl) (by omega) rfl (by omega) (by omega) (Nat.le_of_ble_eq_true rfl) dL_sets_367 (dI_K ?_)
        refine g_ild7 dL_sets_370 ?_
        refine g_icmp_ne_f (tgt := 391) dL_sets_372 (by decide) rfl ?_
        refine g_ald0 dL_sets_375 ?_
        refine g_ild5 dL_sets_376 ?_
        refine g_iconst (v := nI 0) dL_sets_378 (by decide +kernel) ?_
        show Go _ _ _ _ _ _ 379 _ _
        refine g_callV2 (c_refill_2 (h := h) i ni (nI 0) R1.2.2.2.2.2.2.2 R1.2.1.1 (by omega) hi9 (by decide)) mw_3_221 ok_X9_refill ⟨by decide, by decide⟩ (by first | assumption | exact lay_item (by omega) | exact lay_drive (by omega) | exact lay_job (by omega) | rfl) (by omega) rfl (by omega) (by omega) (Nat.le_of_ble_eq_true rfl) dL_sets_379 (dI_K ?_)
        refine g_bipush (v := -2) dL_sets_382 (by decide +kernel) ?_
        refine g_icmp_ne_f (tgt := 391) dL_sets_384 (by decide) rfl ?_
        refine g_iconst (v := nI 1) dL_sets_387 (by decide +kernel) ?_
        refine g_goto (tgt := 392) dL_sets_388 (by decide) ?_
        exact g_zret rfl rfl dL_sets_392 ⟨1, rfl, rfl, M, hL, R1, hI, hX⟩
      · skip
        refine g_ald2 dL_sets_284 ?_
        refine g_bipush (v := nI 6) dL_sets_285 (by decide +kernel) ?_
        refine g_ild5 dL_sets_287 ?_
        first | refine g_imul_n dL_sets_289 ?_ | refine g_imul dL_sets_289 ?_
        first | refine g_ildr Rw.g rfl (by omega) rfl (by omega) dL_sets_290 hL (v := (1 : Int32)) hc ?_ | refine g_ildr Rw.t rfl (by omega) rfl (by omega) dL_sets_290 hL (v := (1 : Int32)) hc ?_ | refine g_ildr Rw.d rfl (by omega) rfl (by omega) dL_sets_290 hL (v := (1 : Int32)) hc ?_ | refine g_ildr Rw.a rfl (by omega) rfl (by omega) dL_sets_290 hL (v := (1 : Int32)) hc ?_ | refine g_ildr Rw.b rfl (by omega) rfl (by omega) dL_sets_290 hL (v := (1 : Int32)) hc ?_ | refine g_ildr Rw.c rfl (by omega) rfl (by omega) dL_sets_290 hL (v := (1 : Int32)) hc ?_
        show Go _ _ _ _ _ _ 291 _ _
        refine g_if_ne_t (tgt := 299) dL_sets_291 (by decide) (by decide) ?_
        refine g_ald2 dL_sets_299 ?_
        refine g_bipush (v := nI 6) dL_sets_300 (by decide +kernel) ?_
        refine g_ild5 dL_sets_302 ?_
        first | refine g_imul_n dL_sets_304 ?_ | refine g_imul dL_sets_304 ?_
        refine g_iconst (v := nI 3) dL_sets_305 (by decide +kernel) ?_
        show Go _ _ _ _ _ _ 306 _ _
        first | refine g_iadd_n dL_sets_306 ?_ | refine g_iadd dL_sets_306 ?_
        first | refine g_ildr Rw.g rfl (by omega) rfl (by omega) dL_sets_307 hL rfl ?_ | refine g_ildr Rw.t rfl (by omega) rfl (by omega) dL_sets_307 hL rfl ?_ | refine g_ildr Rw.d rfl (by omega) rfl (by omega) dL_sets_307 hL rfl ?_ | refine g_ildr Rw.a rfl (by omega) rfl (by omega) dL_sets_307 hL rfl ?_ | refine g_ildr Rw.b rfl (by omega) rfl (by omega) dL_sets_307 hL rfl ?_ | refine g_ildr Rw.c rfl (by omega) rfl (by omega) dL_sets_307 hL rfl ?_
        refine g_ild6 dL_sets_308 ?_
        refine g_icmp_ne_t (tgt := 318) dL_sets_310 (by decide) hs ?_
        refine g_ald2 dL_sets_318 ?_
        refine g_bipush (v := nI 6) dL_sets_319 (by decide +kernel) ?_
        show Go _ _ _ _ _ _ 321 _ _
        refine g_ild5 dL_sets_321 ?_
        first | refine g_imul_n dL_sets_323 ?_ | refine g_imul dL_sets_323 ?_
        refine g_iconst (v := nI 3) dL_sets_324 (by decide +kernel) ?_
        first | refine g_iadd_n dL_sets_325 ?_ | refine g_iadd dL_sets_325 ?_
        first | refine g_ildr Rw.g rfl (by omega) rfl (by omega) dL_sets_326 hL rfl ?_ | refine g_ildr Rw.t rfl (by omega) rfl (by omega) dL_sets_326 hL rfl ?_ | refine g_ildr Rw.d rfl (by omega) rfl (by omega) dL_sets_326 hL rfl ?_ | refine g_ildr Rw.a rfl (by omega) rfl (by omega) dL_sets_326 hL rfl ?_ | refine g_ildr Rw.b rfl (by omega) rfl (by omega) dL_sets_326 hL rfl ?_ | refine g_ildr Rw.c rfl (by omega) rfl (by omega) dL_sets_326 hL rfl ?_
        refine g_ist7 (by decide) dL_sets_327 ?_
        show Go _ _ _ _ _ _ 329 _ _
        refine g_ald2 dL_sets_329 ?_
        refine g_bipush (v := nI 6) dL_sets_330 (by decide +kernel) ?_
        refine g_ild5 dL_sets_332 ?_
        first | refine g_imul_n dL_sets_334 ?_ | refine g_imul dL_sets_334 ?_
        refine g_iconst (v := nI 3) dL_sets_335 (by decide +kernel) ?_
        first | refine g_iadd_n dL_sets_336 ?_ | refine g_iadd dL_sets_336 ?_
        show Go _ _ _ _ _ _ 337 _ _
        refine g_ald2 dL_sets_337 ?_
        refine g_bipush (v := nI 6) dL_sets_338 (by decide +kernel) ?_
        refine g_ild5 dL_sets_340 ?_
        first | refine g_imul_n dL_sets_342 ?_ | refine g_imul dL_sets_342 ?_
        first | refine g_ildr Rw.g rfl (by omega) rfl (by omega) dL_sets_343 hL (v := (1 : Int32)) hc ?_ | refine g_ildr Rw.t rfl (by omega) rfl (by omega) dL_sets_343 hL (v := (1 : Int32)) hc ?_ | refine g_ildr Rw.d rfl (by omega) rfl (by omega) dL_sets_343 hL (v := (1 : Int32)) hc ?_ | refine g_ildr Rw.a rfl (by omega) rfl (by omega) dL_sets_343 hL (v := (1 : Int32)) hc ?_ | refine g_ildr Rw.b rfl (by omega) rfl (by omega) dL_sets_343 hL (v := (1 : Int32)) hc ?_ | refine g_ildr Rw.c rfl (by omega) rfl (by omega) dL_sets_343 hL (v := (1 : Int32)) hc ?_
        refine g_if_ne_t (tgt := 359) dL_sets_344 (by decide) (by decide) ?_
        show Go _ _ _ _ _ _ 359 _ _
        refine g_ild6 dL_sets_359 ?_
        first | refine g_istr Rw.g rfl (by omega) rfl (by omega) dL_sets_361 hL hK ?_ | refine g_istr Rw.t rfl (by omega) rfl (by omega) dL_sets_361 hL hK ?_ | refine g_istr Rw.d rfl (by omega) rfl (by omega) dL_sets_361 hL hK ?_ | refine g_istr Rw.a rfl (by omega) rfl (by omega) dL_sets_361 hL hK ?_ | refine g_istr Rw.b rfl (by omega) rfl (by omega) dL_sets_361 hL hK ?_ | refine g_istr Rw.c rfl (by omega) rfl (by omega) dL_sets_361 hL hK ?_
        intro h hL hK
        have R1 := hR.kr hi hd hj hK
        refine g_ald0 dL_sets_362 ?_
        refine g_ild5 dL_sets_363 ?_
        refine g_ild6 dL_sets_365 ?_
        refine g_callV2 (c_refill (h := h) M ni nd nj i (nI u) R1 hi hd hj hC hi9 hu hc hs) mw_3_221 ok_X9_refill ⟨by decide, by decide⟩ (by first | assumption | exact lay_item (by omega) | exact lay_drive (by omega) | exact lay_job (by omega) | rfl) (by omega) rfl (by omega) (by omega) (Nat.le_of_ble_eq_true rfl) dL_sets_367 (rI_K ?_)
        rintro r h2 ⟨rfl, R2, K2⟩
        show Go _ _ _ _ _ _ 370 _ _
        refine g_ild7 dL_sets_370 ?_
        refine g_icmp_ne_f (tgt := 391) dL_sets_372 (by decide) rfl ?_
        refine g_ald0 dL_sets_375 ?_
        refine g_ild5 dL_sets_376 ?_
        refine g_iconst (v := nI 0) dL_sets_378 (by decide +kernel) ?_
        refine g_callV2 (c_refill_2 (h := h2) i ni (nI 0) R2.2.2.2.2.2.2.2 R2.2.1.1 (by omega) hi9 (by decide)) mw_3_221 ok_X9_refill ⟨by decide, by decide⟩ (by first | assumption | exact lay_item (by omega) | exact lay_drive (by omega) | exact lay_job (by omega) | rfl) (by omega) rfl (by omega) (by omega) (Nat.le_of_ble_eq_true rfl) dL_sets_379 (dI_K ?_)
        show Go _ _ _ _ _ _ 382 _ _
        refine g_bipush (v := -2) dL_sets_382 (by decide +kernel) ?_
        refine g_icmp_ne_f (tgt := 391) dL_sets_384 (by decide) rfl ?_
        refine g_iconst (v := nI 1) dL_sets_387 (by decide +kernel) ?_
        refine g_goto (tgt := 392) dL_sets_388 (by decide) ?_
        exact g_zret rfl rfl dL_sets_392 ⟨1, rfl, rfl, _, hL.kl K2, R2, inv_refill hI hc, xt_refill hX⟩
  have k239 : Go G mL_sets 456 (rI (fun r h' => r = 1 ∧ ∃ M', Tn h' M' ni nd nj T)) h 456 239 [some (ga G 0), some (ga G 449), some (ga G 450), some (ga G 452), some (.int x), none, none, none] [] := by
    rcases Nat.eq_zero_or_pos ni with hz | hpos
    · skip
      refine g_ild4 dL_sets_239 ?_
      refine g_iconst (v := nI 4) dL_sets_241 (by decide +kernel) ?_
      refine g_ishr dL_sets_242 ?_
      refine g_iconst (v := nI 2) dL_sets_243 (by decide +kernel) ?_
      refine g_callS2 (l_low (h := h) _ 2 (by omega) (by omega)) mw_2_118 ok_L_low ⟨by decide, by decide⟩ (by omega) (by omega) (Nat.le_of_ble_eq_true rfl) dL_sets_244 (rI_K ?_)
      rintro r h ⟨rfl, p, hp, rfl⟩
      show Go _ _ _ _ _ _ 247 _ _
      refine g_if_ne (tgt := 393) dL_sets_247 (by decide) (fun c_247 => ?_) (fun c_247 => ?_)
      · skip
        exact k393
      · skip
        refine g_ald1 dL_sets_250 ?_
        refine g_bipush (v := nI 9) dL_sets_251 (by decide +kernel) ?_
        first | refine g_ildr Rw.g rfl (by omega) rfl (by omega) dL_sets_253 hL (v := (nI ni)) z1 ?_ | refine g_ildr Rw.t rfl (by omega) rfl (by omega) dL_sets_253 hL (v := (nI ni)) z1 ?_ | refine g_ildr Rw.d rfl (by omega) rfl (by omega) dL_sets_253 hL (v := (nI ni)) z1 ?_ | refine g_ildr Rw.a rfl (by omega) rfl (by omega) dL_sets_253 hL (v := (nI ni)) z1 ?_ | refine g_ildr Rw.b rfl (by omega) rfl (by omega) dL_sets_253 hL (v := (nI ni)) z1 ?_ | refine g_ildr Rw.c rfl (by omega) rfl (by omega) dL_sets_253 hL (v := (nI ni)) z1 ?_
        refine g_if_le_t (tgt := 393) dL_sets_254 (by decide) (by rw [hz]; decide) ?_
        exact k393
    · skip
      refine g_ild4 dL_sets_239 ?_
      refine g_iconst (v := nI 4) dL_sets_241 (by decide +kernel) ?_
      refine g_ishr dL_sets_242 ?_
      refine g_iconst (v := nI 2) dL_sets_243 (by decide +kernel) ?_
      refine g_callS2 (l_low (h := h) _ 2 (by omega) (by omega)) mw_2_118 ok_L_low ⟨by decide, by decide⟩ (by omega) (by omega) (Nat.le_of_ble_eq_true rfl) dL_sets_244 (rI_K ?_)
      rintro r h ⟨rfl, p, hp, rfl⟩
      show Go _ _ _ _ _ _ 247 _ _
      refine g_if_ne (tgt := 393) dL_sets_247 (by decide) (fun c_247 => ?_) (fun c_247 => ?_)
      · skip
        exact k393
      · skip
        refine g_ald1 dL_sets_250 ?_
        refine g_bipush (v := nI 9) dL_sets_251 (by decide +kernel) ?_
        first | refine g_ildr Rw.g rfl (by omega) rfl (by omega) dL_sets_253 hL (v := (nI ni)) z1 ?_ | refine g_ildr Rw.t rfl (by omega) rfl (by omega) dL_sets_253 hL (v := (nI ni)) z1 ?_ | refine g_ildr Rw.d rfl (by omega) rfl (by omega) dL_sets_253 hL (v := (nI ni)) z1 ?_ | refine g_ildr Rw.a rfl (by omega) rfl (by omega) dL_sets_253 hL (v := (nI ni)) z1 ?_ | refine g_ildr Rw.b rfl (by omega) rfl (by omega) dL_sets_253 hL (v := (nI ni)) z1 ?_ | refine g_ildr Rw.c rfl (by omega) rfl (by omega) dL_sets_253 hL (v := (nI ni)) z1 ?_
        refine g_if_le_f (tgt := 393) dL_sets_254 (by decide) (nI_ge (a := 0) hpos (by omega)) ?_
        refine g_ild4 dL_sets_257 ?_
        show Go _ _ _ _ _ _ 259 _ _
        refine g_bipush (v := nI 6) dL_sets_259 (by decide +kernel) ?_
        refine g_ishr dL_sets_261 ?_
        refine g_ald1 dL_sets_262 ?_
        refine g_bipush (v := nI 9) dL_sets_263 (by decide +kernel) ?_
        first | refine g_ildr Rw.g rfl (by omega) rfl (by omega) dL_sets_265 hL (v := (nI ni)) z1 ?_ | refine g_ildr Rw.t rfl (by omega) rfl (by omega) dL_sets_265 hL (v := (nI ni)) z1 ?_ | refine g_ildr Rw.d rfl (by omega) rfl (by omega) dL_sets_265 hL (v := (nI ni)) z1 ?_ | refine g_ildr Rw.a rfl (by omega) rfl (by omega) dL_sets_265 hL (v := (nI ni)) z1 ?_ | refine g_ildr Rw.b rfl (by omega) rfl (by omega) dL_sets_265 hL (v := (nI ni)) z1 ?_ | refine g_ildr Rw.c rfl (by omega) rfl (by omega) dL_sets_265 hL (v := (nI ni)) z1 ?_
        refine g_callS2 (l_low (h := h) _ ni hpos (by omega)) mw_2_118 ok_L_low ⟨by decide, by decide⟩ (by omega) (by omega) (Nat.le_of_ble_eq_true rfl) dL_sets_266 (rI_K ?_)
        rintro r h ⟨rfl, i, hi9, rfl⟩
        show Go _ _ _ _ _ _ 269 _ _
        refine g_ist5 (by decide) dL_sets_269 ?_
        refine g_iconst (v := nI 1) dL_sets_271 (by decide +kernel) ?_
        refine g_ild4 dL_sets_272 ?_
        refine g_bipush (v := nI 9) dL_sets_274 (by decide +kernel) ?_
        refine g_ishr dL_sets_276 ?_
        refine g_iconst (v := nI 4) dL_sets_277 (by decide +kernel) ?_
        show Go _ _ _ _ _ _ 278 _ _
        refine g_callS2 (l_low (h := h) _ 4 (by omega) (by omega)) mw_2_118 ok_L_low ⟨by decide, by decide⟩ (by omega) (by omega) (Nat.le_of_ble_eq_true rfl) dL_sets_278 (rI_K ?_)
        rintro r h ⟨rfl, u, hu, rfl⟩
        first | refine g_iadd_n dL_sets_281 ?_ | refine g_iadd dL_sets_281 ?_
        refine g_ist6 (by decide) dL_sets_282 ?_
        exact k284 i (1 + u) hi9 (by omega) (by omega)
  have k150 : ∀ k w, k < nd → 1 ≤ w → w ≤ 12 → Go G mL_sets 456 (rI (fun r h' => r = 1 ∧ ∃ M', Tn h' M' ni nd nj T)) h 456 150 [some (ga G 0), some (ga G 449), some (ga G 450), some (ga G 452), some (.int x), some (.int (nI k)), some (.int (nI w)), none] [] := by
    intro k w hk hw1 hw12
    have hw8 : 8 * w < 256 := by omega
    have h8 : 8 ≤ 8 * w := by omega
    have hwd : FP.i2d (nI w) = FP.f2d (fval (8 * w)) := fv_c ⟨w, by omega⟩
    by_cases c : M.2 (2 * k + 1) = fval (8 * w)
    · skip
      refine g_ald3 dL_sets_150 ?_
      refine g_iconst (v := nI 2) dL_sets_151 (by decide +kernel) ?_
      refine g_ild5 dL_sets_152 ?_
      first | refine g_imul_n dL_sets_154 ?_ | refine g_imul dL_sets_154 ?_
      refine g_iconst (v := nI 1) dL_sets_155 (by decide +kernel) ?_
      show Go _ _ _ _ _ _ 156 _ _
      first | refine g_iadd_n dL_sets_156 ?_ | refine g_iadd dL_sets_156 ?_
      refine g_dldr rfl (by omega) rfl (by omega) dL_sets_157 hL rfl ?_
      refine g_ild6 dL_sets_158 ?_
      refine g_i2d_v dL_sets_160 hwd ?_
      refine g_dcmp dL_sets_161 ?_
      refine g_if_ne_f (tgt := 170) dL_sets_162 (by decide) ((dcmp0 (hf.1 k hk).2 (fv_g hw8)).mpr c) ?_
      show Go _ _ _ _ _ _ 165 _ _
      refine g_bipush (v := -5) dL_sets_165 (by decide +kernel) ?_
      refine g_goto (tgt := 171) dL_sets_167 (by decide) ?_
      refine g_ist7 (by decide) dL_sets_171 ?_
      refine g_ald3 dL_sets_173 ?_
      refine g_iconst (v := nI 2) dL_sets_174 (by decide +kernel) ?_
      refine g_ild5 dL_sets_175 ?_
      show Go _ _ _ _ _ _ 177 _ _
      first | refine g_imul_n dL_sets_177 ?_ | refine g_imul dL_sets_177 ?_
      refine g_iconst (v := nI 1) dL_sets_178 (by decide +kernel) ?_
      first | refine g_iadd_n dL_sets_179 ?_ | refine g_iadd dL_sets_179 ?_
      refine g_ild6 dL_sets_180 ?_
      refine g_i2d_v dL_sets_182 hwd ?_
      refine g_dstr rfl (by omega) rfl (by omega) dL_sets_183 hL hK ?_
      intro h hL hK
      rw [← c, uf_same] at hL
      have R1 := hR.kr hi hd hj hK
      show Go _ _ _ _ _ _ 184 _ _
      refine g_ald0 dL_sets_184 ?_
      refine g_ild5 dL_sets_185 ?_
      refine g_bipush (v := nI 8) dL_sets_187 (by decide +kernel) ?_
      refine g_ild6 dL_sets_189 ?_
      first | refine g_imul_n dL_sets_191 ?_ | refine g_imul dL_sets_191 ?_
      refine g_callS1 (l_bits (h := h) (8 * w) hw8) mw_2_152 ok_L_bits ⟨by decide, by decide⟩ (by omega) (by omega) (Nat.le_of_ble_eq_true rfl) dL_sets_192 (dI_K ?_)
      show Go _ _ _ _ _ _ 195 _ _
      refine g_callV2 (c_setCeiling_s (h := h) k nd (8 * w) hw8 h8 R1.2.2.2.2.2.2.2 R1.2.1.2.1 hd hk ((R1.2.2.2.1 k hk).2.2.1.trans c)) mw_3_215 ok_X9_setCeiling ⟨by decide, by decide⟩ (by first | assumption | exact lay_item (by omega) | exact lay_drive (by omega) | exact lay_job (by omega) | rfl) (by omega) rfl (by omega) (by omega) (Nat.le_of_ble_eq_true rfl) dL_sets_195 (dI_K ?_)
      refine g_ild7 dL_sets_198 ?_
      refine g_icmp_ne_f (tgt := 237) dL_sets_200 (by decide) rfl ?_
      refine g_ald0 dL_sets_203 ?_
      refine g_ald1 dL_sets_204 ?_
      refine g_bipush (v := nI 10) dL_sets_205 (by decide +kernel) ?_
      show Go _ _ _ _ _ _ 207 _ _
      first | refine g_ildr Rw.g rfl (by omega) rfl (by omega) dL_sets_207 hL (v := (nI nd)) z3 ?_ | refine g_ildr Rw.t rfl (by omega) rfl (by omega) dL_sets_207 hL (v := (nI nd)) z3 ?_ | refine g_ildr Rw.d rfl (by omega) rfl (by omega) dL_sets_207 hL (v := (nI nd)) z3 ?_ | refine g_ildr Rw.a rfl (by omega) rfl (by omega) dL_sets_207 hL (v := (nI nd)) z3 ?_ | refine g_ildr Rw.b rfl (by omega) rfl (by omega) dL_sets_207 hL (v := (nI nd)) z3 ?_ | refine g_ildr Rw.c rfl (by omega) rfl (by omega) dL_sets_207 hL (v := (nI nd)) z3 ?_
      refine g_bipush (v := nI 8) dL_sets_208 (by decide +kernel) ?_
      refine g_callS1 (l_bits (h := h) 8 (by omega)) mw_2_152 ok_L_bits ⟨by decide, by decide⟩ (by omega) (by omega) (Nat.le_of_ble_eq_true rfl) dL_sets_210 (dI_K ?_)
      refine g_callV2 (c_setCeiling_n (h := h) (nI nd) (bt 8) nd R1.2.2.2.2.2.2.2 R1.2.1.2.1 (Or.inr (nI_le (Nat.le_refl _) (by omega)))) mw_3_215 ok_X9_setCeiling ⟨by decide, by decide⟩ (by first | assumption | exact lay_item (by omega) | exact lay_drive (by omega) | exact lay_job (by omega) | rfl) (by omega) rfl (by omega) (by omega) (Nat.le_of_ble_eq_true rfl) dL_sets_213 (dI_K ?_)
      refine g_iconst (v := -1) dL_sets_216 (by decide +kernel) ?_
      refine g_icmp_ne_f (tgt := 237) dL_sets_217 (by decide) rfl ?_
      show Go _ _ _ _ _ _ 220 _ _
      refine g_ald0 dL_sets_220 ?_
      refine g_ild5 dL_sets_221 ?_
      refine g_ldc mw_3_220 dL_sets_223 ?_
      refine g_callV2 (c_setCeiling_2 (h := h) k nd 2143289344 R1.2.2.2.2.2.2.2 R1.2.1.2.1 hd hk (by decide)) mw_3_215 ok_X9_setCeiling ⟨by decide, by decide⟩ (by first | assumption | exact lay_item (by omega) | exact lay_drive (by omega) | exact lay_job (by omega) | rfl) (by omega) rfl (by omega) (by omega) (Nat.le_of_ble_eq_true rfl) dL_sets_225 (dI_K ?_)
      refine g_bipush (v := -2) dL_sets_228 (by decide +kernel) ?_
      refine g_icmp_ne_f (tgt := 237) dL_sets_230 (by decide) rfl ?_
      show Go _ _ _ _ _ _ 233 _ _
      refine g_iconst (v := nI 1) dL_sets_233 (by decide +kernel) ?_
      refine g_goto (tgt := 238) dL_sets_234 (by decide) ?_
      exact g_zret rfl rfl dL_sets_238 ⟨1, rfl, rfl, M, hL, R1, hI, hX⟩
    · skip
      refine g_ald3 dL_sets_150 ?_
      refine g_iconst (v := nI 2) dL_sets_151 (by decide +kernel) ?_
      refine g_ild5 dL_sets_152 ?_
      first | refine g_imul_n dL_sets_154 ?_ | refine g_imul dL_sets_154 ?_
      refine g_iconst (v := nI 1) dL_sets_155 (by decide +kernel) ?_
      show Go _ _ _ _ _ _ 156 _ _
      first | refine g_iadd_n dL_sets_156 ?_ | refine g_iadd dL_sets_156 ?_
      refine g_dldr rfl (by omega) rfl (by omega) dL_sets_157 hL rfl ?_
      refine g_ild6 dL_sets_158 ?_
      refine g_i2d_v dL_sets_160 hwd ?_
      refine g_dcmp dL_sets_161 ?_
      refine g_if_ne_t (tgt := 170) dL_sets_162 (by decide) (fun z => c ((dcmp0 (hf.1 k hk).2 (fv_g hw8)).mp z)) ?_
      show Go _ _ _ _ _ _ 170 _ _
      refine g_iconst (v := nI 1) dL_sets_170 (by decide +kernel) ?_
      refine g_ist7 (by decide) dL_sets_171 ?_
      refine g_ald3 dL_sets_173 ?_
      refine g_iconst (v := nI 2) dL_sets_174 (by decide +kernel) ?_
      refine g_ild5 dL_sets_175 ?_
      first | refine g_imul_n dL_sets_177 ?_ | refine g_imul dL_sets_177 ?_
      show Go _ _ _ _ _ _ 178 _ _
      refine g_iconst (v := nI 1) dL_sets_178 (by decide +kernel) ?_
      first | refine g_iadd_n dL_sets_179 ?_ | refine g_iadd dL_sets_179 ?_
      refine g_ild6 dL_sets_180 ?_
      refine g_i2d_v dL_sets_182 hwd ?_
      refine g_dstr rfl (by omega) rfl (by omega) dL_sets_183 hL hK ?_
      intro h hL hK
      have R1 := hR.kr hi hd hj hK
      refine g_ald0 dL_sets_184 ?_
      show Go _ _ _ _ _ _ 185 _ _
      refine g_ild5 dL_sets_185 ?_
      refine g_bipush (v := nI 8) dL_sets_187 (by decide +kernel) ?_
      refine g_ild6 dL_sets_189 ?_
      first | refine g_imul_n dL_sets_191 ?_ | refine g_imul dL_sets_191 ?_
      refine g_callS1 (l_bits (h := h) (8 * w) hw8) mw_2_152 ok_L_bits ⟨by decide, by decide⟩ (by omega) (by omega) (Nat.le_of_ble_eq_true rfl) dL_sets_192 (dI_K ?_)
      refine g_callV2 (c_setCeiling (h := h) M ni nd nj k (8 * w) hw8 h8 R1 hi hd hj hC hf hk c) mw_3_215 ok_X9_setCeiling ⟨by decide, by decide⟩ (by first | assumption | exact lay_item (by omega) | exact lay_drive (by omega) | exact lay_job (by omega) | rfl) (by omega) rfl (by omega) (by omega) (Nat.le_of_ble_eq_true rfl) dL_sets_195 (rI_K ?_)
      rintro r h2 ⟨rfl, R2, K2⟩
      have hL := hL.kl K2
      have hK := KR.rf h2
      show Go _ _ _ _ _ _ 198 _ _
      refine g_ild7 dL_sets_198 ?_
      refine g_icmp_ne_f (tgt := 237) dL_sets_200 (by decide) rfl ?_
      refine g_ald0 dL_sets_203 ?_
      refine g_ald1 dL_sets_204 ?_
      refine g_bipush (v := nI 10) dL_sets_205 (by decide +kernel) ?_
      first | refine g_ildr Rw.g rfl (by omega) rfl (by omega) dL_sets_207 hL (v := (nI nd)) z3 ?_ | refine g_ildr Rw.t rfl (by omega) rfl (by omega) dL_sets_207 hL (v := (nI nd)) z3 ?_ | refine g_ildr Rw.d rfl (by omega) rfl (by omega) dL_sets_207 hL (v := (nI nd)) z3 ?_ | refine g_ildr Rw.a rfl (by omega) rfl (by omega) dL_sets_207 hL (v := (nI nd)) z3 ?_ | refine g_ildr Rw.b rfl (by omega) rfl (by omega) dL_sets_207 hL (v := (nI nd)) z3 ?_ | refine g_ildr Rw.c rfl (by omega) rfl (by omega) dL_sets_207 hL (v := (nI nd)) z3 ?_
      show Go _ _ _ _ _ _ 208 _ _
      refine g_bipush (v := nI 8) dL_sets_208 (by decide +kernel) ?_
      refine g_callS1 (l_bits (h := h2) 8 (by omega)) mw_2_152 ok_L_bits ⟨by decide, by decide⟩ (by omega) (by omega) (Nat.le_of_ble_eq_true rfl) dL_sets_210 (dI_K ?_)
      refine g_callV2 (c_setCeiling_n (h := h2) (nI nd) (bt 8) nd R2.2.2.2.2.2.2.2 R2.2.1.2.1 (Or.inr (nI_le (Nat.le_refl _) (by omega)))) mw_3_215 ok_X9_setCeiling ⟨by decide, by decide⟩ (by first | assumption | exact lay_item (by omega) | exact lay_drive (by omega) | exact lay_job (by omega) | rfl) (by omega) rfl (by omega) (by omega) (Nat.le_of_ble_eq_true rfl) dL_sets_213 (dI_K ?_)
      refine g_iconst (v := -1) dL_sets_216 (by decide +kernel) ?_
      refine g_icmp_ne_f (tgt := 237) dL_sets_217 (by decide) rfl ?_
      refine g_ald0 dL_sets_220 ?_
      show Go _ _ _ _ _ _ 221 _ _
      refine g_ild5 dL_sets_221 ?_
      refine g_ldc mw_3_220 dL_sets_223 ?_
      refine g_callV2 (c_setCeiling_2 (h := h2) k nd 2143289344 R2.2.2.2.2.2.2.2 R2.2.1.2.1 hd hk (by decide)) mw_3_215 ok_X9_setCeiling ⟨by decide, by decide⟩ (by first | assumption | exact lay_item (by omega) | exact lay_drive (by omega) | exact lay_job (by omega) | rfl) (by omega) rfl (by omega) (by omega) (Nat.le_of_ble_eq_true rfl) dL_sets_225 (dI_K ?_)
      refine g_bipush (v := -2) dL_sets_228 (by decide +kernel) ?_
      refine g_icmp_ne_f (tgt := 237) dL_sets_230 (by decide) rfl ?_
      refine g_iconst (v := nI 1) dL_sets_233 (by decide +kernel) ?_
      show Go _ _ _ _ _ _ 234 _ _
      refine g_goto (tgt := 238) dL_sets_234 (by decide) ?_
      exact g_zret rfl rfl dL_sets_238 ⟨1, rfl, rfl, _, hL, R2, inv_uf hI (fv_g hw8), xt_uf (Or.inr ⟨k, hk, rfl⟩) hX⟩
  have k106 : Go G mL_sets 456 (rI (fun r h' => r = 1 ∧ ∃ M', Tn h' M' ni nd nj T)) h 456 106 [some (ga G 0), some (ga G 449), some (ga G 450), some (ga G 452), some (.int x), none, none, none] [] := by
    rcases Nat.eq_zero_or_pos nd with hz | hpos
    · skip
      refine g_ild4 dL_sets_106 ?_
      refine g_iconst (v := nI 3) dL_sets_108 (by decide +kernel) ?_
      refine g_callS2 (l_low (h := h) _ 3 (by omega) (by omega)) mw_2_118 ok_L_low ⟨by decide, by decide⟩ (by omega) (by omega) (Nat.le_of_ble_eq_true rfl) dL_sets_109 (rI_K ?_)
      rintro r h ⟨rfl, p, hp, rfl⟩
      refine g_iconst (v := nI 1) dL_sets_112 (by decide +kernel) ?_
      refine g_icmp_ne (tgt := 239) dL_sets_113 (by decide) (fun c_113 => ?_) (fun c_113 => ?_)
      · skip
        exact k239
      · skip
        show Go _ _ _ _ _ _ 116 _ _
        refine g_ald1 dL_sets_116 ?_
        refine g_bipush (v := nI 10) dL_sets_117 (by decide +kernel) ?_
        first | refine g_ildr Rw.g rfl (by omega) rfl (by omega) dL_sets_119 hL (v := (nI nd)) z3 ?_ | refine g_ildr Rw.t rfl (by omega) rfl (by omega) dL_sets_119 hL (v := (nI nd)) z3 ?_ | refine g_ildr Rw.d rfl (by omega) rfl (by omega) dL_sets_119 hL (v := (nI nd)) z3 ?_ | refine g_ildr Rw.a rfl (by omega) rfl (by omega) dL_sets_119 hL (v := (nI nd)) z3 ?_ | refine g_ildr Rw.b rfl (by omega) rfl (by omega) dL_sets_119 hL (v := (nI nd)) z3 ?_ | refine g_ildr Rw.c rfl (by omega) rfl (by omega) dL_sets_119 hL (v := (nI nd)) z3 ?_
        refine g_if_le_t (tgt := 239) dL_sets_120 (by decide) (by rw [hz]; decide) ?_
        exact k239
    · skip
      refine g_ild4 dL_sets_106 ?_
      refine g_iconst (v := nI 3) dL_sets_108 (by decide +kernel) ?_
      refine g_callS2 (l_low (h := h) _ 3 (by omega) (by omega)) mw_2_118 ok_L_low ⟨by decide, by decide⟩ (by omega) (by omega) (Nat.le_of_ble_eq_true rfl) dL_sets_109 (rI_K ?_)
      rintro r h ⟨rfl, p, hp, rfl⟩
      refine g_iconst (v := nI 1) dL_sets_112 (by decide +kernel) ?_
      refine g_icmp_ne (tgt := 239) dL_sets_113 (by decide) (fun c_113 => ?_) (fun c_113 => ?_)
      · skip
        exact k239
      · skip
        show Go _ _ _ _ _ _ 116 _ _
        refine g_ald1 dL_sets_116 ?_
        refine g_bipush (v := nI 10) dL_sets_117 (by decide +kernel) ?_
        first | refine g_ildr Rw.g rfl (by omega) rfl (by omega) dL_sets_119 hL (v := (nI nd)) z3 ?_ | refine g_ildr Rw.t rfl (by omega) rfl (by omega) dL_sets_119 hL (v := (nI nd)) z3 ?_ | refine g_ildr Rw.d rfl (by omega) rfl (by omega) dL_sets_119 hL (v := (nI nd)) z3 ?_ | refine g_ildr Rw.a rfl (by omega) rfl (by omega) dL_sets_119 hL (v := (nI nd)) z3 ?_ | refine g_ildr Rw.b rfl (by omega) rfl (by omega) dL_sets_119 hL (v := (nI nd)) z3 ?_ | refine g_ildr Rw.c rfl (by omega) rfl (by omega) dL_sets_119 hL (v := (nI nd)) z3 ?_
        refine g_if_le_f (tgt := 239) dL_sets_120 (by decide) (nI_ge (a := 0) hpos (by omega)) ?_
        refine g_ild4 dL_sets_123 ?_
        refine g_iconst (v := nI 4) dL_sets_125 (by decide +kernel) ?_
        show Go _ _ _ _ _ _ 126 _ _
        refine g_ishr dL_sets_126 ?_
        refine g_ald1 dL_sets_127 ?_
        refine g_bipush (v := nI 10) dL_sets_128 (by decide +kernel) ?_
        first | refine g_ildr Rw.g rfl (by omega) rfl (by omega) dL_sets_130 hL (v := (nI nd)) z3 ?_ | refine g_ildr Rw.t rfl (by omega) rfl (by omega) dL_sets_130 hL (v := (nI nd)) z3 ?_ | refine g_ildr Rw.d rfl (by omega) rfl (by omega) dL_sets_130 hL (v := (nI nd)) z3 ?_ | refine g_ildr Rw.a rfl (by omega) rfl (by omega) dL_sets_130 hL (v := (nI nd)) z3 ?_ | refine g_ildr Rw.b rfl (by omega) rfl (by omega) dL_sets_130 hL (v := (nI nd)) z3 ?_ | refine g_ildr Rw.c rfl (by omega) rfl (by omega) dL_sets_130 hL (v := (nI nd)) z3 ?_
        refine g_callS2 (l_low (h := h) _ nd hpos (by omega)) mw_2_118 ok_L_low ⟨by decide, by decide⟩ (by omega) (by omega) (Nat.le_of_ble_eq_true rfl) dL_sets_131 (rI_K ?_)
        rintro r h ⟨rfl, k, hk, rfl⟩
        refine g_ist5 (by decide) dL_sets_134 ?_
        show Go _ _ _ _ _ _ 136 _ _
        refine g_iconst (v := nI 1) dL_sets_136 (by decide +kernel) ?_
        refine g_ild4 dL_sets_137 ?_
        refine g_bipush (v := nI 7) dL_sets_139 (by decide +kernel) ?_
        refine g_ishr dL_sets_141 ?_
        refine g_bipush (v := nI 12) dL_sets_142 (by decide +kernel) ?_
        refine g_callS2 (l_low (h := h) _ 12 (by omega) (by omega)) mw_2_118 ok_L_low ⟨by decide, by decide⟩ (by omega) (by omega) (Nat.le_of_ble_eq_true rfl) dL_sets_144 (rI_K ?_)
        rintro r h ⟨rfl, w, hw, rfl⟩
        show Go _ _ _ _ _ _ 147 _ _
        first | refine g_iadd_n dL_sets_147 ?_ | refine g_iadd dL_sets_147 ?_
        refine g_ist6 (by decide) dL_sets_148 ?_
        exact k150 k (1 + w) hk (by omega) (by omega)
  refine g_ild4 dL_sets_0 ?_
  refine g_iconst (v := nI 3) dL_sets_2 (by decide +kernel) ?_
  refine g_callS2 (l_low (h := h) _ 3 (by omega) (by omega)) mw_2_118 ok_L_low ⟨by decide, by decide⟩ (by omega) (by omega) (Nat.le_of_ble_eq_true rfl) dL_sets_3 (rI_K ?_)
  rintro r h ⟨rfl, p, hp, rfl⟩
  refine g_if_ne (tgt := 106) dL_sets_6 (by decide) (fun c_6 => ?_) (fun c_6 => ?_)
  · skip
    exact k106
  · skip
    refine g_bipush (v := nI 8) dL_sets_9 (by decide +kernel) ?_
    show Go _ _ _ _ _ _ 11 _ _
    refine g_iconst (v := nI 4) dL_sets_11 (by decide +kernel) ?_
    refine g_ild4 dL_sets_12 ?_
    refine g_iconst (v := nI 4) dL_sets_14 (by decide +kernel) ?_
    refine g_ishr dL_sets_15 ?_
    refine g_bipush (v := nI 60) dL_sets_16 (by decide +kernel) ?_
    refine g_callS2 (l_low (h := h) _ 60 (by omega) (by omega)) mw_2_118 ok_L_low ⟨by decide, by decide⟩ (by omega) (by omega) (Nat.le_of_ble_eq_true rfl) dL_sets_18 (rI_K ?_)
    rintro r h ⟨rfl, q, hq, rfl⟩
    show Go _ _ _ _ _ _ 21 _ _
    first | refine g_imul_n dL_sets_21 ?_ | refine g_imul dL_sets_21 ?_
    first | refine g_iadd_n dL_sets_22 ?_ | refine g_iadd dL_sets_22 ?_
    refine g_ist5 (by decide) dL_sets_23 ?_
    exact k25 (8 + 4 * q) (by omega) (by omega)
end P48
