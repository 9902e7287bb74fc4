/-! ===== the law's builds ===== -/
section P50r
variable {G : Gl} {M : Mt} {n1 : Nat} {R : Option Value → Hp → Prop} {h : Hp} {n pc : Nat} {ls : List (Option Value)} {st : List Value}
theorem g_ldc2d_v {i : Nat} {v w : UInt64} (hm : Cond.constantDouble M.1.cls i v ∈ Wt) (d : decode M.2.1 pc = .ok (.ldc2_w i, 3)) (hv : v = w) (k : Go G M n1 R h n (pc + 3) ls (.double w :: st)) : Go G M n1 R h n pc ls st := by
  subst hv
  exact g_ldc2d hm d k
end P50r
theorem d_8 : (4620693217682128896 : UInt64) = FP.f2d 1090519040 := by decide +kernel
section P50
variable {G : Gl} {h : Hp}
theorem lq_builds (M : Mo) (ni nd nj T : Nat) (x : Int32) (hT : Tn h M ni nd nj T) : Ct G mL_builds [ga G 0, ga G 449, ga G 451, ga G 452, .int x] h 456 456 (rI (fun r h' => r = 1 ∧ ∃ M' nd', Tn h' M' ni nd' nj T)) := by
  obtain ⟨hL, hR, hI, hX⟩ := id hT
  obtain ⟨⟨hi, hd, hj⟩, -, -, hC, hf, -⟩ := id hI.1
  obtain ⟨⟨z1, -, z3, -⟩, -⟩ := id hX.1
  obtain ⟨-, ⟨-, n2, -⟩, -, hD, -, -, -, hS⟩ := id hR
  have hK := KR.rf h
  refine Ct.of rfl (by simp [Value.category, ga]) (Nat.le_of_ble_eq_true rfl) (Nat.le_refl _) ?_
  show Go _ _ _ _ _ _ _ [some (ga G 0), some (ga G 449), some (ga G 451), some (ga G 452), some (.int x), none, none, none] []
  have k54 : ∀ s r i, s < 24 → ((r = nI nd ∧ ∀ q, q < nd → ¬ M.1 2 (7 * q) = nI s) ∨ (r = -4 ∧ ∃ q, q < nd ∧ M.1 2 (7 * q) = nI s)) → Go G mL_builds 456 (rI (fun r h' => r = 1 ∧ ∃ M' nd', Tn h' M' ni nd' nj T)) h 456 54 [some (ga G 0), some (ga G 449), some (ga G 451), some (ga G 452), some (.int x), some (.int (nI s)), some (.int r), some (.int (nI i))] [] := by
    rintro s r i hs (⟨rfl, hx⟩ | ⟨rfl, q, hq, hx⟩)
    · rcases Nat.lt_or_ge nd 4 with hd4 | hd4
      · have hz := hX.2.1.2 nd (Nat.le_refl _) hd4
        refine g_ild6 dL_builds_54 ?_
        refine g_iconst (v := nI 4) dL_builds_56 (by decide +kernel) ?_
        refine g_icmp_ne_t (tgt := 65) dL_builds_57 (by decide) (fun z => by have := (nI_eq (a := nd) (b := 4) (by omega) (by omega)).mp z; omega) ?_
        refine g_ild6 dL_builds_65 ?_
        refine g_ist6 (by decide) dL_builds_67 ?_
        show Go _ _ _ _ _ _ 69 _ _
        refine g_ild6 dL_builds_69 ?_
        refine g_if_lt_f (tgt := 119) dL_builds_71 (by decide) (Int32.not_lt.mpr (nI_pos' (by omega))) ?_
        refine g_bipush (v := nI 7) dL_builds_74 (by decide +kernel) ?_
        refine g_ald1 dL_builds_76 ?_
        refine g_bipush (v := nI 10) dL_builds_77 (by decide +kernel) ?_
        first | refine g_ildr Rw.g rfl (by omega) rfl (by omega) dL_builds_79 hL (v := (nI nd)) z3 ?_ | refine g_ildr Rw.t rfl (by omega) rfl (by omega) dL_builds_79 hL (v := (nI nd)) z3 ?_ | refine g_ildr Rw.d rfl (by omega) rfl (by omega) dL_builds_79 hL (v := (nI nd)) z3 ?_ | refine g_ildr Rw.a rfl (by omega) rfl (by omega) dL_builds_79 hL (v := (nI nd)) z3 ?_ | refine g_ildr Rw.b rfl (by omega) rfl (by omega) dL_builds_79 hL (v := (nI nd)) z3 ?_ | refine g_ildr Rw.c rfl (by omega) rfl (by omega) dL_builds_79 hL (v := (nI nd)) z3 ?_
        show Go _ _ _ _ _ _ 80 _ _
        first | refine g_imul_n dL_builds_80 ?_ | refine g_imul dL_builds_80 ?_
        refine g_ist7 (by decide) dL_builds_81 ?_
        refine g_ald2 dL_builds_83 ?_
        refine g_ild7 dL_builds_84 ?_
        refine g_ild5 dL_builds_86 ?_
        first | refine g_istr Rw.g rfl (by omega) rfl (by omega) dL_builds_88 hL hK ?_ | refine g_istr Rw.t rfl (by omega) rfl (by omega) dL_builds_88 hL hK ?_ | refine g_istr Rw.d rfl (by omega) rfl (by omega) dL_builds_88 hL hK ?_ | refine g_istr Rw.a rfl (by omega) rfl (by omega) dL_builds_88 hL hK ?_ | refine g_istr Rw.b rfl (by omega) rfl (by omega) dL_builds_88 hL hK ?_ | refine g_istr Rw.c rfl (by omega) rfl (by omega) dL_builds_88 hL hK ?_
        intro h hL hK
        show Go _ _ _ _ _ _ 89 _ _
        refine g_ald3 dL_builds_89 ?_
        refine g_iconst (v := nI 2) dL_builds_90 (by decide +kernel) ?_
        refine g_ald1 dL_builds_91 ?_
        refine g_bipush (v := nI 10) dL_builds_92 (by decide +kernel) ?_
        first | refine g_ildr Rw.g rfl (by omega) rfl (by omega) dL_builds_94 hL (v := (nI nd)) (by simp (disch := omega) only [up_ne]; exact z3) ?_ | refine g_ildr Rw.t rfl (by omega) rfl (by omega) dL_builds_94 hL (v := (nI nd)) (by simp (disch := omega) only [up_ne]; exact z3) ?_ | refine g_ildr Rw.d rfl (by omega) rfl (by omega) dL_builds_94 hL (v := (nI nd)) (by simp (disch := omega) only [up_ne]; exact z3) ?_ | refine g_ildr Rw.a rfl (by omega) rfl (by omega) dL_builds_94 hL (v := (nI nd)) (by simp (disch := omega) only [up_ne]; exact z3) ?_ | refine g_ildr Rw.b rfl (by omega) rfl (by omega) dL_builds_94 hL (v := (nI nd)) (by simp (disch := omega) only [up_ne]; exact z3) ?_ | refine g_ildr Rw.c rfl (by omega) rfl (by omega) dL_builds_94 hL (v := (nI nd)) (by simp (disch := omega) only [up_ne]; exact z3) ?_
        first | refine g_imul_n dL_builds_95 ?_ | refine g_imul dL_builds_95 ?_
        show Go _ _ _ _ _ _ 96 _ _
        refine g_iconst (v := nI 1) dL_builds_96 (by decide +kernel) ?_
        first | refine g_iadd_n dL_builds_97 ?_ | refine g_iadd dL_builds_97 ?_
        refine g_ldc2d_v mw_3_144 dL_builds_98 d_8 ?_
        refine g_dstr rfl (by omega) rfl (by omega) dL_builds_101 hL hK ?_
        intro h hL hK
        refine g_ald2 dL_builds_102 ?_
        refine g_ild7 dL_builds_103 ?_
        show Go _ _ _ _ _ _ 105 _ _
        refine g_bipush (v := nI 6) dL_builds_105 (by decide +kernel) ?_
        first | refine g_iadd_n dL_builds_107 ?_ | refine g_iadd dL_builds_107 ?_
        refine g_bipush (v := -5) dL_builds_108 (by decide +kernel) ?_
        first | refine g_istr Rw.g rfl (by omega) rfl (by omega) dL_builds_110 hL hK ?_ | refine g_istr Rw.t rfl (by omega) rfl (by omega) dL_builds_110 hL hK ?_ | refine g_istr Rw.d rfl (by omega) rfl (by omega) dL_builds_110 hL hK ?_ | refine g_istr Rw.a rfl (by omega) rfl (by omega) dL_builds_110 hL hK ?_ | refine g_istr Rw.b rfl (by omega) rfl (by omega) dL_builds_110 hL hK ?_ | refine g_istr Rw.c rfl (by omega) rfl (by omega) dL_builds_110 hL hK ?_
        intro h hL hK
        refine g_ald1 dL_builds_111 ?_
        refine g_bipush (v := nI 10) dL_builds_112 (by decide +kernel) ?_
        show Go _ _ _ _ _ _ 114 _ _
        refine g_dup2 dL_builds_114 rfl rfl ?_
        first | refine g_ildr Rw.g rfl (by omega) rfl (by omega) dL_builds_115 hL (v := (nI nd)) (by simp (disch := omega) only [up_ne, uf_i]; exact z3) ?_ | refine g_ildr Rw.t rfl (by omega) rfl (by omega) dL_builds_115 hL (v := (nI nd)) (by simp (disch := omega) only [up_ne, uf_i]; exact z3) ?_ | refine g_ildr Rw.d rfl (by omega) rfl (by omega) dL_builds_115 hL (v := (nI nd)) (by simp (disch := omega) only [up_ne, uf_i]; exact z3) ?_ | refine g_ildr Rw.a rfl (by omega) rfl (by omega) dL_builds_115 hL (v := (nI nd)) (by simp (disch := omega) only [up_ne, uf_i]; exact z3) ?_ | refine g_ildr Rw.b rfl (by omega) rfl (by omega) dL_builds_115 hL (v := (nI nd)) (by simp (disch := omega) only [up_ne, uf_i]; exact z3) ?_ | refine g_ildr Rw.c rfl (by omega) rfl (by omega) dL_builds_115 hL (v := (nI nd)) (by simp (disch := omega) only [up_ne, uf_i]; exact z3) ?_
        refine g_iconst (v := nI 1) dL_builds_116 (by decide +kernel) ?_
        first | refine g_iadd_n dL_builds_117 ?_ | refine g_iadd dL_builds_117 ?_
        first | refine g_istr Rw.g rfl (by omega) rfl (by omega) dL_builds_118 hL hK ?_ | refine g_istr Rw.t rfl (by omega) rfl (by omega) dL_builds_118 hL hK ?_ | refine g_istr Rw.d rfl (by omega) rfl (by omega) dL_builds_118 hL hK ?_ | refine g_istr Rw.a rfl (by omega) rfl (by omega) dL_builds_118 hL hK ?_ | refine g_istr Rw.b rfl (by omega) rfl (by omega) dL_builds_118 hL hK ?_ | refine g_istr Rw.c rfl (by omega) rfl (by omega) dL_builds_118 hL hK ?_
        intro h hL hK
        have hL : Lw h (mDrv M nd (nI s)) := hL
        have R1 := hR.kr hi hd hj hK
        refine g_ald0 dL_builds_119 ?_
        show Go _ _ _ _ _ _ 120 _ _
        refine g_ild5 dL_builds_120 ?_
        refine g_callV1 (c_addDrive (h := h) M ni nd nj s hs R1 hi hd4 hj hC hz hx) mw_3_145 ok_X9_addDrive ⟨by decide, by decide⟩ (by first | assumption | exact lay_item (by omega) | exact lay_drive (by omega) | exact lay_job (by omega) | rfl) (by omega) rfl (by omega) (by omega) (Nat.le_of_ble_eq_true rfl) dL_builds_122 (rI_K ?_)
        rintro r h2 ⟨rfl, R2, K2⟩
        refine g_ild6 dL_builds_125 ?_
        refine g_icmp_ne_f (tgt := 144) dL_builds_127 (by decide) rfl ?_
        refine g_ald0 dL_builds_130 ?_
        refine g_bipush (v := nI 24) dL_builds_131 (by decide +kernel) ?_
        show Go _ _ _ _ _ _ 133 _ _
        refine g_callV1 (c_addDrive_1 (h := h2) 24 (by omega) (by omega)) mw_3_145 ok_X9_addDrive ⟨by decide, by decide⟩ (by first | assumption | exact lay_item (by omega) | exact lay_drive (by omega) | exact lay_job (by omega) | rfl) (by omega) rfl (by omega) (by omega) (Nat.le_of_ble_eq_true rfl) dL_builds_133 (dI_K ?_)
        refine g_iconst (v := -1) dL_builds_136 (by decide +kernel) ?_
        refine g_icmp_ne_f (tgt := 144) dL_builds_137 (by decide) rfl ?_
        refine g_iconst (v := nI 1) dL_builds_140 (by decide +kernel) ?_
        refine g_goto (tgt := 145) dL_builds_141 (by decide) ?_
        exact g_zret rfl rfl dL_builds_145 ⟨1, rfl, rfl, _, nd + 1, hL.kl K2, R2, inv_drive hI hX hd4 hs⟩
      · obtain rfl : nd = 4 := by omega
        refine g_ild6 dL_builds_54 ?_
        refine g_iconst (v := nI 4) dL_builds_56 (by decide +kernel) ?_
        refine g_icmp_ne_f (tgt := 65) dL_builds_57 (by decide) rfl ?_
        refine g_bipush (v := -3) dL_builds_60 (by decide +kernel) ?_
        refine g_goto (tgt := 67) dL_builds_62 (by decide) ?_
        show Go _ _ _ _ _ _ 67 _ _
        refine g_ist6 (by decide) dL_builds_67 ?_
        refine g_ild6 dL_builds_69 ?_
        refine g_if_lt_t (tgt := 119) dL_builds_71 (by decide) (by decide) ?_
        refine g_ald0 dL_builds_119 ?_
        refine g_ild5 dL_builds_120 ?_
        refine g_callV1 (c_addDrive_3 (h := h) s hs hS n2 (fun k hk => by rw [(hD k hk).1]; exact hx k hk)) mw_3_145 ok_X9_addDrive ⟨by decide, by decide⟩ (by first | assumption | exact lay_item (by omega) | exact lay_drive (by omega) | exact lay_job (by omega) | rfl) (by omega) rfl (by omega) (by omega) (Nat.le_of_ble_eq_true rfl) dL_builds_122 (dI_K ?_)
        show Go _ _ _ _ _ _ 125 _ _
        refine g_ild6 dL_builds_125 ?_
        refine g_icmp_ne_f (tgt := 144) dL_builds_127 (by decide) rfl ?_
        refine g_ald0 dL_builds_130 ?_
        refine g_bipush (v := nI 24) dL_builds_131 (by decide +kernel) ?_
        refine g_callV1 (c_addDrive_1 (h := h) 24 (by omega) (by omega)) mw_3_145 ok_X9_addDrive ⟨by decide, by decide⟩ (by first | assumption | exact lay_item (by omega) | exact lay_drive (by omega) | exact lay_job (by omega) | rfl) (by omega) rfl (by omega) (by omega) (Nat.le_of_ble_eq_true rfl) dL_builds_133 (dI_K ?_)
        refine g_iconst (v := -1) dL_builds_136 (by decide +kernel) ?_
        show Go _ _ _ _ _ _ 137 _ _
        refine g_icmp_ne_f (tgt := 144) dL_builds_137 (by decide) rfl ?_
        refine g_iconst (v := nI 1) dL_builds_140 (by decide +kernel) ?_
        refine g_goto (tgt := 145) dL_builds_141 (by decide) ?_
        exact g_zret rfl rfl dL_builds_145 ⟨1, rfl, rfl, M, 4, hT⟩
    · skip
      refine g_ild6 dL_builds_54 ?_
      refine g_iconst (v := nI 4) dL_builds_56 (by decide +kernel) ?_
      refine g_icmp_ne_t (tgt := 65) dL_builds_57 (by decide) (by decide) ?_
      refine g_ild6 dL_builds_65 ?_
      refine g_ist6 (by decide) dL_builds_67 ?_
      show Go _ _ _ _ _ _ 69 _ _
      refine g_ild6 dL_builds_69 ?_
      refine g_if_lt_t (tgt := 119) dL_builds_71 (by decide) (by decide) ?_
      refine g_ald0 dL_builds_119 ?_
      refine g_ild5 dL_builds_120 ?_
      refine g_callV1 (c_addDrive_4 (h := h) s nd hs hS n2 hd ⟨q, hq, (hD q hq).1.trans hx⟩) mw_3_145 ok_X9_addDrive ⟨by decide, by decide⟩ (by first | assumption | exact lay_item (by omega) | exact lay_drive (by omega) | exact lay_job (by omega) | rfl) (by omega) rfl (by omega) (by omega) (Nat.le_of_ble_eq_true rfl) dL_builds_122 (dI_K ?_)
      refine g_ild6 dL_builds_125 ?_
      show Go _ _ _ _ _ _ 127 _ _
      refine g_icmp_ne_f (tgt := 144) dL_builds_127 (by decide) rfl ?_
      refine g_ald0 dL_builds_130 ?_
      refine g_bipush (v := nI 24) dL_builds_131 (by decide +kernel) ?_
      refine g_callV1 (c_addDrive_1 (h := h) 24 (by omega) (by omega)) mw_3_145 ok_X9_addDrive ⟨by decide, by decide⟩ (by first | assumption | exact lay_item (by omega) | exact lay_drive (by omega) | exact lay_job (by omega) | rfl) (by omega) rfl (by omega) (by omega) (Nat.le_of_ble_eq_true rfl) dL_builds_133 (dI_K ?_)
      refine g_iconst (v := -1) dL_builds_136 (by decide +kernel) ?_
      refine g_icmp_ne_f (tgt := 144) dL_builds_137 (by decide) rfl ?_
      show Go _ _ _ _ _ _ 140 _ _
      refine g_iconst (v := nI 1) dL_builds_140 (by decide +kernel) ?_
      refine g_goto (tgt := 145) dL_builds_141 (by decide) ?_
      exact g_zret rfl rfl dL_builds_145 ⟨1, rfl, rfl, M, nd, hT⟩
  have loop : ∀ s, s < 24 → ∀ m i r, m + i = nd → ((r = nI nd ∧ ∀ q, q < i → ¬ M.1 2 (7 * q) = nI s) ∨ (r = -4 ∧ ∃ q, q < i ∧ M.1 2 (7 * q) = nI s)) → Go G mL_builds 456 (rI (fun r h' => r = 1 ∧ ∃ M' nd', Tn h' M' ni nd' nj T)) h 456 18 [some (ga G 0), some (ga G 449), some (ga G 451), some (ga G 452), some (.int x), some (.int (nI s)), some (.int r), some (.int (nI i))] [] := by
    intro s hs m
    induction m with
    | zero =>
      intro i r hin hr
      obtain rfl : i = nd := by omega
      refine g_ild7 dL_builds_18 ?_
      refine g_ald1 dL_builds_20 ?_
      refine g_bipush (v := nI 10) dL_builds_21 (by decide +kernel) ?_
      first | refine g_ildr Rw.g rfl (by omega) rfl (by omega) dL_builds_23 hL (v := (nI i)) z3 ?_ | refine g_ildr Rw.t rfl (by omega) rfl (by omega) dL_builds_23 hL (v := (nI i)) z3 ?_ | refine g_ildr Rw.d rfl (by omega) rfl (by omega) dL_builds_23 hL (v := (nI i)) z3 ?_ | refine g_ildr Rw.a rfl (by omega) rfl (by omega) dL_builds_23 hL (v := (nI i)) z3 ?_ | refine g_ildr Rw.b rfl (by omega) rfl (by omega) dL_builds_23 hL (v := (nI i)) z3 ?_ | refine g_ildr Rw.c rfl (by omega) rfl (by omega) dL_builds_23 hL (v := (nI i)) z3 ?_
      refine g_icmp_ge_t (tgt := 54) dL_builds_24 (by decide) (nI_le (by omega) (by omega)) ?_
      exact k54 s r i hs hr
    | succ m ih =>
      intro i r hin hr
      refine g_ild7 dL_builds_18 ?_
      refine g_ald1 dL_builds_20 ?_
      refine g_bipush (v := nI 10) dL_builds_21 (by decide +kernel) ?_
      first | refine g_ildr Rw.g rfl (by omega) rfl (by omega) dL_builds_23 hL (v := (nI nd)) z3 ?_ | refine g_ildr Rw.t rfl (by omega) rfl (by omega) dL_builds_23 hL (v := (nI nd)) z3 ?_ | refine g_ildr Rw.d rfl (by omega) rfl (by omega) dL_builds_23 hL (v := (nI nd)) z3 ?_ | refine g_ildr Rw.a rfl (by omega) rfl (by omega) dL_builds_23 hL (v := (nI nd)) z3 ?_ | refine g_ildr Rw.b rfl (by omega) rfl (by omega) dL_builds_23 hL (v := (nI nd)) z3 ?_ | refine g_ildr Rw.c rfl (by omega) rfl (by omega) dL_builds_23 hL (v := (nI nd)) z3 ?_
      refine g_icmp_ge_f (tgt := 54) dL_builds_24 (by decide) (nI_ge (by omega) (by omega)) ?_
      show Go _ _ _ _ _ _ 27 _ _
      refine g_ald2 dL_builds_27 ?_
      refine g_bipush (v := nI 7) dL_builds_28 (by decide +kernel) ?_
      refine g_ild7 dL_builds_30 ?_
      first | refine g_imul_n dL_builds_32 ?_ | refine g_imul dL_builds_32 ?_
      first | refine g_ildr Rw.g rfl (by omega) rfl (by omega) dL_builds_33 hL rfl ?_ | refine g_ildr Rw.t rfl (by omega) rfl (by omega) dL_builds_33 hL rfl ?_ | refine g_ildr Rw.d rfl (by omega) rfl (by omega) dL_builds_33 hL rfl ?_ | refine g_ildr Rw.a rfl (by omega) rfl (by omega) dL_builds_33 hL rfl ?_ | refine g_ildr Rw.b rfl (by omega) rfl (by omega) dL_builds_33 hL rfl ?_ | refine g_ildr Rw.c rfl (by omega) rfl (by omega) dL_builds_33 hL rfl ?_
      refine g_ild5 dL_builds_34 ?_
      show Go _ _ _ _ _ _ 36 _ _
      refine g_icmp_ne (tgt := 44) dL_builds_36 (by decide) (fun c_36 => ?_) (fun c_36 => ?_)
      · skip
        refine g_ild6 dL_builds_44 ?_
        refine g_ist6 (by decide) dL_builds_46 ?_
        refine g_iinc7 (by decide) dL_builds_48 (nI_1 i) ?_
        refine g_goto (tgt := 18) dL_builds_51 (by decide) ?_
        first | exact ih (i + 1) _ (by omega) (Or.inr ⟨rfl, i, by omega, c_36⟩) | exact ih (i + 1) r (by omega) (hr.imp (fun z => ⟨z.1, fun q hq => by rcases Nat.lt_or_ge q i with w | w; exact z.2 q w; rw [show q = i by omega]; exact c_36⟩) (fun z => ⟨z.1, z.2.imp (fun q w => ⟨by omega, w.2⟩)⟩))
      · skip
        refine g_bipush (v := -4) dL_builds_39 (by decide +kernel) ?_
        show Go _ _ _ _ _ _ 41 _ _
        refine g_goto (tgt := 46) dL_builds_41 (by decide) ?_
        refine g_ist6 (by decide) dL_builds_46 ?_
        refine g_iinc7 (by decide) dL_builds_48 (nI_1 i) ?_
        refine g_goto (tgt := 18) dL_builds_51 (by decide) ?_
        first | exact ih (i + 1) _ (by omega) (Or.inr ⟨rfl, i, by omega, c_36⟩) | exact ih (i + 1) r (by omega) (hr.imp (fun z => ⟨z.1, fun q hq => by rcases Nat.lt_or_ge q i with w | w; exact z.2 q w; rw [show q = i by omega]; exact c_36⟩) (fun z => ⟨z.1, z.2.imp (fun q w => ⟨by omega, w.2⟩)⟩))
  refine g_ild4 dL_builds_0 ?_
  refine g_bipush (v := nI 24) dL_builds_2 (by decide +kernel) ?_
  refine g_callS2 (l_low (h := h) x 24 (by omega) (by omega)) mw_2_118 ok_L_low ⟨by decide, by decide⟩ (by omega) (by omega) (Nat.le_of_ble_eq_true rfl) dL_builds_4 (rI_K ?_)
  rintro r h ⟨rfl, s, hs, rfl⟩
  refine g_ist5 (by decide) dL_builds_7 ?_
  refine g_ald1 dL_builds_9 ?_
  show Go _ _ _ _ _ _ 10 _ _
  refine g_bipush (v := nI 10) dL_builds_10 (by decide +kernel) ?_
  first | refine g_ildr Rw.g rfl (by omega) rfl (by omega) dL_builds_12 hL (v := (nI nd)) z3 ?_ | refine g_ildr Rw.t rfl (by omega) rfl (by omega) dL_builds_12 hL (v := (nI nd)) z3 ?_ | refine g_ildr Rw.d rfl (by omega) rfl (by omega) dL_builds_12 hL (v := (nI nd)) z3 ?_ | refine g_ildr Rw.a rfl (by omega) rfl (by omega) dL_builds_12 hL (v := (nI nd)) z3 ?_ | refine g_ildr Rw.b rfl (by omega) rfl (by omega) dL_builds_12 hL (v := (nI nd)) z3 ?_ | refine g_ildr Rw.c rfl (by omega) rfl (by omega) dL_builds_12 hL (v := (nI nd)) z3 ?_
  refine g_ist6 (by decide) dL_builds_13 ?_
  refine g_iconst (v := nI 0) dL_builds_15 (by decide +kernel) ?_
  refine g_ist7 (by decide) dL_builds_16 ?_
  exact loop s hs nd 0 (nI nd) (by omega) (Or.inl ⟨rfl, fun q hq => absurd hq (Nat.not_lt_zero q)⟩)
end P50
