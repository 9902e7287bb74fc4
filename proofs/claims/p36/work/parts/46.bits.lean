/-! ===== bits and their float ===== -/
def bm (n : Nat) : Nat := (n - 2 ^ Nat.log2 n) * 2 ^ (23 - Nat.log2 n)
def bt (n : Nat) : Int32 := if n = 0 then 0 else nI ((124 + Nat.log2 n) * 8388608 + bm n)
def hvc : Nat → UInt32 → UInt32 → Bool
  | 0, x, y => x == y
  | k + 1, x, y => decide ((FP.fmul x 1056964608).toNat ≤ 2139095040) && hvc k (FP.fmul x 1056964608) y
theorem bt_sh : ∀ n : Fin 256, ∀ i : Fin 8, (nI n.1 >>> (nI i.1 &&& 31) ≤ nI 1 ↔ Nat.log2 n.1 ≤ i.1) := by decide +kernel
theorem bt_log : ∀ n : Fin 256, Nat.log2 n.1 < 8 := by decide +kernel
theorem bt_or : ∀ n : Fin 256, 0 < n.1 → (nI (124 + Nat.log2 n.1) <<< (nI 23 &&& 31)) ||| ((nI n.1 - (nI 1 <<< (nI (Nat.log2 n.1) &&& 31))) <<< ((nI 23 - nI (Nat.log2 n.1)) &&& 31)) = bt n.1 := by decide +kernel
theorem bt_e : ∀ n : Fin 256, 0 < n.1 → ((bt n.1).toUInt32 >>> ((nI 23).toUInt32 &&& Int32.toUInt32 31)).toInt32 = nI (124 + Nat.log2 n.1) := by decide +kernel
theorem bt_a : ∀ n : Fin 256, 0 < n.1 → bt n.1 &&& 8388607 = nI (bm n.1) := by decide +kernel
theorem bt_o : ∀ n : Fin 256, 0 < n.1 → nI (bm n.1) ||| 8388608 = nI (n.1 * 2 ^ (23 - Nat.log2 n.1)) := by decide +kernel
theorem bt_h : ∀ n : Fin 256, 0 < n.1 → hvc (26 - Nat.log2 n.1) (FP.i2f (nI (n.1 * 2 ^ (23 - Nat.log2 n.1)))) (fval n.1) = true := by decide +kernel
theorem bt_h0 : hvc 149 (FP.i2f (nI 0)) (fval 0) = true := by decide +kernel
section P46
variable {G : Gl} {h : Hp}
theorem l_bits (n : Nat) (hn : n < 256) : Ct G mL_bits [.int (nI n)] h 456 456 (dI (bt n) h) := by
  have hl : Nat.log2 n < 8 := bt_log ⟨n, hn⟩
  refine Ct.of rfl (by simp [Value.category, ga]) (Nat.le_of_ble_eq_true rfl) (Nat.le_refl _) ?_
  show Go _ _ _ _ _ _ _ [some (.int (nI n)), none] []
  have k15 : Go G mL_bits 456 (dI (bt n) h) h 456 15 [some (.int (nI n)), some (.int (nI (Nat.log2 n)))] [] := by
    rcases Nat.eq_zero_or_pos n with rfl | hp
    · skip
      refine g_ild0 dL_bits_15 ?_
      refine g_if_ne_f (tgt := 23) dL_bits_16 (by decide) rfl ?_
      refine g_iconst (v := nI 0) dL_bits_19 (by decide +kernel) ?_
      refine g_goto (tgt := 41) dL_bits_20 (by decide) ?_
      exact g_iret rfl dL_bits_41 ⟨rfl, rfl⟩
    · skip
      refine g_ild0 dL_bits_15 ?_
      refine g_if_ne_t (tgt := 23) dL_bits_16 (by decide) (nI_ne0 hp (by omega)) ?_
      refine g_bipush (v := nI 124) dL_bits_23 (by decide +kernel) ?_
      refine g_ild1 dL_bits_25 ?_
      first | refine g_iadd_n dL_bits_26 ?_ | refine g_iadd dL_bits_26 ?_
      show Go _ _ _ _ _ _ 27 _ _
      refine g_bipush (v := nI 23) dL_bits_27 (by decide +kernel) ?_
      refine g_ishl dL_bits_29 ?_
      refine g_ild0 dL_bits_30 ?_
      refine g_iconst (v := nI 1) dL_bits_31 (by decide +kernel) ?_
      refine g_ild1 dL_bits_32 ?_
      refine g_ishl dL_bits_33 ?_
      show Go _ _ _ _ _ _ 34 _ _
      refine g_isub dL_bits_34 ?_
      refine g_bipush (v := nI 23) dL_bits_35 (by decide +kernel) ?_
      refine g_ild1 dL_bits_37 ?_
      refine g_isub dL_bits_38 ?_
      refine g_ishl dL_bits_39 ?_
      refine g_ior_v dL_bits_40 (bt_or ⟨n, hn⟩ hp) ?_
      show Go _ _ _ _ _ _ 41 _ _
      exact g_iret rfl dL_bits_41 ⟨rfl, rfl⟩
  have loop : ∀ m i, m + i = Nat.log2 n → Go G mL_bits 456 (dI (bt n) h) h 456 2 [some (.int (nI n)), some (.int (nI i))] [] := by
    intro m
    induction m with
    | zero =>
      intro i hi
      obtain rfl : i = Nat.log2 n := by omega
      refine g_ild0 dL_bits_2 ?_
      refine g_ild1 dL_bits_3 ?_
      refine g_ishr dL_bits_4 ?_
      refine g_iconst (v := nI 1) dL_bits_5 (by decide +kernel) ?_
      refine g_icmp_le_t (tgt := 15) dL_bits_6 (by decide) ((bt_sh ⟨n, hn⟩ ⟨Nat.log2 n, hl⟩).mpr (Nat.le_refl _)) ?_
      exact k15
    | succ m ih =>
      intro i hi
      refine g_ild0 dL_bits_2 ?_
      refine g_ild1 dL_bits_3 ?_
      refine g_ishr dL_bits_4 ?_
      refine g_iconst (v := nI 1) dL_bits_5 (by decide +kernel) ?_
      refine g_icmp_le_f (tgt := 15) dL_bits_6 (by decide) (fun z => absurd ((bt_sh ⟨n, hn⟩ ⟨i, by omega⟩).mp z) (by show ¬ Nat.log2 n ≤ i; omega)) ?_
      show Go _ _ _ _ _ _ 9 _ _
      refine g_iinc1 (by decide) dL_bits_9 (nI_1 i) ?_
      refine g_goto (tgt := 2) dL_bits_12 (by decide) ?_
      exact ih (i + 1) (by omega)
  refine g_iconst (v := nI 0) dL_bits_0 (by decide +kernel) ?_
  refine g_ist1 (by decide) dL_bits_1 ?_
  exact loop (Nat.log2 n) 0 (by omega)
theorem c_floatOf (n : Nat) (hn : n < 256) : Ct G mX9_floatOf [.int (bt n)] h 456 456 (dF (fval n) h) := by
  refine Ct.of rfl (by simp [Value.category, ga]) (Nat.le_of_ble_eq_true rfl) (Nat.le_refl _) ?_
  show Go _ _ _ _ _ _ _ [some (.int (bt n)), none, none, none, none, none] []
  have loop : ∀ x1 x2 c m i y, m + i = c → c < 1000 → hvc m y (fval n) = true → Go G mX9_floatOf 456 (dF (fval n) h) h 456 46 [some (.int (bt n)), x1, x2, some (.float y), some (.int (nI c)), some (.int (nI i))] [] := by
    intro x1 x2 c m
    induction m with
    | zero =>
      intro i y hi hc hv
      obtain rfl : i = c := by omega
      obtain rfl : y = fval n := by unfold hvc at hv; exact eq_of_beq hv
      refine g_ild5 dX9_floatOf_46 ?_
      refine g_ild4 dX9_floatOf_48 ?_
      refine g_icmp_ge_t (tgt := 65) dX9_floatOf_50 (by decide) (nI_le (by omega) (by omega)) ?_
      refine g_fld3 dX9_floatOf_65 ?_
      exact g_fret rfl dX9_floatOf_66 ⟨rfl, rfl⟩
    | succ m ih =>
      intro i y hi hc hv
      unfold hvc at hv
      rw [Bool.and_eq_true] at hv
      have g0 : (FP.fmul y 1056964608).toNat ≤ 2139095040 := of_decide_eq_true hv.1
      have g : Gd (FP.fmul y 1056964608) := g0
      refine g_ild5 dX9_floatOf_46 ?_
      refine g_ild4 dX9_floatOf_48 ?_
      refine g_icmp_ge_f (tgt := 65) dX9_floatOf_50 (by decide) (nI_ge (by omega) (by omega)) ?_
      refine g_fld3 dX9_floatOf_53 ?_
      refine g_ldcwf mw_3_123 dX9_floatOf_54 ?_
      show Go _ _ _ _ _ _ 57 _ _
      refine g_fmul dX9_floatOf_57 (fl_n32 g) ?_
      refine g_fst3 (by decide) dX9_floatOf_58 ?_
      refine g_iinc5 (by decide) dX9_floatOf_59 (nI_1 i) ?_
      refine g_goto (tgt := 46) dX9_floatOf_62 (by decide) ?_
      exact ih (i + 1) _ (by omega) hc hv.2
  rcases Nat.eq_zero_or_pos n with rfl | hp
  · skip
    refine g_ild0 dX9_floatOf_0 ?_
    refine g_bipush (v := nI 23) dX9_floatOf_1 (by decide +kernel) ?_
    refine g_iushr dX9_floatOf_3 (v := nI 0) (by decide +kernel) ?_
    refine g_ist1 (by decide) dX9_floatOf_4 ?_
    refine g_ild0 dX9_floatOf_5 ?_
    show Go _ _ _ _ _ _ 6 _ _
    refine g_ldcw mw_3_121 dX9_floatOf_6 ?_
    refine g_iand_v dX9_floatOf_9 (v := nI 0) (by decide +kernel) ?_
    refine g_ist2 (by decide) dX9_floatOf_10 ?_
    refine g_ild1 dX9_floatOf_11 ?_
    refine g_if_ne_f (tgt := 19) dX9_floatOf_12 (by decide) rfl ?_
    refine g_ild2 dX9_floatOf_15 ?_
    show Go _ _ _ _ _ _ 16 _ _
    refine g_goto (tgt := 24) dX9_floatOf_16 (by decide) ?_
    refine g_i2f dX9_floatOf_24 ?_
    refine g_fst3 (by decide) dX9_floatOf_25 ?_
    refine g_ild1 dX9_floatOf_26 ?_
    refine g_if_ne_f (tgt := 36) dX9_floatOf_27 (by decide) rfl ?_
    refine g_sipush (v := nI 149) dX9_floatOf_30 (by decide +kernel) ?_
    show Go _ _ _ _ _ _ 33 _ _
    refine g_goto (tgt := 41) dX9_floatOf_33 (by decide) ?_
    refine g_ist4 (by decide) dX9_floatOf_41 ?_
    refine g_iconst (v := nI 0) dX9_floatOf_43 (by decide +kernel) ?_
    refine g_ist5 (by decide) dX9_floatOf_44 ?_
    exact loop _ _ 149 149 0 _ (by omega) (by omega) bt_h0
  · have hl := bt_log ⟨n, hn⟩
    have hl : Nat.log2 n < 8 := hl
    have bh : hvc (26 - Nat.log2 n) (FP.i2f (nI (n * 2 ^ (23 - Nat.log2 n)))) (fval n) = true := bt_h ⟨n, hn⟩ hp
    refine g_ild0 dX9_floatOf_0 ?_
    refine g_bipush (v := nI 23) dX9_floatOf_1 (by decide +kernel) ?_
    refine g_iushr dX9_floatOf_3 (bt_e ⟨n, hn⟩ hp) ?_
    refine g_ist1 (by decide) dX9_floatOf_4 ?_
    refine g_ild0 dX9_floatOf_5 ?_
    show Go _ _ _ _ _ _ 6 _ _
    refine g_ldcw mw_3_121 dX9_floatOf_6 ?_
    refine g_iand_v dX9_floatOf_9 (bt_a ⟨n, hn⟩ hp) ?_
    refine g_ist2 (by decide) dX9_floatOf_10 ?_
    refine g_ild1 dX9_floatOf_11 ?_
    refine g_if_ne_t (tgt := 19) dX9_floatOf_12 (by decide) (nI_ne0 (by omega) (by show 124 + Nat.log2 n < _; omega)) ?_
    refine g_ild2 dX9_floatOf_19 ?_
    show Go _ _ _ _ _ _ 20 _ _
    refine g_ldcw mw_3_122 dX9_floatOf_20 ?_
    refine g_ior_v dX9_floatOf_23 (bt_o ⟨n, hn⟩ hp) ?_
    refine g_i2f dX9_floatOf_24 ?_
    refine g_fst3 (by decide) dX9_floatOf_25 ?_
    refine g_ild1 dX9_floatOf_26 ?_
    refine g_if_ne_t (tgt := 36) dX9_floatOf_27 (by decide) (nI_ne0 (by omega) (by show 124 + Nat.log2 n < _; omega)) ?_
    show Go _ _ _ _ _ _ 36 _ _
    refine g_sipush (v := nI 150) dX9_floatOf_36 (by decide +kernel) ?_
    refine g_ild1 dX9_floatOf_39 ?_
    refine g_isub_v dX9_floatOf_40 (v := nI (26 - Nat.log2 n)) (by rw [nI_sub (show 124 + Nat.log2 n ≤ 150 by omega)]; congr 1; omega) ?_
    refine g_ist4 (by decide) dX9_floatOf_41 ?_
    refine g_iconst (v := nI 0) dX9_floatOf_43 (by decide +kernel) ?_
    refine g_ist5 (by decide) dX9_floatOf_44 ?_
    exact loop _ _ _ _ 0 _ (by omega) (by omega) bh
end P46
