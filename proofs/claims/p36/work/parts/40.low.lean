/-! ===== low: a word's rest; the robot's putOff, withdraw ===== -/
theorem and_pos (x : Int32) : 0 ≤ (x &&& 2147483647).toInt := by
  have e : (x &&& 2147483647).toInt = ((x.toBitVec &&& 2147483647#32).toNat : Int) := by
    show (x &&& 2147483647).toBitVec.toInt = _
    rw [Int32.toBitVec_and]
    refine BitVec.toInt_eq_toNat_of_lt ?_
    rw [BitVec.toNat_and]
    have := Nat.and_le_right (n := x.toBitVec.toNat) (m := (2147483647#32).toNat)
    have e2 : (2147483647#32 : BitVec 32).toNat = 2147483647 := by decide
    rw [e2] at this
    show 2 * (x.toBitVec.toNat &&& 2147483647) < 2 ^ 32
    omega
  rw [e]
  exact Int.natCast_nonneg _
theorem low_v (x : Int32) (m : Nat) (h0 : 0 < m) (hm : m < 1000) : ∃ q, q < m ∧ (x &&& 2147483647) - (x &&& 2147483647) / nI m * nI m = nI q := by
  have hp := and_pos x
  generalize x &&& 2147483647 = y at hp
  have e : (y % nI m).toInt = y.toInt % (m : Int) := by
    rw [Int32.toInt_mod, Int.tmod_eq_emod_of_nonneg hp, nI_toInt (by omega)]
  have l1 : 0 ≤ y.toInt % (m : Int) := Int.emod_nonneg _ (by omega)
  have l2 : y.toInt % (m : Int) < m := Int.emod_lt_of_pos _ (by omega)
  refine ⟨(y.toInt % (m : Int)).toNat, by omega, ?_⟩
  have e2 : y - y / nI m * nI m = y % nI m := by first | exact irem_eq_mod y (nI m) | exact Jvm.irem_eq_mod y (nI m)
  rw [e2]
  apply Int32.toInt_inj.mp
  rw [e, nI_toInt (by omega)]
  omega
section P40
variable {G : Gl} {h : Hp}
theorem l_low (x : Int32) (m : Nat) (h0 : 0 < m) (hm : m < 1000) : Ct G mL_low [.int x, .int (nI m)] h 456 456 (rI (fun r h' => h' = h ∧ ∃ q, q < m ∧ r = nI q)) := by
  obtain ⟨q, q1, q2⟩ := low_v x m h0 hm
  refine Ct.of rfl (by simp [Value.category, ga]) (Nat.le_of_ble_eq_true rfl) (Nat.le_refl _) ?_
  show Go _ _ _ _ _ _ _ [some (.int x), some (.int (nI m))] []
  refine g_ild0 dL_low_0 ?_
  refine g_ldc mw_2_121 dL_low_1 ?_
  refine g_iand dL_low_3 ?_
  refine g_ild1 dL_low_4 ?_
  refine g_irem dL_low_5 (nI_ne0 h0 (by omega)) q2 ?_
  show Go _ _ _ _ _ _ 6 _ _
  exact g_iret rfl dL_low_6 ⟨nI q, rfl, rfl, q, q1, rfl⟩
end P40
