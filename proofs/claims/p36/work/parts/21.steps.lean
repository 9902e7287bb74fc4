/-! ===== WHAT A TICK DOES, ON THE MODEL ===== -/
theorem wI_f {h : Hp} {a k b j : Nat} {v : Int32} : (wI h a k v).2.1 b j = h.2.1 b j := rfl
theorem wF_i {h : Hp} {a k b j : Nat} {v : UInt32} : (wF h a k v).1 b j = h.1 b j := rfl
theorem up_f {M : Mo} {a j i : Nat} {v : Int32} : (up M a j v).2 i = M.2 i := rfl
theorem uf_i {M : Mo} {j x i : Nat} {v : UInt32} : (uf M j v).1 x i = M.1 x i := rfl
def mBegin (M : Mo) (j : Nat) (kd cl : Int32) : Mo := up (up (up (up (up (up M 0 3 (nI j)) 3 (6 * j + 3) 1) 3 (6 * j + 4) 0) 3 (6 * j + 5) kd) 4 (6 * j) cl) 4 (6 * j + 4) (M.1 0 0)
def mTake (M : Mo) (it : Nat) : Mo := up (up M 1 (6 * it + 2) 1) 0 2 (nI it)
def mHome (M : Mo) (it : Nat) : Mo := up (up M 1 (6 * it + 2) 0) 0 2 (-5)
def mLoad (M : Mo) (it k : Nat) : Mo := up (up (up M 1 (6 * it + 2) 2) 0 2 (-5)) 2 (7 * k + 6) (nI it)
def mUnload (M : Mo) (it k : Nat) : Mo := up (up (up M 1 (6 * it + 2) 1) 0 2 (nI it)) 2 (7 * k + 6) (-5)
def mMove (M : Mo) (it : Nat) (s : Int32) : Mo := mHome (up M 1 (6 * it + 1) s) it
def mPlea (M : Mo) (j : Nat) : Mo := up (up M 0 15 (M.1 0 15 + 1)) 4 (6 * j + 2) (M.1 4 (6 * j + 2) + 1)
def mWent (M : Mo) (s : Nat) : Mo := up (up (uf M 8 (FP.fadd (M.2 8) (cost M s))) 0 1 (nI s)) 0 16 (M.1 0 16 + nI (ad s (pl M)))
def mGo (M : Mo) (j s : Nat) : Mo × Int32 := if ad s (pl M) = 0 then (M, 1) else if (M.2 9).toNat < (FP.fadd (M.2 8) (cost M s)).toNat then (mPlea M j, 0) else (mWent M s, 1)
def mRead1 (M : Mo) (it k : Nat) : Mo := up (up (up (uf M (2 * k) (FP.fadd (M.2 (2 * k)) (more (M.1 1 (6 * it + 3))))) 1 (6 * it + 3) (M.1 1 (6 * it + 3) + 1)) 2 (7 * k + 3) (M.1 2 (7 * k + 3) + 1)) 0 12 (M.1 0 12 + 1)
def mLost (M : Mo) (it k : Nat) : Mo := up (up (up M 1 (6 * it + 5) (M.1 1 (6 * it + 5) + 1)) 2 (7 * k + 4) (M.1 2 (7 * k + 4) + 1)) 0 13 (M.1 0 13 + 1)
def mRead2 (M : Mo) (j it k : Nat) : Mo := up (up (mLost (mRead1 M it k) it k) 5 j (M.1 5 j + 1)) 4 (6 * j + 1) (if M.1 5 j + 1 = 3 then 2 else M.1 4 (6 * j + 1))
theorem up_same (M : Mo) (a j : Nat) : up M a j (M.1 a j) = M := by
  refine Prod.ext (funext fun x => funext fun i => ?_) rfl
  show (if x = a ∧ i = j then M.1 a j else M.1 x i) = M.1 x i
  by_cases h : x = a ∧ i = j
  · rw [if_pos h, h.1, h.2]
  · rw [if_neg h]
/-- is the read lost: by the answer of fcmpl -/
def lostR (M : Mo) (it k : Nat) : Prop := 0 < Op.cmpValue (FP.fcmp (FP.fmul (M.2 (2 * k)) (fval (M.1 1 (6 * it + 4)).toNatClampNeg)) 1077936128) .l
def mClean (M : Mo) (it k : Nat) : Mo := up (up (up (uf M (2 * k) (FP.fmul (M.2 (2 * k)) 1040187392)) 2 (7 * k + 5) (M.1 2 (7 * k + 5) + 1)) 1 (6 * it + 3) (M.1 1 (6 * it + 3) - 1)) 0 14 (M.1 0 14 + 1)
def mNext (M : Mo) (j : Nat) : Mo := up M 3 (6 * j + 4) (M.1 3 (6 * j + 4) + 1)
def mEnd1 (M : Mo) (j : Nat) (v : Int32) : Mo := up (up (up (mNext M j) 3 (6 * j + 3) v) 3 (6 * j + 4) (-5)) 4 (6 * j + 5) (M.1 0 0)
def mEnd (M : Mo) (j : Nat) : Mo := up (mEnd1 M j (if 0 < M.1 4 (6 * j + 1) then 3 else 2)) 0 3 (-5)
def mPass (M : Mo) : Mo := up (uf M 8 (FP.fmul (M.2 8) 1061158912)) 0 0 (M.1 0 0 + 1)
def mIdle (M : Mo) : Mo := up M 0 17 (M.1 0 17 + 1)
theorem inD_congr {M M' : Mo} (i : Nat) : ∀ nd, (∀ k, k < nd → M'.1 2 (7 * k + 6) = M.1 2 (7 * k + 6)) → inD M' nd i = inD M nd i
  | 0, _ => rfl
  | k + 1, h => by
    show (if M'.1 2 (7 * k + 6) = nI i then nI k else inD M' k i) = _
    rw [h k (Nat.lt_succ_self k), inD_congr i k (fun q hq => h q (by omega))]
    rfl
theorem inD_none {M : Mo} {i : Nat} (hi : i < 1000) : ∀ nd, (∀ k, k < nd → M.1 2 (7 * k + 6) = -5) → inD M nd i = -5
  | 0, _ => rfl
  | k + 1, h => by
    show (if M.1 2 (7 * k + 6) = nI i then nI k else inD M k i) = _
    rw [h k (Nat.lt_succ_self k), if_neg (fun q => nI_n5 hi q.symm)]
    exact inD_none hi k (fun q hq => h q (by omega))
theorem inD_one {M : Mo} {i it k0 : Nat} (hi : i < 1000) (hit : it < 1000) : ∀ nd, (∀ k, k < nd → k ≠ k0 → M.1 2 (7 * k + 6) = -5) → (k0 < nd → M.1 2 (7 * k0 + 6) = nI it) → inD M nd i = if i = it ∧ k0 < nd then nI k0 else -5
  | 0, _, _ => by rw [if_neg (fun q => absurd q.2 (Nat.not_lt_zero _))]; rfl
  | k + 1, h, h2 => by
    show (if M.1 2 (7 * k + 6) = nI i then nI k else inD M k i) = _
    rw [inD_one hi hit k (fun q hq => h q (by omega)) (fun q => h2 (by omega))]
    by_cases hk : k = k0
    · subst hk
      rw [h2 (Nat.lt_succ_self k)]
      by_cases hii : i = it
      · subst hii
        rw [if_pos rfl, if_pos ⟨rfl, Nat.lt_succ_self k⟩]
      · rw [if_neg (fun q => hii ((nI_eq (by omega) (by omega)).mp q).symm), if_neg (fun q => hii q.1), if_neg (fun q => hii q.1)]
    · rw [h k (Nat.lt_succ_self k) hk, if_neg (fun q => nI_n5 hi q.symm)]
      by_cases hii : i = it ∧ k0 < k
      · rw [if_pos hii, if_pos ⟨hii.1, by omega⟩]
      · rw [if_neg hii, if_neg (fun q => hii ⟨q.1, by omega⟩)]
/-- nothing in hand, nothing in a drive; an item in hand; an item in a drive -/
def PhA (M : Mo) (nd : Nat) : Prop := M.1 0 2 = -5 ∧ ∀ k, k < nd → M.1 2 (7 * k + 6) = -5
def PhB (M : Mo) (nd it : Nat) : Prop := M.1 0 2 = nI it ∧ ∀ k, k < nd → M.1 2 (7 * k + 6) = -5
def PhC (M : Mo) (nd it k0 : Nat) : Prop := M.1 0 2 = -5 ∧ (∀ k, k < nd → k ≠ k0 → M.1 2 (7 * k + 6) = -5) ∧ M.1 2 (7 * k0 + 6) = nI it
theorem sh_i {h : Hp} {a k : Nat} {v : Int32} (s : Sh h) : Sh (wI h a k v) := s
theorem sh_f {h : Hp} {a k : Nat} {v : UInt32} (s : Sh h) : Sh (wF h a k v) := s
/-- the log writes only its own cells -/
def LgK (h h' : Hp) : Prop := (∀ a j, (a < 59 ∨ 63 < a) → h'.1 a j = h.1 a j) ∧ h'.2 = h.2 ∧ ∃ w, w < 10 ∧ h'.1 59 5 = nI w
theorem Rb.lg {h h' : Hp} {M : Mo} {ni nd nj : Nat} (hi : ni ≤ 8) (hd : nd ≤ 4) (hj : nj ≤ 10) (R : Rb h M ni nd nj) (K : LgK h h') : Rb h' M ni nd nj := by
  obtain ⟨k1, k2, k3⟩ := K
  obtain ⟨s, n, hI, hD, hJ, -, ⟨q, q1, q2⟩, hS⟩ := R
  refine ⟨?_, ?_, fun i hii => ?_, fun k hk => ?_, fun j hjj => ?_, k3, ⟨q, q1, by rw [k1 _ _ (by omega)]; exact q2⟩, by unfold Sh St at hS ⊢; rw [k2]; exact hS⟩
  · rw [k2]; simp (disch := omega) only [k1]; exact s
  · simp (disch := omega) only [k1]; exact n
  · rw [k2]; simp (disch := omega) only [k1]; exact hI i hii
  · rw [k2]; simp (disch := omega) only [k1]; exact hD k hk
  · simp (disch := omega) only [k1]; exact hJ j hjj
section P21
variable {G : Gl} {h : Hp}
theorem c_logAdd (x y z w : Int32) (hS : Sh h) (hn : ∃ q, q < 10 ∧ h.1 59 5 = nI q) : Ct G mX4_add [ga G 59, .int x, .int y, .int z, .int w] h 456 456 (rV (LgK h)) := by
  obtain ⟨q, hq, hn⟩ := hn
  refine Ct.of rfl (by simp [Value.category, ga]) (Nat.le_of_ble_eq_true rfl) (Nat.le_refl _) ?_
  show Go _ _ _ _ _ _ _ [some (ga G 59), some (.int x), some (.int y), some (.int z), some (.int w)] []
  have tail : ∀ q, q < 10 → Go G mX4_add 456 (rV (LgK h)) h 456 22 [some (ga G 59), some (.int x), some (.int y), some (.int z), some (.int w)] [.int (nI q), ga G 59] := by
    intro q hq
    refine g_putI fb_4_5 mw_1_224 (by first | rfl | assumption | (exact lay_item (by omega)) | (exact lay_drive (by omega)) | (exact lay_job (by omega))) (by omega) rfl rfl dX4_add_22 ?_
    refine g_ald0 dX4_add_25 ?_
    refine g_getQ fb_4_0 mw_1_219 (by first | rfl | assumption | (exact lay_item (by omega)) | (exact lay_drive (by omega)) | (exact lay_job (by omega))) (by omega) (sh_lk hS) dX4_add_26 ?_
    refine g_ald0 dX4_add_29 ?_
    refine g_getI_a fb_4_5 mw_1_224 (by first | rfl | assumption | (exact lay_item (by omega)) | (exact lay_drive (by omega)) | (exact lay_job (by omega))) (by omega) dX4_add_30 (fun xx30 ee30 => ?_)
    obtain rfl : xx30 = (nI q) := ee30.symm.trans (by simp (disch := omega) only [wI_at, wI_ne])
    show Go _ _ _ _ _ _ 33 _ _
    refine g_ild1 dX4_add_33 ?_
    refine g_iast (by first | rfl | assumption | (exact lay_item (by omega)) | (exact lay_drive (by omega)) | (exact lay_job (by omega))) (by omega) rfl (by omega) dX4_add_34 ?_
    refine g_ald0 dX4_add_35 ?_
    refine g_getQ fb_4_1 mw_1_220 (by first | rfl | assumption | (exact lay_item (by omega)) | (exact lay_drive (by omega)) | (exact lay_job (by omega))) (by omega) (sh_lj hS) dX4_add_36 ?_
    refine g_ald0 dX4_add_39 ?_
    refine g_getI_a fb_4_5 mw_1_224 (by first | rfl | assumption | (exact lay_item (by omega)) | (exact lay_drive (by omega)) | (exact lay_job (by omega))) (by omega) dX4_add_40 (fun xx40 ee40 => ?_)
    obtain rfl : xx40 = (nI q) := ee40.symm.trans (by simp (disch := omega) only [wI_at, wI_ne])
    show Go _ _ _ _ _ _ 43 _ _
    refine g_ild2 dX4_add_43 ?_
    refine g_iast (by first | rfl | assumption | (exact lay_item (by omega)) | (exact lay_drive (by omega)) | (exact lay_job (by omega))) (by omega) rfl (by omega) dX4_add_44 ?_
    refine g_ald0 dX4_add_45 ?_
    refine g_getQ fb_4_2 mw_1_221 (by first | rfl | assumption | (exact lay_item (by omega)) | (exact lay_drive (by omega)) | (exact lay_job (by omega))) (by omega) (sh_ld hS) dX4_add_46 ?_
    refine g_ald0 dX4_add_49 ?_
    refine g_getI_a fb_4_5 mw_1_224 (by first | rfl | assumption | (exact lay_item (by omega)) | (exact lay_drive (by omega)) | (exact lay_job (by omega))) (by omega) dX4_add_50 (fun xx50 ee50 => ?_)
    obtain rfl : xx50 = (nI q) := ee50.symm.trans (by simp (disch := omega) only [wI_at, wI_ne])
    show Go _ _ _ _ _ _ 53 _ _
    refine g_ild3 dX4_add_53 ?_
    refine g_iast (by first | rfl | assumption | (exact lay_item (by omega)) | (exact lay_drive (by omega)) | (exact lay_job (by omega))) (by omega) rfl (by omega) dX4_add_54 ?_
    refine g_ald0 dX4_add_55 ?_
    refine g_getQ fb_4_3 mw_1_222 (by first | rfl | assumption | (exact lay_item (by omega)) | (exact lay_drive (by omega)) | (exact lay_job (by omega))) (by omega) (sh_lt hS) dX4_add_56 ?_
    refine g_ald0 dX4_add_59 ?_
    refine g_getI_a fb_4_5 mw_1_224 (by first | rfl | assumption | (exact lay_item (by omega)) | (exact lay_drive (by omega)) | (exact lay_job (by omega))) (by omega) dX4_add_60 (fun xx60 ee60 => ?_)
    obtain rfl : xx60 = (nI q) := ee60.symm.trans (by simp (disch := omega) only [wI_at, wI_ne])
    show Go _ _ _ _ _ _ 63 _ _
    refine g_ild4 dX4_add_63 ?_
    refine g_iast (by first | rfl | assumption | (exact lay_item (by omega)) | (exact lay_drive (by omega)) | (exact lay_job (by omega))) (by omega) rfl (by omega) dX4_add_65 ?_
    refine g_ald0 dX4_add_66 ?_
    refine g_ald0 dX4_add_67 ?_
    refine g_getI fb_4_4 mw_1_223 (by first | rfl | assumption | (exact lay_item (by omega)) | (exact lay_drive (by omega)) | (exact lay_job (by omega))) (by omega) dX4_add_68 ?_
    refine g_iconst (v := nI 1) dX4_add_71 (by decide +kernel) ?_
    show Go _ _ _ _ _ _ 72 _ _
    first | refine g_iadd_n dX4_add_72 ?_ | refine g_iadd dX4_add_72 ?_
    refine g_bipush (v := nI 10) dX4_add_73 (by decide +kernel) ?_
    refine g_min mw_4_34 (by decide) (Nat.le_of_ble_eq_true rfl) dX4_add_75 ?_
    refine g_putI fb_4_4 mw_1_223 (by first | rfl | assumption | (exact lay_item (by omega)) | (exact lay_drive (by omega)) | (exact lay_job (by omega))) (by omega) rfl rfl dX4_add_78 ?_
    exact g_vret rfl dX4_add_81 ⟨rfl, fun a j ha => by simp (disch := omega) only [wI_ne], rfl, q, hq, by simp (disch := omega) only [wI_at, wI_ne]⟩
  refine g_ald0 dX4_add_0 ?_
  refine g_ald0 dX4_add_1 ?_
  refine g_getI_a fb_4_5 mw_1_224 (by first | rfl | assumption | (exact lay_item (by omega)) | (exact lay_drive (by omega)) | (exact lay_job (by omega))) (by omega) dX4_add_2 (fun xx2 ee2 => ?_)
  obtain rfl : xx2 = (nI q) := ee2.symm.trans hn
  refine g_iconst (v := nI 1) dX4_add_5 (by decide +kernel) ?_
  first | refine g_iadd_n dX4_add_6 ?_ | refine g_iadd dX4_add_6 ?_
  show Go _ _ _ _ _ _ 7 _ _
  refine g_bipush (v := nI 10) dX4_add_7 (by decide +kernel) ?_
  refine g_icmp_ge (tgt := 21) dX4_add_9 (by decide) (fun c_9 => ?_) (fun c_9 => ?_)
  · skip
    skip
    refine g_iconst (v := nI 0) dX4_add_21 (by decide +kernel) ?_
    first | exact tail 0 (by omega) | exact tail (q + 1) c
  · skip
    have c := Nat.lt_of_not_le (fun z => c_9 (nI_le (a := 10) (b := q + 1) z (by omega)))
    refine g_ald0 dX4_add_12 ?_
    refine g_getI_a fb_4_5 mw_1_224 (by first | rfl | assumption | (exact lay_item (by omega)) | (exact lay_drive (by omega)) | (exact lay_job (by omega))) (by omega) dX4_add_13 (fun xx13 ee13 => ?_)
    obtain rfl : xx13 = (nI q) := ee13.symm.trans hn
    refine g_iconst (v := nI 1) dX4_add_16 (by decide +kernel) ?_
    show Go _ _ _ _ _ _ 17 _ _
    first | refine g_iadd_n dX4_add_17 ?_ | refine g_iadd dX4_add_17 ?_
    refine g_goto (tgt := 22) dX4_add_18 (by decide) ?_
    first | exact tail 0 (by omega) | exact tail (q + 1) c
end P21
