section GX
variable {p : Program} {l : Launch} {e : Env} {R : Room} {s : State} {m : MethodId} {args : Array Value} {below : List Frame} {meth : Method} {c : Code} {H : Heap} {locs : List Loc} {cells slots : Nat} {Q : State → Prop} {pc : Nat} {ls : Array Slot} {rest : List Value} {cc : ByteArray}
theorem gx_ldcwf (hexec : p.tables.exec = Jvm.exec) (hb : c.code = cc) {own : String} {index : Nat} {v : UInt32} (hown : s.vm.findClass own = some m.cls) (hconst : (Jvm.Cond.constantFloat own index v).before args s = true) (hdg : decode cc pc = .ok (.ldc_w index, 3)) (k : W p l e R s m args below meth c H locs cells slots Q (F0 m (pc + 3) ls (.float v :: rest))) : W p l e R s m args below meth c H locs cells slots Q (F0 m pc ls rest) := by
  intro T hT X
  obtain ⟨t, a, b⟩ := k T hT X
  refine ⟨t, ?_, b⟩
  obtain ⟨k, cf, hk, hcf, hcp⟩ := Cond.constantFloat_spec hown hconst
  obtain ⟨k', hk', he⟩ := X.warmed.alike.2.2 _ _ hk
  jvm_step X.here [X.here.top, hexec, hb, hdg, ldc_w.wp_float (s := T) (f := F0 m pc ls rest) X.here.top hk' (by rw [he]; exact hcf) hcp]
  exact a
end GX
/-! ===== RULES: an instruction, a row (written by gen/rules.py) ===== -/
section GR
variable {G : Gl} {M : Mt} {n1 : Nat} {R : Option Value → Hp → Prop} {h : Hp} {n pc : Nat} {ls : List (Option Value)} {st : List Value}
theorem g_iconst {q : Int} {v : Int32} (d : decode M.2.1 pc = .ok (.iconst q, 1)) (hv : Int32.ofInt q = v) (k : Go G M n1 R h n (pc + 1) ls (.int v :: st)) : Go G M n1 R h n pc ls st := by
  intro n0 p e s m args below meth c H A locs cells slots d0 C hd hl hw hS ha hb hc hs
  exact lv_iconst C.1 C.2.1 d hv (k n0 p e s m args below meth c H A locs cells slots d0 C hd hl hw hS ha hb hc hs)
theorem g_bipush {q : Int} {v : Int32} (d : decode M.2.1 pc = .ok (.bipush q, 2)) (hv : (Int8.ofInt q).toInt32 = v) (k : Go G M n1 R h n (pc + 2) ls (.int v :: st)) : Go G M n1 R h n pc ls st := by
  intro n0 p e s m args below meth c H A locs cells slots d0 C hd hl hw hS ha hb hc hs
  exact lv_bipush C.1 C.2.1 d hv (k n0 p e s m args below meth c H A locs cells slots d0 C hd hl hw hS ha hb hc hs)
theorem g_sipush {q : Int} {v : Int32} (d : decode M.2.1 pc = .ok (.sipush q, 3)) (hv : (Int16.ofInt q).toInt32 = v) (k : Go G M n1 R h n (pc + 3) ls (.int v :: st)) : Go G M n1 R h n pc ls st := by
  intro n0 p e s m args below meth c H A locs cells slots d0 C hd hl hw hS ha hb hc hs
  exact lv_sipush C.1 C.2.1 d hv (k n0 p e s m args below meth c H A locs cells slots d0 C hd hl hw hS ha hb hc hs)
theorem g_null (d : decode M.2.1 pc = .ok (.aconst_null, 1)) (k : Go G M n1 R h n (pc + 1) ls (.null :: st)) : Go G M n1 R h n pc ls st := by
  intro n0 p e s m args below meth c H A locs cells slots d0 C hd hl hw hS ha hb hc hs
  exact lv_null C.1 C.2.1 d (k n0 p e s m args below meth c H A locs cells slots d0 C hd hl hw hS ha hb hc hs)
theorem g_ldc {i : Nat} {v : Int32} (hm : Cond.constant M.1.cls i v ∈ Wt) (d : decode M.2.1 pc = .ok (.ldc i, 2)) (k : Go G M n1 R h n (pc + 2) ls (.int v :: st)) : Go G M n1 R h n pc ls st := by
  intro n0 p e s m args below meth c H A locs cells slots d0 C hd hl hw hS ha hb hc hs
  exact lv_ldc C.1 C.2.1 C.2.2.2.2.1 (C.w d0 hm) d (k n0 p e s m args below meth c H A locs cells slots d0 C hd hl hw hS ha hb hc hs)
theorem g_ldcf {i : Nat} {v : UInt32} (hm : Cond.constantFloat M.1.cls i v ∈ Wt) (d : decode M.2.1 pc = .ok (.ldc i, 2)) (k : Go G M n1 R h n (pc + 2) ls (.float v :: st)) : Go G M n1 R h n pc ls st := by
  intro n0 p e s m args below meth c H A locs cells slots d0 C hd hl hw hS ha hb hc hs
  exact lv_ldcf C.1 C.2.1 C.2.2.2.2.1 (C.w d0 hm) d (k n0 p e s m args below meth c H A locs cells slots d0 C hd hl hw hS ha hb hc hs)
theorem g_ldcw {i : Nat} {v : Int32} (hm : Cond.constant M.1.cls i v ∈ Wt) (d : decode M.2.1 pc = .ok (.ldc_w i, 3)) (k : Go G M n1 R h n (pc + 3) ls (.int v :: st)) : Go G M n1 R h n pc ls st := by
  intro n0 p e s m args below meth c H A locs cells slots d0 C hd hl hw hS ha hb hc hs
  exact lv_ldcw C.1 C.2.1 C.2.2.2.2.1 (C.w d0 hm) d (k n0 p e s m args below meth c H A locs cells slots d0 C hd hl hw hS ha hb hc hs)
theorem g_ldcwf {i : Nat} {v : UInt32} (hm : Cond.constantFloat M.1.cls i v ∈ Wt) (d : decode M.2.1 pc = .ok (.ldc_w i, 3)) (k : Go G M n1 R h n (pc + 3) ls (.float v :: st)) : Go G M n1 R h n pc ls st := by
  intro n0 p e s m args below meth c H A locs cells slots d0 C hd hl hw hS ha hb hc hs
  exact gx_ldcwf C.1 C.2.1 C.2.2.2.2.1 (C.w d0 hm) d (k n0 p e s m args below meth c H A locs cells slots d0 C hd hl hw hS ha hb hc hs)
theorem g_ldc2d {i : Nat} {v : UInt64} (hm : Cond.constantDouble M.1.cls i v ∈ Wt) (d : decode M.2.1 pc = .ok (.ldc2_w i, 3)) (k : Go G M n1 R h n (pc + 3) ls (.double v :: st)) : Go G M n1 R h n pc ls st := by
  intro n0 p e s m args below meth c H A locs cells slots d0 C hd hl hw hS ha hb hc hs
  exact lv_ldc2d C.1 C.2.1 C.2.2.2.2.1 (C.w d0 hm) d (k n0 p e s m args below meth c H A locs cells slots d0 C hd hl hw hS ha hb hc hs)
theorem g_ild0 {r : List (Option Value)} {x : Int32} (d : decode M.2.1 pc = .ok (.iload_n 0, 1)) (k : Go G M n1 R h n (pc + 1) (some (.int x) :: r) (.int x :: st)) : Go G M n1 R h n pc (some (.int x) :: r) st := by
  intro n0 p e s m args below meth c H A locs cells slots d0 C hd hl hw hS ha hb hc hs
  exact lv_iload_n C.1 C.2.1 d rfl (lh_at (i := 0) hl rfl) (k n0 p e s m args below meth c H A locs cells slots d0 C hd hl hw hS ha hb hc hs)
theorem g_fld0 {r : List (Option Value)} {x : UInt32} (d : decode M.2.1 pc = .ok (.fload_n 0, 1)) (k : Go G M n1 R h n (pc + 1) (some (.float x) :: r) (.float x :: st)) : Go G M n1 R h n pc (some (.float x) :: r) st := by
  intro n0 p e s m args below meth c H A locs cells slots d0 C hd hl hw hS ha hb hc hs
  exact lv_fload_n C.1 C.2.1 d rfl (lh_at (i := 0) hl rfl) (k n0 p e s m args below meth c H A locs cells slots d0 C hd hl hw hS ha hb hc hs)
theorem g_ald0 {r : List (Option Value)} {x : Nat} (d : decode M.2.1 pc = .ok (.aload_n 0, 1)) (k : Go G M n1 R h n (pc + 1) (some (ga G x) :: r) (ga G x :: st)) : Go G M n1 R h n pc (some (ga G x) :: r) st := by
  intro n0 p e s m args below meth c H A locs cells slots d0 C hd hl hw hS ha hb hc hs
  exact lv_aload_n C.1 C.2.1 d rfl (lh_at (i := 0) hl rfl) (k n0 p e s m args below meth c H A locs cells slots d0 C hd hl hw hS ha hb hc hs)
theorem g_sld0 {r : List (Option Value)} {x : Nat} (d : decode M.2.1 pc = .ok (.aload_n 0, 1)) (k : Go G M n1 R h n (pc + 1) (some (.ref x) :: r) (.ref x :: st)) : Go G M n1 R h n pc (some (.ref x) :: r) st := by
  intro n0 p e s m args below meth c H A locs cells slots d0 C hd hl hw hS ha hb hc hs
  exact lv_aload_n C.1 C.2.1 d rfl (lh_at (i := 0) hl rfl) (k n0 p e s m args below meth c H A locs cells slots d0 C hd hl hw hS ha hb hc hs)
theorem g_zld0 {r : List (Option Value)}  (d : decode M.2.1 pc = .ok (.aload_n 0, 1)) (k : Go G M n1 R h n (pc + 1) (some (.null) :: r) (.null :: st)) : Go G M n1 R h n pc (some (.null) :: r) st := by
  intro n0 p e s m args below meth c H A locs cells slots d0 C hd hl hw hS ha hb hc hs
  exact lv_aload_nN C.1 C.2.1 d rfl (lh_at (i := 0) hl rfl) (k n0 p e s m args below meth c H A locs cells slots d0 C hd hl hw hS ha hb hc hs)
theorem g_ist0 {r : List (Option Value)} {x : Int32} {y : Option Value} (hi : 0 < M.2.2.1) (d : decode M.2.1 pc = .ok (.istore_n 0, 1)) (k : Go G M n1 R h n (pc + 1) (some (.int x) :: r) st) : Go G M n1 R h n pc (y :: r) (.int x :: st) := by
  intro n0 p e s m args below meth c H A locs cells slots d0 C hd hl hw hS ha hb hc hs
  exact lv_istore_n C.1 C.2.1 d rfl hl.2 hi rfl (fun A2 hA2 => (k n0 p e s m args below meth c H A2 locs cells slots d0 C hd (lh_set (i := 0) hl rfl hA2) hw hS ha hb hc hs))
theorem g_fst0 {r : List (Option Value)} {x : UInt32} {y : Option Value} (hi : 0 < M.2.2.1) (d : decode M.2.1 pc = .ok (.fstore_n 0, 1)) (k : Go G M n1 R h n (pc + 1) (some (.float x) :: r) st) : Go G M n1 R h n pc (y :: r) (.float x :: st) := by
  intro n0 p e s m args below meth c H A locs cells slots d0 C hd hl hw hS ha hb hc hs
  exact lv_fstore_n C.1 C.2.1 d rfl hl.2 hi rfl (fun A2 hA2 => (k n0 p e s m args below meth c H A2 locs cells slots d0 C hd (lh_set (i := 0) hl rfl hA2) hw hS ha hb hc hs))
theorem g_ast0 {r : List (Option Value)} {x : Nat} {y : Option Value} (hi : 0 < M.2.2.1) (d : decode M.2.1 pc = .ok (.astore_n 0, 1)) (k : Go G M n1 R h n (pc + 1) (some (ga G x) :: r) st) : Go G M n1 R h n pc (y :: r) (ga G x :: st) := by
  intro n0 p e s m args below meth c H A locs cells slots d0 C hd hl hw hS ha hb hc hs
  exact lv_astore_n C.1 C.2.1 d rfl hl.2 hi rfl (fun A2 hA2 => (k n0 p e s m args below meth c H A2 locs cells slots d0 C hd (lh_set (i := 0) hl rfl hA2) hw hS ha hb hc hs))
theorem g_zst0 {r : List (Option Value)}  {y : Option Value} (hi : 0 < M.2.2.1) (d : decode M.2.1 pc = .ok (.astore_n 0, 1)) (k : Go G M n1 R h n (pc + 1) (some (.null) :: r) st) : Go G M n1 R h n pc (y :: r) (.null :: st) := by
  intro n0 p e s m args below meth c H A locs cells slots d0 C hd hl hw hS ha hb hc hs
  exact lv_astore_nN C.1 C.2.1 d rfl hl.2 hi rfl (fun A2 hA2 => (k n0 p e s m args below meth c H A2 locs cells slots d0 C hd (lh_set (i := 0) hl rfl hA2) hw hS ha hb hc hs))
theorem g_iinc0 {r : List (Option Value)} {x v : Int32} {q : Int} (hi : 0 < M.2.2.1) (d : decode M.2.1 pc = .ok (.iinc 0 q, 3)) (hv : x + Int32.ofInt q = v) (k : Go G M n1 R h n (pc + 3) (some (.int v) :: r) st) : Go G M n1 R h n pc (some (.int x) :: r) st := by
  intro n0 p e s m args below meth c H A locs cells slots d0 C hd hl hw hS ha hb hc hs
  obtain ⟨j, hj⟩ := List.getElem?_of_mem (al_mem.mpr (show (some (.int x) :: r)[0]? = some (some (.int x)) from rfl))
  exact lv_iinc C.1 C.2.1 d hl.2 hj hv hi rfl (fun A2 hA2 => (k n0 p e s m args below meth c H A2 locs cells slots d0 C hd (lh_set (i := 0) hl rfl hA2) hw hS ha hb hc hs))
theorem g_ild1 {x0 : Option Value} {r : List (Option Value)} {x : Int32} (d : decode M.2.1 pc = .ok (.iload_n 1, 1)) (k : Go G M n1 R h n (pc + 1) (x0 :: some (.int x) :: r) (.int x :: st)) : Go G M n1 R h n pc (x0 :: some (.int x) :: r) st := by
  intro n0 p e s m args below meth c H A locs cells slots d0 C hd hl hw hS ha hb hc hs
  exact lv_iload_n C.1 C.2.1 d rfl (lh_at (i := 1) hl rfl) (k n0 p e s m args below meth c H A locs cells slots d0 C hd hl hw hS ha hb hc hs)
theorem g_fld1 {x0 : Option Value} {r : List (Option Value)} {x : UInt32} (d : decode M.2.1 pc = .ok (.fload_n 1, 1)) (k : Go G M n1 R h n (pc + 1) (x0 :: some (.float x) :: r) (.float x :: st)) : Go G M n1 R h n pc (x0 :: some (.float x) :: r) st := by
  intro n0 p e s m args below meth c H A locs cells slots d0 C hd hl hw hS ha hb hc hs
  exact lv_fload_n C.1 C.2.1 d rfl (lh_at (i := 1) hl rfl) (k n0 p e s m args below meth c H A locs cells slots d0 C hd hl hw hS ha hb hc hs)
theorem g_ald1 {x0 : Option Value} {r : List (Option Value)} {x : Nat} (d : decode M.2.1 pc = .ok (.aload_n 1, 1)) (k : Go G M n1 R h n (pc + 1) (x0 :: some (ga G x) :: r) (ga G x :: st)) : Go G M n1 R h n pc (x0 :: some (ga G x) :: r) st := by
  intro n0 p e s m args below meth c H A locs cells slots d0 C hd hl hw hS ha hb hc hs
  exact lv_aload_n C.1 C.2.1 d rfl (lh_at (i := 1) hl rfl) (k n0 p e s m args below meth c H A locs cells slots d0 C hd hl hw hS ha hb hc hs)
theorem g_sld1 {x0 : Option Value} {r : List (Option Value)} {x : Nat} (d : decode M.2.1 pc = .ok (.aload_n 1, 1)) (k : Go G M n1 R h n (pc + 1) (x0 :: some (.ref x) :: r) (.ref x :: st)) : Go G M n1 R h n pc (x0 :: some (.ref x) :: r) st := by
  intro n0 p e s m args below meth c H A locs cells slots d0 C hd hl hw hS ha hb hc hs
  exact lv_aload_n C.1 C.2.1 d rfl (lh_at (i := 1) hl rfl) (k n0 p e s m args below meth c H A locs cells slots d0 C hd hl hw hS ha hb hc hs)
theorem g_zld1 {x0 : Option Value} {r : List (Option Value)}  (d : decode M.2.1 pc = .ok (.aload_n 1, 1)) (k : Go G M n1 R h n (pc + 1) (x0 :: some (.null) :: r) (.null :: st)) : Go G M n1 R h n pc (x0 :: some (.null) :: r) st := by
  intro n0 p e s m args below meth c H A locs cells slots d0 C hd hl hw hS ha hb hc hs
  exact lv_aload_nN C.1 C.2.1 d rfl (lh_at (i := 1) hl rfl) (k n0 p e s m args below meth c H A locs cells slots d0 C hd hl hw hS ha hb hc hs)
theorem g_ist1 {x0 : Option Value} {r : List (Option Value)} {x : Int32} {y : Option Value} (hi : 1 < M.2.2.1) (d : decode M.2.1 pc = .ok (.istore_n 1, 1)) (k : Go G M n1 R h n (pc + 1) (x0 :: some (.int x) :: r) st) : Go G M n1 R h n pc (x0 :: y :: r) (.int x :: st) := by
  intro n0 p e s m args below meth c H A locs cells slots d0 C hd hl hw hS ha hb hc hs
  exact lv_istore_n C.1 C.2.1 d rfl hl.2 hi rfl (fun A2 hA2 => (k n0 p e s m args below meth c H A2 locs cells slots d0 C hd (lh_set (i := 1) hl rfl hA2) hw hS ha hb hc hs))
theorem g_fst1 {x0 : Option Value} {r : List (Option Value)} {x : UInt32} {y : Option Value} (hi : 1 < M.2.2.1) (d : decode M.2.1 pc = .ok (.fstore_n 1, 1)) (k : Go G M n1 R h n (pc + 1) (x0 :: some (.float x) :: r) st) : Go G M n1 R h n pc (x0 :: y :: r) (.float x :: st) := by
  intro n0 p e s m args below meth c H A locs cells slots d0 C hd hl hw hS ha hb hc hs
  exact lv_fstore_n C.1 C.2.1 d rfl hl.2 hi rfl (fun A2 hA2 => (k n0 p e s m args below meth c H A2 locs cells slots d0 C hd (lh_set (i := 1) hl rfl hA2) hw hS ha hb hc hs))
theorem g_ast1 {x0 : Option Value} {r : List (Option Value)} {x : Nat} {y : Option Value} (hi : 1 < M.2.2.1) (d : decode M.2.1 pc = .ok (.astore_n 1, 1)) (k : Go G M n1 R h n (pc + 1) (x0 :: some (ga G x) :: r) st) : Go G M n1 R h n pc (x0 :: y :: r) (ga G x :: st) := by
  intro n0 p e s m args below meth c H A locs cells slots d0 C hd hl hw hS ha hb hc hs
  exact lv_astore_n C.1 C.2.1 d rfl hl.2 hi rfl (fun A2 hA2 => (k n0 p e s m args below meth c H A2 locs cells slots d0 C hd (lh_set (i := 1) hl rfl hA2) hw hS ha hb hc hs))
theorem g_zst1 {x0 : Option Value} {r : List (Option Value)}  {y : Option Value} (hi : 1 < M.2.2.1) (d : decode M.2.1 pc = .ok (.astore_n 1, 1)) (k : Go G M n1 R h n (pc + 1) (x0 :: some (.null) :: r) st) : Go G M n1 R h n pc (x0 :: y :: r) (.null :: st) := by
  intro n0 p e s m args below meth c H A locs cells slots d0 C hd hl hw hS ha hb hc hs
  exact lv_astore_nN C.1 C.2.1 d rfl hl.2 hi rfl (fun A2 hA2 => (k n0 p e s m args below meth c H A2 locs cells slots d0 C hd (lh_set (i := 1) hl rfl hA2) hw hS ha hb hc hs))
theorem g_iinc1 {x0 : Option Value} {r : List (Option Value)} {x v : Int32} {q : Int} (hi : 1 < M.2.2.1) (d : decode M.2.1 pc = .ok (.iinc 1 q, 3)) (hv : x + Int32.ofInt q = v) (k : Go G M n1 R h n (pc + 3) (x0 :: some (.int v) :: r) st) : Go G M n1 R h n pc (x0 :: some (.int x) :: r) st := by
  intro n0 p e s m args below meth c H A locs cells slots d0 C hd hl hw hS ha hb hc hs
  obtain ⟨j, hj⟩ := List.getElem?_of_mem (al_mem.mpr (show (x0 :: some (.int x) :: r)[1]? = some (some (.int x)) from rfl))
  exact lv_iinc C.1 C.2.1 d hl.2 hj hv hi rfl (fun A2 hA2 => (k n0 p e s m args below meth c H A2 locs cells slots d0 C hd (lh_set (i := 1) hl rfl hA2) hw hS ha hb hc hs))
theorem g_ild2 {x0 x1 : Option Value} {r : List (Option Value)} {x : Int32} (d : decode M.2.1 pc = .ok (.iload_n 2, 1)) (k : Go G M n1 R h n (pc + 1) (x0 :: x1 :: some (.int x) :: r) (.int x :: st)) : Go G M n1 R h n pc (x0 :: x1 :: some (.int x) :: r) st := by
  intro n0 p e s m args below meth c H A locs cells slots d0 C hd hl hw hS ha hb hc hs
  exact lv_iload_n C.1 C.2.1 d rfl (lh_at (i := 2) hl rfl) (k n0 p e s m args below meth c H A locs cells slots d0 C hd hl hw hS ha hb hc hs)
theorem g_fld2 {x0 x1 : Option Value} {r : List (Option Value)} {x : UInt32} (d : decode M.2.1 pc = .ok (.fload_n 2, 1)) (k : Go G M n1 R h n (pc + 1) (x0 :: x1 :: some (.float x) :: r) (.float x :: st)) : Go G M n1 R h n pc (x0 :: x1 :: some (.float x) :: r) st := by
  intro n0 p e s m args below meth c H A locs cells slots d0 C hd hl hw hS ha hb hc hs
  exact lv_fload_n C.1 C.2.1 d rfl (lh_at (i := 2) hl rfl) (k n0 p e s m args below meth c H A locs cells slots d0 C hd hl hw hS ha hb hc hs)
theorem g_ald2 {x0 x1 : Option Value} {r : List (Option Value)} {x : Nat} (d : decode M.2.1 pc = .ok (.aload_n 2, 1)) (k : Go G M n1 R h n (pc + 1) (x0 :: x1 :: some (ga G x) :: r) (ga G x :: st)) : Go G M n1 R h n pc (x0 :: x1 :: some (ga G x) :: r) st := by
  intro n0 p e s m args below meth c H A locs cells slots d0 C hd hl hw hS ha hb hc hs
  exact lv_aload_n C.1 C.2.1 d rfl (lh_at (i := 2) hl rfl) (k n0 p e s m args below meth c H A locs cells slots d0 C hd hl hw hS ha hb hc hs)
theorem g_sld2 {x0 x1 : Option Value} {r : List (Option Value)} {x : Nat} (d : decode M.2.1 pc = .ok (.aload_n 2, 1)) (k : Go G M n1 R h n (pc + 1) (x0 :: x1 :: some (.ref x) :: r) (.ref x :: st)) : Go G M n1 R h n pc (x0 :: x1 :: some (.ref x) :: r) st := by
  intro n0 p e s m args below meth c H A locs cells slots d0 C hd hl hw hS ha hb hc hs
  exact lv_aload_n C.1 C.2.1 d rfl (lh_at (i := 2) hl rfl) (k n0 p e s m args below meth c H A locs cells slots d0 C hd hl hw hS ha hb hc hs)
theorem g_zld2 {x0 x1 : Option Value} {r : List (Option Value)}  (d : decode M.2.1 pc = .ok (.aload_n 2, 1)) (k : Go G M n1 R h n (pc + 1) (x0 :: x1 :: some (.null) :: r) (.null :: st)) : Go G M n1 R h n pc (x0 :: x1 :: some (.null) :: r) st := by
  intro n0 p e s m args below meth c H A locs cells slots d0 C hd hl hw hS ha hb hc hs
  exact lv_aload_nN C.1 C.2.1 d rfl (lh_at (i := 2) hl rfl) (k n0 p e s m args below meth c H A locs cells slots d0 C hd hl hw hS ha hb hc hs)
theorem g_ist2 {x0 x1 : Option Value} {r : List (Option Value)} {x : Int32} {y : Option Value} (hi : 2 < M.2.2.1) (d : decode M.2.1 pc = .ok (.istore_n 2, 1)) (k : Go G M n1 R h n (pc + 1) (x0 :: x1 :: some (.int x) :: r) st) : Go G M n1 R h n pc (x0 :: x1 :: y :: r) (.int x :: st) := by
  intro n0 p e s m args below meth c H A locs cells slots d0 C hd hl hw hS ha hb hc hs
  exact lv_istore_n C.1 C.2.1 d rfl hl.2 hi rfl (fun A2 hA2 => (k n0 p e s m args below meth c H A2 locs cells slots d0 C hd (lh_set (i := 2) hl rfl hA2) hw hS ha hb hc hs))
theorem g_fst2 {x0 x1 : Option Value} {r : List (Option Value)} {x : UInt32} {y : Option Value} (hi : 2 < M.2.2.1) (d : decode M.2.1 pc = .ok (.fstore_n 2, 1)) (k : Go G M n1 R h n (pc + 1) (x0 :: x1 :: some (.float x) :: r) st) : Go G M n1 R h n pc (x0 :: x1 :: y :: r) (.float x :: st) := by
  intro n0 p e s m args below meth c H A locs cells slots d0 C hd hl hw hS ha hb hc hs
  exact lv_fstore_n C.1 C.2.1 d rfl hl.2 hi rfl (fun A2 hA2 => (k n0 p e s m args below meth c H A2 locs cells slots d0 C hd (lh_set (i := 2) hl rfl hA2) hw hS ha hb hc hs))
theorem g_ast2 {x0 x1 : Option Value} {r : List (Option Value)} {x : Nat} {y : Option Value} (hi : 2 < M.2.2.1) (d : decode M.2.1 pc = .ok (.astore_n 2, 1)) (k : Go G M n1 R h n (pc + 1) (x0 :: x1 :: some (ga G x) :: r) st) : Go G M n1 R h n pc (x0 :: x1 :: y :: r) (ga G x :: st) := by
  intro n0 p e s m args below meth c H A locs cells slots d0 C hd hl hw hS ha hb hc hs
  exact lv_astore_n C.1 C.2.1 d rfl hl.2 hi rfl (fun A2 hA2 => (k n0 p e s m args below meth c H A2 locs cells slots d0 C hd (lh_set (i := 2) hl rfl hA2) hw hS ha hb hc hs))
theorem g_zst2 {x0 x1 : Option Value} {r : List (Option Value)}  {y : Option Value} (hi : 2 < M.2.2.1) (d : decode M.2.1 pc = .ok (.astore_n 2, 1)) (k : Go G M n1 R h n (pc + 1) (x0 :: x1 :: some (.null) :: r) st) : Go G M n1 R h n pc (x0 :: x1 :: y :: r) (.null :: st) := by
  intro n0 p e s m args below meth c H A locs cells slots d0 C hd hl hw hS ha hb hc hs
  exact lv_astore_nN C.1 C.2.1 d rfl hl.2 hi rfl (fun A2 hA2 => (k n0 p e s m args below meth c H A2 locs cells slots d0 C hd (lh_set (i := 2) hl rfl hA2) hw hS ha hb hc hs))
theorem g_iinc2 {x0 x1 : Option Value} {r : List (Option Value)} {x v : Int32} {q : Int} (hi : 2 < M.2.2.1) (d : decode M.2.1 pc = .ok (.iinc 2 q, 3)) (hv : x + Int32.ofInt q = v) (k : Go G M n1 R h n (pc + 3) (x0 :: x1 :: some (.int v) :: r) st) : Go G M n1 R h n pc (x0 :: x1 :: some (.int x) :: r) st := by
  intro n0 p e s m args below meth c H A locs cells slots d0 C hd hl hw hS ha hb hc hs
  obtain ⟨j, hj⟩ := List.getElem?_of_mem (al_mem.mpr (show (x0 :: x1 :: some (.int x) :: r)[2]? = some (some (.int x)) from rfl))
  exact lv_iinc C.1 C.2.1 d hl.2 hj hv hi rfl (fun A2 hA2 => (k n0 p e s m args below meth c H A2 locs cells slots d0 C hd (lh_set (i := 2) hl rfl hA2) hw hS ha hb hc hs))
theorem g_ild3 {x0 x1 x2 : Option Value} {r : List (Option Value)} {x : Int32} (d : decode M.2.1 pc = .ok (.iload_n 3, 1)) (k : Go G M n1 R h n (pc + 1) (x0 :: x1 :: x2 :: some (.int x) :: r) (.int x :: st)) : Go G M n1 R h n pc (x0 :: x1 :: x2 :: some (.int x) :: r) st := by
  intro n0 p e s m args below meth c H A locs cells slots d0 C hd hl hw hS ha hb hc hs
  exact lv_iload_n C.1 C.2.1 d rfl (lh_at (i := 3) hl rfl) (k n0 p e s m args below meth c H A locs cells slots d0 C hd hl hw hS ha hb hc hs)
theorem g_fld3 {x0 x1 x2 : Option Value} {r : List (Option Value)} {x : UInt32} (d : decode M.2.1 pc = .ok (.fload_n 3, 1)) (k : Go G M n1 R h n (pc + 1) (x0 :: x1 :: x2 :: some (.float x) :: r) (.float x :: st)) : Go G M n1 R h n pc (x0 :: x1 :: x2 :: some (.float x) :: r) st := by
  intro n0 p e s m args below meth c H A locs cells slots d0 C hd hl hw hS ha hb hc hs
  exact lv_fload_n C.1 C.2.1 d rfl (lh_at (i := 3) hl rfl) (k n0 p e s m args below meth c H A locs cells slots d0 C hd hl hw hS ha hb hc hs)
theorem g_ald3 {x0 x1 x2 : Option Value} {r : List (Option Value)} {x : Nat} (d : decode M.2.1 pc = .ok (.aload_n 3, 1)) (k : Go G M n1 R h n (pc + 1) (x0 :: x1 :: x2 :: some (ga G x) :: r) (ga G x :: st)) : Go G M n1 R h n pc (x0 :: x1 :: x2 :: some (ga G x) :: r) st := by
  intro n0 p e s m args below meth c H A locs cells slots d0 C hd hl hw hS ha hb hc hs
  exact lv_aload_n C.1 C.2.1 d rfl (lh_at (i := 3) hl rfl) (k n0 p e s m args below meth c H A locs cells slots d0 C hd hl hw hS ha hb hc hs)
theorem g_sld3 {x0 x1 x2 : Option Value} {r : List (Option Value)} {x : Nat} (d : decode M.2.1 pc = .ok (.aload_n 3, 1)) (k : Go G M n1 R h n (pc + 1) (x0 :: x1 :: x2 :: some (.ref x) :: r) (.ref x :: st)) : Go G M n1 R h n pc (x0 :: x1 :: x2 :: some (.ref x) :: r) st := by
  intro n0 p e s m args below meth c H A locs cells slots d0 C hd hl hw hS ha hb hc hs
  exact lv_aload_n C.1 C.2.1 d rfl (lh_at (i := 3) hl rfl) (k n0 p e s m args below meth c H A locs cells slots d0 C hd hl hw hS ha hb hc hs)
theorem g_zld3 {x0 x1 x2 : Option Value} {r : List (Option Value)}  (d : decode M.2.1 pc = .ok (.aload_n 3, 1)) (k : Go G M n1 R h n (pc + 1) (x0 :: x1 :: x2 :: some (.null) :: r) (.null :: st)) : Go G M n1 R h n pc (x0 :: x1 :: x2 :: some (.null) :: r) st := by
  intro n0 p e s m args below meth c H A locs cells slots d0 C hd hl hw hS ha hb hc hs
  exact lv_aload_nN C.1 C.2.1 d rfl (lh_at (i := 3) hl rfl) (k n0 p e s m args below meth c H A locs cells slots d0 C hd hl hw hS ha hb hc hs)
theorem g_ist3 {x0 x1 x2 : Option Value} {r : List (Option Value)} {x : Int32} {y : Option Value} (hi : 3 < M.2.2.1) (d : decode M.2.1 pc = .ok (.istore_n 3, 1)) (k : Go G M n1 R h n (pc + 1) (x0 :: x1 :: x2 :: some (.int x) :: r) st) : Go G M n1 R h n pc (x0 :: x1 :: x2 :: y :: r) (.int x :: st) := by
  intro n0 p e s m args below meth c H A locs cells slots d0 C hd hl hw hS ha hb hc hs
  exact lv_istore_n C.1 C.2.1 d rfl hl.2 hi rfl (fun A2 hA2 => (k n0 p e s m args below meth c H A2 locs cells slots d0 C hd (lh_set (i := 3) hl rfl hA2) hw hS ha hb hc hs))
theorem g_fst3 {x0 x1 x2 : Option Value} {r : List (Option Value)} {x : UInt32} {y : Option Value} (hi : 3 < M.2.2.1) (d : decode M.2.1 pc = .ok (.fstore_n 3, 1)) (k : Go G M n1 R h n (pc + 1) (x0 :: x1 :: x2 :: some (.float x) :: r) st) : Go G M n1 R h n pc (x0 :: x1 :: x2 :: y :: r) (.float x :: st) := by
  intro n0 p e s m args below meth c H A locs cells slots d0 C hd hl hw hS ha hb hc hs
  exact lv_fstore_n C.1 C.2.1 d rfl hl.2 hi rfl (fun A2 hA2 => (k n0 p e s m args below meth c H A2 locs cells slots d0 C hd (lh_set (i := 3) hl rfl hA2) hw hS ha hb hc hs))
theorem g_ast3 {x0 x1 x2 : Option Value} {r : List (Option Value)} {x : Nat} {y : Option Value} (hi : 3 < M.2.2.1) (d : decode M.2.1 pc = .ok (.astore_n 3, 1)) (k : Go G M n1 R h n (pc + 1) (x0 :: x1 :: x2 :: some (ga G x) :: r) st) : Go G M n1 R h n pc (x0 :: x1 :: x2 :: y :: r) (ga G x :: st) := by
  intro n0 p e s m args below meth c H A locs cells slots d0 C hd hl hw hS ha hb hc hs
  exact lv_astore_n C.1 C.2.1 d rfl hl.2 hi rfl (fun A2 hA2 => (k n0 p e s m args below meth c H A2 locs cells slots d0 C hd (lh_set (i := 3) hl rfl hA2) hw hS ha hb hc hs))
theorem g_zst3 {x0 x1 x2 : Option Value} {r : List (Option Value)}  {y : Option Value} (hi : 3 < M.2.2.1) (d : decode M.2.1 pc = .ok (.astore_n 3, 1)) (k : Go G M n1 R h n (pc + 1) (x0 :: x1 :: x2 :: some (.null) :: r) st) : Go G M n1 R h n pc (x0 :: x1 :: x2 :: y :: r) (.null :: st) := by
  intro n0 p e s m args below meth c H A locs cells slots d0 C hd hl hw hS ha hb hc hs
  exact lv_astore_nN C.1 C.2.1 d rfl hl.2 hi rfl (fun A2 hA2 => (k n0 p e s m args below meth c H A2 locs cells slots d0 C hd (lh_set (i := 3) hl rfl hA2) hw hS ha hb hc hs))
theorem g_iinc3 {x0 x1 x2 : Option Value} {r : List (Option Value)} {x v : Int32} {q : Int} (hi : 3 < M.2.2.1) (d : decode M.2.1 pc = .ok (.iinc 3 q, 3)) (hv : x + Int32.ofInt q = v) (k : Go G M n1 R h n (pc + 3) (x0 :: x1 :: x2 :: some (.int v) :: r) st) : Go G M n1 R h n pc (x0 :: x1 :: x2 :: some (.int x) :: r) st := by
  intro n0 p e s m args below meth c H A locs cells slots d0 C hd hl hw hS ha hb hc hs
  obtain ⟨j, hj⟩ := List.getElem?_of_mem (al_mem.mpr (show (x0 :: x1 :: x2 :: some (.int x) :: r)[3]? = some (some (.int x)) from rfl))
  exact lv_iinc C.1 C.2.1 d hl.2 hj hv hi rfl (fun A2 hA2 => (k n0 p e s m args below meth c H A2 locs cells slots d0 C hd (lh_set (i := 3) hl rfl hA2) hw hS ha hb hc hs))
theorem g_ild4 {x0 x1 x2 x3 : Option Value} {r : List (Option Value)} {x : Int32} (d : decode M.2.1 pc = .ok (.iload 4, 2)) (k : Go G M n1 R h n (pc + 2) (x0 :: x1 :: x2 :: x3 :: some (.int x) :: r) (.int x :: st)) : Go G M n1 R h n pc (x0 :: x1 :: x2 :: x3 :: some (.int x) :: r) st := by
  intro n0 p e s m args below meth c H A locs cells slots d0 C hd hl hw hS ha hb hc hs
  exact lv_iload C.1 C.2.1 d (lh_at hl rfl) (k n0 p e s m args below meth c H A locs cells slots d0 C hd hl hw hS ha hb hc hs)
theorem g_fld4 {x0 x1 x2 x3 : Option Value} {r : List (Option Value)} {x : UInt32} (d : decode M.2.1 pc = .ok (.fload 4, 2)) (k : Go G M n1 R h n (pc + 2) (x0 :: x1 :: x2 :: x3 :: some (.float x) :: r) (.float x :: st)) : Go G M n1 R h n pc (x0 :: x1 :: x2 :: x3 :: some (.float x) :: r) st := by
  intro n0 p e s m args below meth c H A locs cells slots d0 C hd hl hw hS ha hb hc hs
  exact lv_fload C.1 C.2.1 d (lh_at hl rfl) (k n0 p e s m args below meth c H A locs cells slots d0 C hd hl hw hS ha hb hc hs)
theorem g_ald4 {x0 x1 x2 x3 : Option Value} {r : List (Option Value)} {x : Nat} (d : decode M.2.1 pc = .ok (.aload 4, 2)) (k : Go G M n1 R h n (pc + 2) (x0 :: x1 :: x2 :: x3 :: some (ga G x) :: r) (ga G x :: st)) : Go G M n1 R h n pc (x0 :: x1 :: x2 :: x3 :: some (ga G x) :: r) st := by
  intro n0 p e s m args below meth c H A locs cells slots d0 C hd hl hw hS ha hb hc hs
  exact lv_aload C.1 C.2.1 d (lh_at hl rfl) (k n0 p e s m args below meth c H A locs cells slots d0 C hd hl hw hS ha hb hc hs)
theorem g_sld4 {x0 x1 x2 x3 : Option Value} {r : List (Option Value)} {x : Nat} (d : decode M.2.1 pc = .ok (.aload 4, 2)) (k : Go G M n1 R h n (pc + 2) (x0 :: x1 :: x2 :: x3 :: some (.ref x) :: r) (.ref x :: st)) : Go G M n1 R h n pc (x0 :: x1 :: x2 :: x3 :: some (.ref x) :: r) st := by
  intro n0 p e s m args below meth c H A locs cells slots d0 C hd hl hw hS ha hb hc hs
  exact lv_aload C.1 C.2.1 d (lh_at hl rfl) (k n0 p e s m args below meth c H A locs cells slots d0 C hd hl hw hS ha hb hc hs)
theorem g_zld4 {x0 x1 x2 x3 : Option Value} {r : List (Option Value)}  (d : decode M.2.1 pc = .ok (.aload 4, 2)) (k : Go G M n1 R h n (pc + 2) (x0 :: x1 :: x2 :: x3 :: some (.null) :: r) (.null :: st)) : Go G M n1 R h n pc (x0 :: x1 :: x2 :: x3 :: some (.null) :: r) st := by
  intro n0 p e s m args below meth c H A locs cells slots d0 C hd hl hw hS ha hb hc hs
  exact lv_aloadN C.1 C.2.1 d (lh_at hl rfl) (k n0 p e s m args below meth c H A locs cells slots d0 C hd hl hw hS ha hb hc hs)
theorem g_ist4 {x0 x1 x2 x3 : Option Value} {r : List (Option Value)} {x : Int32} {y : Option Value} (hi : 4 < M.2.2.1) (d : decode M.2.1 pc = .ok (.istore 4, 2)) (k : Go G M n1 R h n (pc + 2) (x0 :: x1 :: x2 :: x3 :: some (.int x) :: r) st) : Go G M n1 R h n pc (x0 :: x1 :: x2 :: x3 :: y :: r) (.int x :: st) := by
  intro n0 p e s m args below meth c H A locs cells slots d0 C hd hl hw hS ha hb hc hs
  exact lv_istore C.1 C.2.1 d hl.2 hi rfl (fun A2 hA2 => (k n0 p e s m args below meth c H A2 locs cells slots d0 C hd (lh_set (i := 4) hl rfl hA2) hw hS ha hb hc hs))
theorem g_fst4 {x0 x1 x2 x3 : Option Value} {r : List (Option Value)} {x : UInt32} {y : Option Value} (hi : 4 < M.2.2.1) (d : decode M.2.1 pc = .ok (.fstore 4, 2)) (k : Go G M n1 R h n (pc + 2) (x0 :: x1 :: x2 :: x3 :: some (.float x) :: r) st) : Go G M n1 R h n pc (x0 :: x1 :: x2 :: x3 :: y :: r) (.float x :: st) := by
  intro n0 p e s m args below meth c H A locs cells slots d0 C hd hl hw hS ha hb hc hs
  exact lv_fstore C.1 C.2.1 d hl.2 hi rfl (fun A2 hA2 => (k n0 p e s m args below meth c H A2 locs cells slots d0 C hd (lh_set (i := 4) hl rfl hA2) hw hS ha hb hc hs))
theorem g_ast4 {x0 x1 x2 x3 : Option Value} {r : List (Option Value)} {x : Nat} {y : Option Value} (hi : 4 < M.2.2.1) (d : decode M.2.1 pc = .ok (.astore 4, 2)) (k : Go G M n1 R h n (pc + 2) (x0 :: x1 :: x2 :: x3 :: some (ga G x) :: r) st) : Go G M n1 R h n pc (x0 :: x1 :: x2 :: x3 :: y :: r) (ga G x :: st) := by
  intro n0 p e s m args below meth c H A locs cells slots d0 C hd hl hw hS ha hb hc hs
  exact lv_astore C.1 C.2.1 d hl.2 hi rfl (fun A2 hA2 => (k n0 p e s m args below meth c H A2 locs cells slots d0 C hd (lh_set (i := 4) hl rfl hA2) hw hS ha hb hc hs))
theorem g_zst4 {x0 x1 x2 x3 : Option Value} {r : List (Option Value)}  {y : Option Value} (hi : 4 < M.2.2.1) (d : decode M.2.1 pc = .ok (.astore 4, 2)) (k : Go G M n1 R h n (pc + 2) (x0 :: x1 :: x2 :: x3 :: some (.null) :: r) st) : Go G M n1 R h n pc (x0 :: x1 :: x2 :: x3 :: y :: r) (.null :: st) := by
  intro n0 p e s m args below meth c H A locs cells slots d0 C hd hl hw hS ha hb hc hs
  exact lv_astoreN C.1 C.2.1 d hl.2 hi rfl (fun A2 hA2 => (k n0 p e s m args below meth c H A2 locs cells slots d0 C hd (lh_set (i := 4) hl rfl hA2) hw hS ha hb hc hs))
theorem g_iinc4 {x0 x1 x2 x3 : Option Value} {r : List (Option Value)} {x v : Int32} {q : Int} (hi : 4 < M.2.2.1) (d : decode M.2.1 pc = .ok (.iinc 4 q, 3)) (hv : x + Int32.ofInt q = v) (k : Go G M n1 R h n (pc + 3) (x0 :: x1 :: x2 :: x3 :: some (.int v) :: r) st) : Go G M n1 R h n pc (x0 :: x1 :: x2 :: x3 :: some (.int x) :: r) st := by
  intro n0 p e s m args below meth c H A locs cells slots d0 C hd hl hw hS ha hb hc hs
  obtain ⟨j, hj⟩ := List.getElem?_of_mem (al_mem.mpr (show (x0 :: x1 :: x2 :: x3 :: some (.int x) :: r)[4]? = some (some (.int x)) from rfl))
  exact lv_iinc C.1 C.2.1 d hl.2 hj hv hi rfl (fun A2 hA2 => (k n0 p e s m args below meth c H A2 locs cells slots d0 C hd (lh_set (i := 4) hl rfl hA2) hw hS ha hb hc hs))
theorem g_ild5 {x0 x1 x2 x3 x4 : Option Value} {r : List (Option Value)} {x : Int32} (d : decode M.2.1 pc = .ok (.iload 5, 2)) (k : Go G M n1 R h n (pc + 2) (x0 :: x1 :: x2 :: x3 :: x4 :: some (.int x) :: r) (.int x :: st)) : Go G M n1 R h n pc (x0 :: x1 :: x2 :: x3 :: x4 :: some (.int x) :: r) st := by
  intro n0 p e s m args below meth c H A locs cells slots d0 C hd hl hw hS ha hb hc hs
  exact lv_iload C.1 C.2.1 d (lh_at hl rfl) (k n0 p e s m args below meth c H A locs cells slots d0 C hd hl hw hS ha hb hc hs)
theorem g_fld5 {x0 x1 x2 x3 x4 : Option Value} {r : List (Option Value)} {x : UInt32} (d : decode M.2.1 pc = .ok (.fload 5, 2)) (k : Go G M n1 R h n (pc + 2) (x0 :: x1 :: x2 :: x3 :: x4 :: some (.float x) :: r) (.float x :: st)) : Go G M n1 R h n pc (x0 :: x1 :: x2 :: x3 :: x4 :: some (.float x) :: r) st := by
  intro n0 p e s m args below meth c H A locs cells slots d0 C hd hl hw hS ha hb hc hs
  exact lv_fload C.1 C.2.1 d (lh_at hl rfl) (k n0 p e s m args below meth c H A locs cells slots d0 C hd hl hw hS ha hb hc hs)
theorem g_ald5 {x0 x1 x2 x3 x4 : Option Value} {r : List (Option Value)} {x : Nat} (d : decode M.2.1 pc = .ok (.aload 5, 2)) (k : Go G M n1 R h n (pc + 2) (x0 :: x1 :: x2 :: x3 :: x4 :: some (ga G x) :: r) (ga G x :: st)) : Go G M n1 R h n pc (x0 :: x1 :: x2 :: x3 :: x4 :: some (ga G x) :: r) st := by
  intro n0 p e s m args below meth c H A locs cells slots d0 C hd hl hw hS ha hb hc hs
  exact lv_aload C.1 C.2.1 d (lh_at hl rfl) (k n0 p e s m args below meth c H A locs cells slots d0 C hd hl hw hS ha hb hc hs)
theorem g_sld5 {x0 x1 x2 x3 x4 : Option Value} {r : List (Option Value)} {x : Nat} (d : decode M.2.1 pc = .ok (.aload 5, 2)) (k : Go G M n1 R h n (pc + 2) (x0 :: x1 :: x2 :: x3 :: x4 :: some (.ref x) :: r) (.ref x :: st)) : Go G M n1 R h n pc (x0 :: x1 :: x2 :: x3 :: x4 :: some (.ref x) :: r) st := by
  intro n0 p e s m args below meth c H A locs cells slots d0 C hd hl hw hS ha hb hc hs
  exact lv_aload C.1 C.2.1 d (lh_at hl rfl) (k n0 p e s m args below meth c H A locs cells slots d0 C hd hl hw hS ha hb hc hs)
theorem g_zld5 {x0 x1 x2 x3 x4 : Option Value} {r : List (Option Value)}  (d : decode M.2.1 pc = .ok (.aload 5, 2)) (k : Go G M n1 R h n (pc + 2) (x0 :: x1 :: x2 :: x3 :: x4 :: some (.null) :: r) (.null :: st)) : Go G M n1 R h n pc (x0 :: x1 :: x2 :: x3 :: x4 :: some (.null) :: r) st := by
  intro n0 p e s m args below meth c H A locs cells slots d0 C hd hl hw hS ha hb hc hs
  exact lv_aloadN C.1 C.2.1 d (lh_at hl rfl) (k n0 p e s m args below meth c H A locs cells slots d0 C hd hl hw hS ha hb hc hs)
theorem g_ist5 {x0 x1 x2 x3 x4 : Option Value} {r : List (Option Value)} {x : Int32} {y : Option Value} (hi : 5 < M.2.2.1) (d : decode M.2.1 pc = .ok (.istore 5, 2)) (k : Go G M n1 R h n (pc + 2) (x0 :: x1 :: x2 :: x3 :: x4 :: some (.int x) :: r) st) : Go G M n1 R h n pc (x0 :: x1 :: x2 :: x3 :: x4 :: y :: r) (.int x :: st) := by
  intro n0 p e s m args below meth c H A locs cells slots d0 C hd hl hw hS ha hb hc hs
  exact lv_istore C.1 C.2.1 d hl.2 hi rfl (fun A2 hA2 => (k n0 p e s m args below meth c H A2 locs cells slots d0 C hd (lh_set (i := 5) hl rfl hA2) hw hS ha hb hc hs))
theorem g_fst5 {x0 x1 x2 x3 x4 : Option Value} {r : List (Option Value)} {x : UInt32} {y : Option Value} (hi : 5 < M.2.2.1) (d : decode M.2.1 pc = .ok (.fstore 5, 2)) (k : Go G M n1 R h n (pc + 2) (x0 :: x1 :: x2 :: x3 :: x4 :: some (.float x) :: r) st) : Go G M n1 R h n pc (x0 :: x1 :: x2 :: x3 :: x4 :: y :: r) (.float x :: st) := by
  intro n0 p e s m args below meth c H A locs cells slots d0 C hd hl hw hS ha hb hc hs
  exact lv_fstore C.1 C.2.1 d hl.2 hi rfl (fun A2 hA2 => (k n0 p e s m args below meth c H A2 locs cells slots d0 C hd (lh_set (i := 5) hl rfl hA2) hw hS ha hb hc hs))
theorem g_ast5 {x0 x1 x2 x3 x4 : Option Value} {r : List (Option Value)} {x : Nat} {y : Option Value} (hi : 5 < M.2.2.1) (d : decode M.2.1 pc = .ok (.astore 5, 2)) (k : Go G M n1 R h n (pc + 2) (x0 :: x1 :: x2 :: x3 :: x4 :: some (ga G x) :: r) st) : Go G M n1 R h n pc (x0 :: x1 :: x2 :: x3 :: x4 :: y :: r) (ga G x :: st) := by
  intro n0 p e s m args below meth c H A locs cells slots d0 C hd hl hw hS ha hb hc hs
  exact lv_astore C.1 C.2.1 d hl.2 hi rfl (fun A2 hA2 => (k n0 p e s m args below meth c H A2 locs cells slots d0 C hd (lh_set (i := 5) hl rfl hA2) hw hS ha hb hc hs))
theorem g_zst5 {x0 x1 x2 x3 x4 : Option Value} {r : List (Option Value)}  {y : Option Value} (hi : 5 < M.2.2.1) (d : decode M.2.1 pc = .ok (.astore 5, 2)) (k : Go G M n1 R h n (pc + 2) (x0 :: x1 :: x2 :: x3 :: x4 :: some (.null) :: r) st) : Go G M n1 R h n pc (x0 :: x1 :: x2 :: x3 :: x4 :: y :: r) (.null :: st) := by
  intro n0 p e s m args below meth c H A locs cells slots d0 C hd hl hw hS ha hb hc hs
  exact lv_astoreN C.1 C.2.1 d hl.2 hi rfl (fun A2 hA2 => (k n0 p e s m args below meth c H A2 locs cells slots d0 C hd (lh_set (i := 5) hl rfl hA2) hw hS ha hb hc hs))
theorem g_iinc5 {x0 x1 x2 x3 x4 : Option Value} {r : List (Option Value)} {x v : Int32} {q : Int} (hi : 5 < M.2.2.1) (d : decode M.2.1 pc = .ok (.iinc 5 q, 3)) (hv : x + Int32.ofInt q = v) (k : Go G M n1 R h n (pc + 3) (x0 :: x1 :: x2 :: x3 :: x4 :: some (.int v) :: r) st) : Go G M n1 R h n pc (x0 :: x1 :: x2 :: x3 :: x4 :: some (.int x) :: r) st := by
  intro n0 p e s m args below meth c H A locs cells slots d0 C hd hl hw hS ha hb hc hs
  obtain ⟨j, hj⟩ := List.getElem?_of_mem (al_mem.mpr (show (x0 :: x1 :: x2 :: x3 :: x4 :: some (.int x) :: r)[5]? = some (some (.int x)) from rfl))
  exact lv_iinc C.1 C.2.1 d hl.2 hj hv hi rfl (fun A2 hA2 => (k n0 p e s m args below meth c H A2 locs cells slots d0 C hd (lh_set (i := 5) hl rfl hA2) hw hS ha hb hc hs))
theorem g_ild6 {x0 x1 x2 x3 x4 x5 : Option Value} {r : List (Option Value)} {x : Int32} (d : decode M.2.1 pc = .ok (.iload 6, 2)) (k : Go G M n1 R h n (pc + 2) (x0 :: x1 :: x2 :: x3 :: x4 :: x5 :: some (.int x) :: r) (.int x :: st)) : Go G M n1 R h n pc (x0 :: x1 :: x2 :: x3 :: x4 :: x5 :: some (.int x) :: r) st := by
  intro n0 p e s m args below meth c H A locs cells slots d0 C hd hl hw hS ha hb hc hs
  exact lv_iload C.1 C.2.1 d (lh_at hl rfl) (k n0 p e s m args below meth c H A locs cells slots d0 C hd hl hw hS ha hb hc hs)
theorem g_fld6 {x0 x1 x2 x3 x4 x5 : Option Value} {r : List (Option Value)} {x : UInt32} (d : decode M.2.1 pc = .ok (.fload 6, 2)) (k : Go G M n1 R h n (pc + 2) (x0 :: x1 :: x2 :: x3 :: x4 :: x5 :: some (.float x) :: r) (.float x :: st)) : Go G M n1 R h n pc (x0 :: x1 :: x2 :: x3 :: x4 :: x5 :: some (.float x) :: r) st := by
  intro n0 p e s m args below meth c H A locs cells slots d0 C hd hl hw hS ha hb hc hs
  exact lv_fload C.1 C.2.1 d (lh_at hl rfl) (k n0 p e s m args below meth c H A locs cells slots d0 C hd hl hw hS ha hb hc hs)
theorem g_ald6 {x0 x1 x2 x3 x4 x5 : Option Value} {r : List (Option Value)} {x : Nat} (d : decode M.2.1 pc = .ok (.aload 6, 2)) (k : Go G M n1 R h n (pc + 2) (x0 :: x1 :: x2 :: x3 :: x4 :: x5 :: some (ga G x) :: r) (ga G x :: st)) : Go G M n1 R h n pc (x0 :: x1 :: x2 :: x3 :: x4 :: x5 :: some (ga G x) :: r) st := by
  intro n0 p e s m args below meth c H A locs cells slots d0 C hd hl hw hS ha hb hc hs
  exact lv_aload C.1 C.2.1 d (lh_at hl rfl) (k n0 p e s m args below meth c H A locs cells slots d0 C hd hl hw hS ha hb hc hs)
theorem g_sld6 {x0 x1 x2 x3 x4 x5 : Option Value} {r : List (Option Value)} {x : Nat} (d : decode M.2.1 pc = .ok (.aload 6, 2)) (k : Go G M n1 R h n (pc + 2) (x0 :: x1 :: x2 :: x3 :: x4 :: x5 :: some (.ref x) :: r) (.ref x :: st)) : Go G M n1 R h n pc (x0 :: x1 :: x2 :: x3 :: x4 :: x5 :: some (.ref x) :: r) st := by
  intro n0 p e s m args below meth c H A locs cells slots d0 C hd hl hw hS ha hb hc hs
  exact lv_aload C.1 C.2.1 d (lh_at hl rfl) (k n0 p e s m args below meth c H A locs cells slots d0 C hd hl hw hS ha hb hc hs)
theorem g_zld6 {x0 x1 x2 x3 x4 x5 : Option Value} {r : List (Option Value)}  (d : decode M.2.1 pc = .ok (.aload 6, 2)) (k : Go G M n1 R h n (pc + 2) (x0 :: x1 :: x2 :: x3 :: x4 :: x5 :: some (.null) :: r) (.null :: st)) : Go G M n1 R h n pc (x0 :: x1 :: x2 :: x3 :: x4 :: x5 :: some (.null) :: r) st := by
  intro n0 p e s m args below meth c H A locs cells slots d0 C hd hl hw hS ha hb hc hs
  exact lv_aloadN C.1 C.2.1 d (lh_at hl rfl) (k n0 p e s m args below meth c H A locs cells slots d0 C hd hl hw hS ha hb hc hs)
theorem g_ist6 {x0 x1 x2 x3 x4 x5 : Option Value} {r : List (Option Value)} {x : Int32} {y : Option Value} (hi : 6 < M.2.2.1) (d : decode M.2.1 pc = .ok (.istore 6, 2)) (k : Go G M n1 R h n (pc + 2) (x0 :: x1 :: x2 :: x3 :: x4 :: x5 :: some (.int x) :: r) st) : Go G M n1 R h n pc (x0 :: x1 :: x2 :: x3 :: x4 :: x5 :: y :: r) (.int x :: st) := by
  intro n0 p e s m args below meth c H A locs cells slots d0 C hd hl hw hS ha hb hc hs
  exact lv_istore C.1 C.2.1 d hl.2 hi rfl (fun A2 hA2 => (k n0 p e s m args below meth c H A2 locs cells slots d0 C hd (lh_set (i := 6) hl rfl hA2) hw hS ha hb hc hs))
theorem g_fst6 {x0 x1 x2 x3 x4 x5 : Option Value} {r : List (Option Value)} {x : UInt32} {y : Option Value} (hi : 6 < M.2.2.1) (d : decode M.2.1 pc = .ok (.fstore 6, 2)) (k : Go G M n1 R h n (pc + 2) (x0 :: x1 :: x2 :: x3 :: x4 :: x5 :: some (.float x) :: r) st) : Go G M n1 R h n pc (x0 :: x1 :: x2 :: x3 :: x4 :: x5 :: y :: r) (.float x :: st) := by
  intro n0 p e s m args below meth c H A locs cells slots d0 C hd hl hw hS ha hb hc hs
  exact lv_fstore C.1 C.2.1 d hl.2 hi rfl (fun A2 hA2 => (k n0 p e s m args below meth c H A2 locs cells slots d0 C hd (lh_set (i := 6) hl rfl hA2) hw hS ha hb hc hs))
theorem g_ast6 {x0 x1 x2 x3 x4 x5 : Option Value} {r : List (Option Value)} {x : Nat} {y : Option Value} (hi : 6 < M.2.2.1) (d : decode M.2.1 pc = .ok (.astore 6, 2)) (k : Go G M n1 R h n (pc + 2) (x0 :: x1 :: x2 :: x3 :: x4 :: x5 :: some (ga G x) :: r) st) : Go G M n1 R h n pc (x0 :: x1 :: x2 :: x3 :: x4 :: x5 :: y :: r) (ga G x :: st) := by
  intro n0 p e s m args below meth c H A locs cells slots d0 C hd hl hw hS ha hb hc hs
  exact lv_astore C.1 C.2.1 d hl.2 hi rfl (fun A2 hA2 => (k n0 p e s m args below meth c H A2 locs cells slots d0 C hd (lh_set (i := 6) hl rfl hA2) hw hS ha hb hc hs))
theorem g_zst6 {x0 x1 x2 x3 x4 x5 : Option Value} {r : List (Option Value)}  {y : Option Value} (hi : 6 < M.2.2.1) (d : decode M.2.1 pc = .ok (.astore 6, 2)) (k : Go G M n1 R h n (pc + 2) (x0 :: x1 :: x2 :: x3 :: x4 :: x5 :: some (.null) :: r) st) : Go G M n1 R h n pc (x0 :: x1 :: x2 :: x3 :: x4 :: x5 :: y :: r) (.null :: st) := by
  intro n0 p e s m args below meth c H A locs cells slots d0 C hd hl hw hS ha hb hc hs
  exact lv_astoreN C.1 C.2.1 d hl.2 hi rfl (fun A2 hA2 => (k n0 p e s m args below meth c H A2 locs cells slots d0 C hd (lh_set (i := 6) hl rfl hA2) hw hS ha hb hc hs))
theorem g_iinc6 {x0 x1 x2 x3 x4 x5 : Option Value} {r : List (Option Value)} {x v : Int32} {q : Int} (hi : 6 < M.2.2.1) (d : decode M.2.1 pc = .ok (.iinc 6 q, 3)) (hv : x + Int32.ofInt q = v) (k : Go G M n1 R h n (pc + 3) (x0 :: x1 :: x2 :: x3 :: x4 :: x5 :: some (.int v) :: r) st) : Go G M n1 R h n pc (x0 :: x1 :: x2 :: x3 :: x4 :: x5 :: some (.int x) :: r) st := by
  intro n0 p e s m args below meth c H A locs cells slots d0 C hd hl hw hS ha hb hc hs
  obtain ⟨j, hj⟩ := List.getElem?_of_mem (al_mem.mpr (show (x0 :: x1 :: x2 :: x3 :: x4 :: x5 :: some (.int x) :: r)[6]? = some (some (.int x)) from rfl))
  exact lv_iinc C.1 C.2.1 d hl.2 hj hv hi rfl (fun A2 hA2 => (k n0 p e s m args below meth c H A2 locs cells slots d0 C hd (lh_set (i := 6) hl rfl hA2) hw hS ha hb hc hs))
theorem g_ild7 {x0 x1 x2 x3 x4 x5 x6 : Option Value} {r : List (Option Value)} {x : Int32} (d : decode M.2.1 pc = .ok (.iload 7, 2)) (k : Go G M n1 R h n (pc + 2) (x0 :: x1 :: x2 :: x3 :: x4 :: x5 :: x6 :: some (.int x) :: r) (.int x :: st)) : Go G M n1 R h n pc (x0 :: x1 :: x2 :: x3 :: x4 :: x5 :: x6 :: some (.int x) :: r) st := by
  intro n0 p e s m args below meth c H A locs cells slots d0 C hd hl hw hS ha hb hc hs
  exact lv_iload C.1 C.2.1 d (lh_at hl rfl) (k n0 p e s m args below meth c H A locs cells slots d0 C hd hl hw hS ha hb hc hs)
theorem g_fld7 {x0 x1 x2 x3 x4 x5 x6 : Option Value} {r : List (Option Value)} {x : UInt32} (d : decode M.2.1 pc = .ok (.fload 7, 2)) (k : Go G M n1 R h n (pc + 2) (x0 :: x1 :: x2 :: x3 :: x4 :: x5 :: x6 :: some (.float x) :: r) (.float x :: st)) : Go G M n1 R h n pc (x0 :: x1 :: x2 :: x3 :: x4 :: x5 :: x6 :: some (.float x) :: r) st := by
  intro n0 p e s m args below meth c H A locs cells slots d0 C hd hl hw hS ha hb hc hs
  exact lv_fload C.1 C.2.1 d (lh_at hl rfl) (k n0 p e s m args below meth c H A locs cells slots d0 C hd hl hw hS ha hb hc hs)
theorem g_ald7 {x0 x1 x2 x3 x4 x5 x6 : Option Value} {r : List (Option Value)} {x : Nat} (d : decode M.2.1 pc = .ok (.aload 7, 2)) (k : Go G M n1 R h n (pc + 2) (x0 :: x1 :: x2 :: x3 :: x4 :: x5 :: x6 :: some (ga G x) :: r) (ga G x :: st)) : Go G M n1 R h n pc (x0 :: x1 :: x2 :: x3 :: x4 :: x5 :: x6 :: some (ga G x) :: r) st := by
  intro n0 p e s m args below meth c H A locs cells slots d0 C hd hl hw hS ha hb hc hs
  exact lv_aload C.1 C.2.1 d (lh_at hl rfl) (k n0 p e s m args below meth c H A locs cells slots d0 C hd hl hw hS ha hb hc hs)
theorem g_sld7 {x0 x1 x2 x3 x4 x5 x6 : Option Value} {r : List (Option Value)} {x : Nat} (d : decode M.2.1 pc = .ok (.aload 7, 2)) (k : Go G M n1 R h n (pc + 2) (x0 :: x1 :: x2 :: x3 :: x4 :: x5 :: x6 :: some (.ref x) :: r) (.ref x :: st)) : Go G M n1 R h n pc (x0 :: x1 :: x2 :: x3 :: x4 :: x5 :: x6 :: some (.ref x) :: r) st := by
  intro n0 p e s m args below meth c H A locs cells slots d0 C hd hl hw hS ha hb hc hs
  exact lv_aload C.1 C.2.1 d (lh_at hl rfl) (k n0 p e s m args below meth c H A locs cells slots d0 C hd hl hw hS ha hb hc hs)
theorem g_zld7 {x0 x1 x2 x3 x4 x5 x6 : Option Value} {r : List (Option Value)}  (d : decode M.2.1 pc = .ok (.aload 7, 2)) (k : Go G M n1 R h n (pc + 2) (x0 :: x1 :: x2 :: x3 :: x4 :: x5 :: x6 :: some (.null) :: r) (.null :: st)) : Go G M n1 R h n pc (x0 :: x1 :: x2 :: x3 :: x4 :: x5 :: x6 :: some (.null) :: r) st := by
  intro n0 p e s m args below meth c H A locs cells slots d0 C hd hl hw hS ha hb hc hs
  exact lv_aloadN C.1 C.2.1 d (lh_at hl rfl) (k n0 p e s m args below meth c H A locs cells slots d0 C hd hl hw hS ha hb hc hs)
theorem g_ist7 {x0 x1 x2 x3 x4 x5 x6 : Option Value} {r : List (Option Value)} {x : Int32} {y : Option Value} (hi : 7 < M.2.2.1) (d : decode M.2.1 pc = .ok (.istore 7, 2)) (k : Go G M n1 R h n (pc + 2) (x0 :: x1 :: x2 :: x3 :: x4 :: x5 :: x6 :: some (.int x) :: r) st) : Go G M n1 R h n pc (x0 :: x1 :: x2 :: x3 :: x4 :: x5 :: x6 :: y :: r) (.int x :: st) := by
  intro n0 p e s m args below meth c H A locs cells slots d0 C hd hl hw hS ha hb hc hs
  exact lv_istore C.1 C.2.1 d hl.2 hi rfl (fun A2 hA2 => (k n0 p e s m args below meth c H A2 locs cells slots d0 C hd (lh_set (i := 7) hl rfl hA2) hw hS ha hb hc hs))
theorem g_fst7 {x0 x1 x2 x3 x4 x5 x6 : Option Value} {r : List (Option Value)} {x : UInt32} {y : Option Value} (hi : 7 < M.2.2.1) (d : decode M.2.1 pc = .ok (.fstore 7, 2)) (k : Go G M n1 R h n (pc + 2) (x0 :: x1 :: x2 :: x3 :: x4 :: x5 :: x6 :: some (.float x) :: r) st) : Go G M n1 R h n pc (x0 :: x1 :: x2 :: x3 :: x4 :: x5 :: x6 :: y :: r) (.float x :: st) := by
  intro n0 p e s m args below meth c H A locs cells slots d0 C hd hl hw hS ha hb hc hs
  exact lv_fstore C.1 C.2.1 d hl.2 hi rfl (fun A2 hA2 => (k n0 p e s m args below meth c H A2 locs cells slots d0 C hd (lh_set (i := 7) hl rfl hA2) hw hS ha hb hc hs))
theorem g_ast7 {x0 x1 x2 x3 x4 x5 x6 : Option Value} {r : List (Option Value)} {x : Nat} {y : Option Value} (hi : 7 < M.2.2.1) (d : decode M.2.1 pc = .ok (.astore 7, 2)) (k : Go G M n1 R h n (pc + 2) (x0 :: x1 :: x2 :: x3 :: x4 :: x5 :: x6 :: some (ga G x) :: r) st) : Go G M n1 R h n pc (x0 :: x1 :: x2 :: x3 :: x4 :: x5 :: x6 :: y :: r) (ga G x :: st) := by
  intro n0 p e s m args below meth c H A locs cells slots d0 C hd hl hw hS ha hb hc hs
  exact lv_astore C.1 C.2.1 d hl.2 hi rfl (fun A2 hA2 => (k n0 p e s m args below meth c H A2 locs cells slots d0 C hd (lh_set (i := 7) hl rfl hA2) hw hS ha hb hc hs))
theorem g_zst7 {x0 x1 x2 x3 x4 x5 x6 : Option Value} {r : List (Option Value)}  {y : Option Value} (hi : 7 < M.2.2.1) (d : decode M.2.1 pc = .ok (.astore 7, 2)) (k : Go G M n1 R h n (pc + 2) (x0 :: x1 :: x2 :: x3 :: x4 :: x5 :: x6 :: some (.null) :: r) st) : Go G M n1 R h n pc (x0 :: x1 :: x2 :: x3 :: x4 :: x5 :: x6 :: y :: r) (.null :: st) := by
  intro n0 p e s m args below meth c H A locs cells slots d0 C hd hl hw hS ha hb hc hs
  exact lv_astoreN C.1 C.2.1 d hl.2 hi rfl (fun A2 hA2 => (k n0 p e s m args below meth c H A2 locs cells slots d0 C hd (lh_set (i := 7) hl rfl hA2) hw hS ha hb hc hs))
theorem g_iinc7 {x0 x1 x2 x3 x4 x5 x6 : Option Value} {r : List (Option Value)} {x v : Int32} {q : Int} (hi : 7 < M.2.2.1) (d : decode M.2.1 pc = .ok (.iinc 7 q, 3)) (hv : x + Int32.ofInt q = v) (k : Go G M n1 R h n (pc + 3) (x0 :: x1 :: x2 :: x3 :: x4 :: x5 :: x6 :: some (.int v) :: r) st) : Go G M n1 R h n pc (x0 :: x1 :: x2 :: x3 :: x4 :: x5 :: x6 :: some (.int x) :: r) st := by
  intro n0 p e s m args below meth c H A locs cells slots d0 C hd hl hw hS ha hb hc hs
  obtain ⟨j, hj⟩ := List.getElem?_of_mem (al_mem.mpr (show (x0 :: x1 :: x2 :: x3 :: x4 :: x5 :: x6 :: some (.int x) :: r)[7]? = some (some (.int x)) from rfl))
  exact lv_iinc C.1 C.2.1 d hl.2 hj hv hi rfl (fun A2 hA2 => (k n0 p e s m args below meth c H A2 locs cells slots d0 C hd (lh_set (i := 7) hl rfl hA2) hw hS ha hb hc hs))
theorem g_ild8 {x0 x1 x2 x3 x4 x5 x6 x7 : Option Value} {r : List (Option Value)} {x : Int32} (d : decode M.2.1 pc = .ok (.iload 8, 2)) (k : Go G M n1 R h n (pc + 2) (x0 :: x1 :: x2 :: x3 :: x4 :: x5 :: x6 :: x7 :: some (.int x) :: r) (.int x :: st)) : Go G M n1 R h n pc (x0 :: x1 :: x2 :: x3 :: x4 :: x5 :: x6 :: x7 :: some (.int x) :: r) st := by
  intro n0 p e s m args below meth c H A locs cells slots d0 C hd hl hw hS ha hb hc hs
  exact lv_iload C.1 C.2.1 d (lh_at hl rfl) (k n0 p e s m args below meth c H A locs cells slots d0 C hd hl hw hS ha hb hc hs)
theorem g_fld8 {x0 x1 x2 x3 x4 x5 x6 x7 : Option Value} {r : List (Option Value)} {x : UInt32} (d : decode M.2.1 pc = .ok (.fload 8, 2)) (k : Go G M n1 R h n (pc + 2) (x0 :: x1 :: x2 :: x3 :: x4 :: x5 :: x6 :: x7 :: some (.float x) :: r) (.float x :: st)) : Go G M n1 R h n pc (x0 :: x1 :: x2 :: x3 :: x4 :: x5 :: x6 :: x7 :: some (.float x) :: r) st := by
  intro n0 p e s m args below meth c H A locs cells slots d0 C hd hl hw hS ha hb hc hs
  exact lv_fload C.1 C.2.1 d (lh_at hl rfl) (k n0 p e s m args below meth c H A locs cells slots d0 C hd hl hw hS ha hb hc hs)
theorem g_ald8 {x0 x1 x2 x3 x4 x5 x6 x7 : Option Value} {r : List (Option Value)} {x : Nat} (d : decode M.2.1 pc = .ok (.aload 8, 2)) (k : Go G M n1 R h n (pc + 2) (x0 :: x1 :: x2 :: x3 :: x4 :: x5 :: x6 :: x7 :: some (ga G x) :: r) (ga G x :: st)) : Go G M n1 R h n pc (x0 :: x1 :: x2 :: x3 :: x4 :: x5 :: x6 :: x7 :: some (ga G x) :: r) st := by
  intro n0 p e s m args below meth c H A locs cells slots d0 C hd hl hw hS ha hb hc hs
  exact lv_aload C.1 C.2.1 d (lh_at hl rfl) (k n0 p e s m args below meth c H A locs cells slots d0 C hd hl hw hS ha hb hc hs)
theorem g_sld8 {x0 x1 x2 x3 x4 x5 x6 x7 : Option Value} {r : List (Option Value)} {x : Nat} (d : decode M.2.1 pc = .ok (.aload 8, 2)) (k : Go G M n1 R h n (pc + 2) (x0 :: x1 :: x2 :: x3 :: x4 :: x5 :: x6 :: x7 :: some (.ref x) :: r) (.ref x :: st)) : Go G M n1 R h n pc (x0 :: x1 :: x2 :: x3 :: x4 :: x5 :: x6 :: x7 :: some (.ref x) :: r) st := by
  intro n0 p e s m args below meth c H A locs cells slots d0 C hd hl hw hS ha hb hc hs
  exact lv_aload C.1 C.2.1 d (lh_at hl rfl) (k n0 p e s m args below meth c H A locs cells slots d0 C hd hl hw hS ha hb hc hs)
theorem g_zld8 {x0 x1 x2 x3 x4 x5 x6 x7 : Option Value} {r : List (Option Value)}  (d : decode M.2.1 pc = .ok (.aload 8, 2)) (k : Go G M n1 R h n (pc + 2) (x0 :: x1 :: x2 :: x3 :: x4 :: x5 :: x6 :: x7 :: some (.null) :: r) (.null :: st)) : Go G M n1 R h n pc (x0 :: x1 :: x2 :: x3 :: x4 :: x5 :: x6 :: x7 :: some (.null) :: r) st := by
  intro n0 p e s m args below meth c H A locs cells slots d0 C hd hl hw hS ha hb hc hs
  exact lv_aloadN C.1 C.2.1 d (lh_at hl rfl) (k n0 p e s m args below meth c H A locs cells slots d0 C hd hl hw hS ha hb hc hs)
theorem g_ist8 {x0 x1 x2 x3 x4 x5 x6 x7 : Option Value} {r : List (Option Value)} {x : Int32} {y : Option Value} (hi : 8 < M.2.2.1) (d : decode M.2.1 pc = .ok (.istore 8, 2)) (k : Go G M n1 R h n (pc + 2) (x0 :: x1 :: x2 :: x3 :: x4 :: x5 :: x6 :: x7 :: some (.int x) :: r) st) : Go G M n1 R h n pc (x0 :: x1 :: x2 :: x3 :: x4 :: x5 :: x6 :: x7 :: y :: r) (.int x :: st) := by
  intro n0 p e s m args below meth c H A locs cells slots d0 C hd hl hw hS ha hb hc hs
  exact lv_istore C.1 C.2.1 d hl.2 hi rfl (fun A2 hA2 => (k n0 p e s m args below meth c H A2 locs cells slots d0 C hd (lh_set (i := 8) hl rfl hA2) hw hS ha hb hc hs))
theorem g_fst8 {x0 x1 x2 x3 x4 x5 x6 x7 : Option Value} {r : List (Option Value)} {x : UInt32} {y : Option Value} (hi : 8 < M.2.2.1) (d : decode M.2.1 pc = .ok (.fstore 8, 2)) (k : Go G M n1 R h n (pc + 2) (x0 :: x1 :: x2 :: x3 :: x4 :: x5 :: x6 :: x7 :: some (.float x) :: r) st) : Go G M n1 R h n pc (x0 :: x1 :: x2 :: x3 :: x4 :: x5 :: x6 :: x7 :: y :: r) (.float x :: st) := by
  intro n0 p e s m args below meth c H A locs cells slots d0 C hd hl hw hS ha hb hc hs
  exact lv_fstore C.1 C.2.1 d hl.2 hi rfl (fun A2 hA2 => (k n0 p e s m args below meth c H A2 locs cells slots d0 C hd (lh_set (i := 8) hl rfl hA2) hw hS ha hb hc hs))
theorem g_ast8 {x0 x1 x2 x3 x4 x5 x6 x7 : Option Value} {r : List (Option Value)} {x : Nat} {y : Option Value} (hi : 8 < M.2.2.1) (d : decode M.2.1 pc = .ok (.astore 8, 2)) (k : Go G M n1 R h n (pc + 2) (x0 :: x1 :: x2 :: x3 :: x4 :: x5 :: x6 :: x7 :: some (ga G x) :: r) st) : Go G M n1 R h n pc (x0 :: x1 :: x2 :: x3 :: x4 :: x5 :: x6 :: x7 :: y :: r) (ga G x :: st) := by
  intro n0 p e s m args below meth c H A locs cells slots d0 C hd hl hw hS ha hb hc hs
  exact lv_astore C.1 C.2.1 d hl.2 hi rfl (fun A2 hA2 => (k n0 p e s m args below meth c H A2 locs cells slots d0 C hd (lh_set (i := 8) hl rfl hA2) hw hS ha hb hc hs))
theorem g_zst8 {x0 x1 x2 x3 x4 x5 x6 x7 : Option Value} {r : List (Option Value)}  {y : Option Value} (hi : 8 < M.2.2.1) (d : decode M.2.1 pc = .ok (.astore 8, 2)) (k : Go G M n1 R h n (pc + 2) (x0 :: x1 :: x2 :: x3 :: x4 :: x5 :: x6 :: x7 :: some (.null) :: r) st) : Go G M n1 R h n pc (x0 :: x1 :: x2 :: x3 :: x4 :: x5 :: x6 :: x7 :: y :: r) (.null :: st) := by
  intro n0 p e s m args below meth c H A locs cells slots d0 C hd hl hw hS ha hb hc hs
  exact lv_astoreN C.1 C.2.1 d hl.2 hi rfl (fun A2 hA2 => (k n0 p e s m args below meth c H A2 locs cells slots d0 C hd (lh_set (i := 8) hl rfl hA2) hw hS ha hb hc hs))
theorem g_iinc8 {x0 x1 x2 x3 x4 x5 x6 x7 : Option Value} {r : List (Option Value)} {x v : Int32} {q : Int} (hi : 8 < M.2.2.1) (d : decode M.2.1 pc = .ok (.iinc 8 q, 3)) (hv : x + Int32.ofInt q = v) (k : Go G M n1 R h n (pc + 3) (x0 :: x1 :: x2 :: x3 :: x4 :: x5 :: x6 :: x7 :: some (.int v) :: r) st) : Go G M n1 R h n pc (x0 :: x1 :: x2 :: x3 :: x4 :: x5 :: x6 :: x7 :: some (.int x) :: r) st := by
  intro n0 p e s m args below meth c H A locs cells slots d0 C hd hl hw hS ha hb hc hs
  obtain ⟨j, hj⟩ := List.getElem?_of_mem (al_mem.mpr (show (x0 :: x1 :: x2 :: x3 :: x4 :: x5 :: x6 :: x7 :: some (.int x) :: r)[8]? = some (some (.int x)) from rfl))
  exact lv_iinc C.1 C.2.1 d hl.2 hj hv hi rfl (fun A2 hA2 => (k n0 p e s m args below meth c H A2 locs cells slots d0 C hd (lh_set (i := 8) hl rfl hA2) hw hS ha hb hc hs))
theorem g_ild9 {x0 x1 x2 x3 x4 x5 x6 x7 x8 : Option Value} {r : List (Option Value)} {x : Int32} (d : decode M.2.1 pc = .ok (.iload 9, 2)) (k : Go G M n1 R h n (pc + 2) (x0 :: x1 :: x2 :: x3 :: x4 :: x5 :: x6 :: x7 :: x8 :: some (.int x) :: r) (.int x :: st)) : Go G M n1 R h n pc (x0 :: x1 :: x2 :: x3 :: x4 :: x5 :: x6 :: x7 :: x8 :: some (.int x) :: r) st := by
  intro n0 p e s m args below meth c H A locs cells slots d0 C hd hl hw hS ha hb hc hs
  exact lv_iload C.1 C.2.1 d (lh_at hl rfl) (k n0 p e s m args below meth c H A locs cells slots d0 C hd hl hw hS ha hb hc hs)
theorem g_fld9 {x0 x1 x2 x3 x4 x5 x6 x7 x8 : Option Value} {r : List (Option Value)} {x : UInt32} (d : decode M.2.1 pc = .ok (.fload 9, 2)) (k : Go G M n1 R h n (pc + 2) (x0 :: x1 :: x2 :: x3 :: x4 :: x5 :: x6 :: x7 :: x8 :: some (.float x) :: r) (.float x :: st)) : Go G M n1 R h n pc (x0 :: x1 :: x2 :: x3 :: x4 :: x5 :: x6 :: x7 :: x8 :: some (.float x) :: r) st := by
  intro n0 p e s m args below meth c H A locs cells slots d0 C hd hl hw hS ha hb hc hs
  exact lv_fload C.1 C.2.1 d (lh_at hl rfl) (k n0 p e s m args below meth c H A locs cells slots d0 C hd hl hw hS ha hb hc hs)
theorem g_ald9 {x0 x1 x2 x3 x4 x5 x6 x7 x8 : Option Value} {r : List (Option Value)} {x : Nat} (d : decode M.2.1 pc = .ok (.aload 9, 2)) (k : Go G M n1 R h n (pc + 2) (x0 :: x1 :: x2 :: x3 :: x4 :: x5 :: x6 :: x7 :: x8 :: some (ga G x) :: r) (ga G x :: st)) : Go G M n1 R h n pc (x0 :: x1 :: x2 :: x3 :: x4 :: x5 :: x6 :: x7 :: x8 :: some (ga G x) :: r) st := by
  intro n0 p e s m args below meth c H A locs cells slots d0 C hd hl hw hS ha hb hc hs
  exact lv_aload C.1 C.2.1 d (lh_at hl rfl) (k n0 p e s m args below meth c H A locs cells slots d0 C hd hl hw hS ha hb hc hs)
theorem g_sld9 {x0 x1 x2 x3 x4 x5 x6 x7 x8 : Option Value} {r : List (Option Value)} {x : Nat} (d : decode M.2.1 pc = .ok (.aload 9, 2)) (k : Go G M n1 R h n (pc + 2) (x0 :: x1 :: x2 :: x3 :: x4 :: x5 :: x6 :: x7 :: x8 :: some (.ref x) :: r) (.ref x :: st)) : Go G M n1 R h n pc (x0 :: x1 :: x2 :: x3 :: x4 :: x5 :: x6 :: x7 :: x8 :: some (.ref x) :: r) st := by
  intro n0 p e s m args below meth c H A locs cells slots d0 C hd hl hw hS ha hb hc hs
  exact lv_aload C.1 C.2.1 d (lh_at hl rfl) (k n0 p e s m args below meth c H A locs cells slots d0 C hd hl hw hS ha hb hc hs)
theorem g_zld9 {x0 x1 x2 x3 x4 x5 x6 x7 x8 : Option Value} {r : List (Option Value)}  (d : decode M.2.1 pc = .ok (.aload 9, 2)) (k : Go G M n1 R h n (pc + 2) (x0 :: x1 :: x2 :: x3 :: x4 :: x5 :: x6 :: x7 :: x8 :: some (.null) :: r) (.null :: st)) : Go G M n1 R h n pc (x0 :: x1 :: x2 :: x3 :: x4 :: x5 :: x6 :: x7 :: x8 :: some (.null) :: r) st := by
  intro n0 p e s m args below meth c H A locs cells slots d0 C hd hl hw hS ha hb hc hs
  exact lv_aloadN C.1 C.2.1 d (lh_at hl rfl) (k n0 p e s m args below meth c H A locs cells slots d0 C hd hl hw hS ha hb hc hs)
theorem g_ist9 {x0 x1 x2 x3 x4 x5 x6 x7 x8 : Option Value} {r : List (Option Value)} {x : Int32} {y : Option Value} (hi : 9 < M.2.2.1) (d : decode M.2.1 pc = .ok (.istore 9, 2)) (k : Go G M n1 R h n (pc + 2) (x0 :: x1 :: x2 :: x3 :: x4 :: x5 :: x6 :: x7 :: x8 :: some (.int x) :: r) st) : Go G M n1 R h n pc (x0 :: x1 :: x2 :: x3 :: x4 :: x5 :: x6 :: x7 :: x8 :: y :: r) (.int x :: st) := by
  intro n0 p e s m args below meth c H A locs cells slots d0 C hd hl hw hS ha hb hc hs
  exact lv_istore C.1 C.2.1 d hl.2 hi rfl (fun A2 hA2 => (k n0 p e s m args below meth c H A2 locs cells slots d0 C hd (lh_set (i := 9) hl rfl hA2) hw hS ha hb hc hs))
theorem g_fst9 {x0 x1 x2 x3 x4 x5 x6 x7 x8 : Option Value} {r : List (Option Value)} {x : UInt32} {y : Option Value} (hi : 9 < M.2.2.1) (d : decode M.2.1 pc = .ok (.fstore 9, 2)) (k : Go G M n1 R h n (pc + 2) (x0 :: x1 :: x2 :: x3 :: x4 :: x5 :: x6 :: x7 :: x8 :: some (.float x) :: r) st) : Go G M n1 R h n pc (x0 :: x1 :: x2 :: x3 :: x4 :: x5 :: x6 :: x7 :: x8 :: y :: r) (.float x :: st) := by
  intro n0 p e s m args below meth c H A locs cells slots d0 C hd hl hw hS ha hb hc hs
  exact lv_fstore C.1 C.2.1 d hl.2 hi rfl (fun A2 hA2 => (k n0 p e s m args below meth c H A2 locs cells slots d0 C hd (lh_set (i := 9) hl rfl hA2) hw hS ha hb hc hs))
theorem g_ast9 {x0 x1 x2 x3 x4 x5 x6 x7 x8 : Option Value} {r : List (Option Value)} {x : Nat} {y : Option Value} (hi : 9 < M.2.2.1) (d : decode M.2.1 pc = .ok (.astore 9, 2)) (k : Go G M n1 R h n (pc + 2) (x0 :: x1 :: x2 :: x3 :: x4 :: x5 :: x6 :: x7 :: x8 :: some (ga G x) :: r) st) : Go G M n1 R h n pc (x0 :: x1 :: x2 :: x3 :: x4 :: x5 :: x6 :: x7 :: x8 :: y :: r) (ga G x :: st) := by
  intro n0 p e s m args below meth c H A locs cells slots d0 C hd hl hw hS ha hb hc hs
  exact lv_astore C.1 C.2.1 d hl.2 hi rfl (fun A2 hA2 => (k n0 p e s m args below meth c H A2 locs cells slots d0 C hd (lh_set (i := 9) hl rfl hA2) hw hS ha hb hc hs))
theorem g_zst9 {x0 x1 x2 x3 x4 x5 x6 x7 x8 : Option Value} {r : List (Option Value)}  {y : Option Value} (hi : 9 < M.2.2.1) (d : decode M.2.1 pc = .ok (.astore 9, 2)) (k : Go G M n1 R h n (pc + 2) (x0 :: x1 :: x2 :: x3 :: x4 :: x5 :: x6 :: x7 :: x8 :: some (.null) :: r) st) : Go G M n1 R h n pc (x0 :: x1 :: x2 :: x3 :: x4 :: x5 :: x6 :: x7 :: x8 :: y :: r) (.null :: st) := by
  intro n0 p e s m args below meth c H A locs cells slots d0 C hd hl hw hS ha hb hc hs
  exact lv_astoreN C.1 C.2.1 d hl.2 hi rfl (fun A2 hA2 => (k n0 p e s m args below meth c H A2 locs cells slots d0 C hd (lh_set (i := 9) hl rfl hA2) hw hS ha hb hc hs))
theorem g_iinc9 {x0 x1 x2 x3 x4 x5 x6 x7 x8 : Option Value} {r : List (Option Value)} {x v : Int32} {q : Int} (hi : 9 < M.2.2.1) (d : decode M.2.1 pc = .ok (.iinc 9 q, 3)) (hv : x + Int32.ofInt q = v) (k : Go G M n1 R h n (pc + 3) (x0 :: x1 :: x2 :: x3 :: x4 :: x5 :: x6 :: x7 :: x8 :: some (.int v) :: r) st) : Go G M n1 R h n pc (x0 :: x1 :: x2 :: x3 :: x4 :: x5 :: x6 :: x7 :: x8 :: some (.int x) :: r) st := by
  intro n0 p e s m args below meth c H A locs cells slots d0 C hd hl hw hS ha hb hc hs
  obtain ⟨j, hj⟩ := List.getElem?_of_mem (al_mem.mpr (show (x0 :: x1 :: x2 :: x3 :: x4 :: x5 :: x6 :: x7 :: x8 :: some (.int x) :: r)[9]? = some (some (.int x)) from rfl))
  exact lv_iinc C.1 C.2.1 d hl.2 hj hv hi rfl (fun A2 hA2 => (k n0 p e s m args below meth c H A2 locs cells slots d0 C hd (lh_set (i := 9) hl rfl hA2) hw hS ha hb hc hs))
theorem g_ild10 {x0 x1 x2 x3 x4 x5 x6 x7 x8 x9 : Option Value} {r : List (Option Value)} {x : Int32} (d : decode M.2.1 pc = .ok (.iload 10, 2)) (k : Go G M n1 R h n (pc + 2) (x0 :: x1 :: x2 :: x3 :: x4 :: x5 :: x6 :: x7 :: x8 :: x9 :: some (.int x) :: r) (.int x :: st)) : Go G M n1 R h n pc (x0 :: x1 :: x2 :: x3 :: x4 :: x5 :: x6 :: x7 :: x8 :: x9 :: some (.int x) :: r) st := by
  intro n0 p e s m args below meth c H A locs cells slots d0 C hd hl hw hS ha hb hc hs
  exact lv_iload C.1 C.2.1 d (lh_at hl rfl) (k n0 p e s m args below meth c H A locs cells slots d0 C hd hl hw hS ha hb hc hs)
theorem g_fld10 {x0 x1 x2 x3 x4 x5 x6 x7 x8 x9 : Option Value} {r : List (Option Value)} {x : UInt32} (d : decode M.2.1 pc = .ok (.fload 10, 2)) (k : Go G M n1 R h n (pc + 2) (x0 :: x1 :: x2 :: x3 :: x4 :: x5 :: x6 :: x7 :: x8 :: x9 :: some (.float x) :: r) (.float x :: st)) : Go G M n1 R h n pc (x0 :: x1 :: x2 :: x3 :: x4 :: x5 :: x6 :: x7 :: x8 :: x9 :: some (.float x) :: r) st := by
  intro n0 p e s m args below meth c H A locs cells slots d0 C hd hl hw hS ha hb hc hs
  exact lv_fload C.1 C.2.1 d (lh_at hl rfl) (k n0 p e s m args below meth c H A locs cells slots d0 C hd hl hw hS ha hb hc hs)
theorem g_ald10 {x0 x1 x2 x3 x4 x5 x6 x7 x8 x9 : Option Value} {r : List (Option Value)} {x : Nat} (d : decode M.2.1 pc = .ok (.aload 10, 2)) (k : Go G M n1 R h n (pc + 2) (x0 :: x1 :: x2 :: x3 :: x4 :: x5 :: x6 :: x7 :: x8 :: x9 :: some (ga G x) :: r) (ga G x :: st)) : Go G M n1 R h n pc (x0 :: x1 :: x2 :: x3 :: x4 :: x5 :: x6 :: x7 :: x8 :: x9 :: some (ga G x) :: r) st := by
  intro n0 p e s m args below meth c H A locs cells slots d0 C hd hl hw hS ha hb hc hs
  exact lv_aload C.1 C.2.1 d (lh_at hl rfl) (k n0 p e s m args below meth c H A locs cells slots d0 C hd hl hw hS ha hb hc hs)
theorem g_sld10 {x0 x1 x2 x3 x4 x5 x6 x7 x8 x9 : Option Value} {r : List (Option Value)} {x : Nat} (d : decode M.2.1 pc = .ok (.aload 10, 2)) (k : Go G M n1 R h n (pc + 2) (x0 :: x1 :: x2 :: x3 :: x4 :: x5 :: x6 :: x7 :: x8 :: x9 :: some (.ref x) :: r) (.ref x :: st)) : Go G M n1 R h n pc (x0 :: x1 :: x2 :: x3 :: x4 :: x5 :: x6 :: x7 :: x8 :: x9 :: some (.ref x) :: r) st := by
  intro n0 p e s m args below meth c H A locs cells slots d0 C hd hl hw hS ha hb hc hs
  exact lv_aload C.1 C.2.1 d (lh_at hl rfl) (k n0 p e s m args below meth c H A locs cells slots d0 C hd hl hw hS ha hb hc hs)
theorem g_zld10 {x0 x1 x2 x3 x4 x5 x6 x7 x8 x9 : Option Value} {r : List (Option Value)}  (d : decode M.2.1 pc = .ok (.aload 10, 2)) (k : Go G M n1 R h n (pc + 2) (x0 :: x1 :: x2 :: x3 :: x4 :: x5 :: x6 :: x7 :: x8 :: x9 :: some (.null) :: r) (.null :: st)) : Go G M n1 R h n pc (x0 :: x1 :: x2 :: x3 :: x4 :: x5 :: x6 :: x7 :: x8 :: x9 :: some (.null) :: r) st := by
  intro n0 p e s m args below meth c H A locs cells slots d0 C hd hl hw hS ha hb hc hs
  exact lv_aloadN C.1 C.2.1 d (lh_at hl rfl) (k n0 p e s m args below meth c H A locs cells slots d0 C hd hl hw hS ha hb hc hs)
theorem g_ist10 {x0 x1 x2 x3 x4 x5 x6 x7 x8 x9 : Option Value} {r : List (Option Value)} {x : Int32} {y : Option Value} (hi : 10 < M.2.2.1) (d : decode M.2.1 pc = .ok (.istore 10, 2)) (k : Go G M n1 R h n (pc + 2) (x0 :: x1 :: x2 :: x3 :: x4 :: x5 :: x6 :: x7 :: x8 :: x9 :: some (.int x) :: r) st) : Go G M n1 R h n pc (x0 :: x1 :: x2 :: x3 :: x4 :: x5 :: x6 :: x7 :: x8 :: x9 :: y :: r) (.int x :: st) := by
  intro n0 p e s m args below meth c H A locs cells slots d0 C hd hl hw hS ha hb hc hs
  exact lv_istore C.1 C.2.1 d hl.2 hi rfl (fun A2 hA2 => (k n0 p e s m args below meth c H A2 locs cells slots d0 C hd (lh_set (i := 10) hl rfl hA2) hw hS ha hb hc hs))
theorem g_fst10 {x0 x1 x2 x3 x4 x5 x6 x7 x8 x9 : Option Value} {r : List (Option Value)} {x : UInt32} {y : Option Value} (hi : 10 < M.2.2.1) (d : decode M.2.1 pc = .ok (.fstore 10, 2)) (k : Go G M n1 R h n (pc + 2) (x0 :: x1 :: x2 :: x3 :: x4 :: x5 :: x6 :: x7 :: x8 :: x9 :: some (.float x) :: r) st) : Go G M n1 R h n pc (x0 :: x1 :: x2 :: x3 :: x4 :: x5 :: x6 :: x7 :: x8 :: x9 :: y :: r) (.float x :: st) := by
  intro n0 p e s m args below meth c H A locs cells slots d0 C hd hl hw hS ha hb hc hs
  exact lv_fstore C.1 C.2.1 d hl.2 hi rfl (fun A2 hA2 => (k n0 p e s m args below meth c H A2 locs cells slots d0 C hd (lh_set (i := 10) hl rfl hA2) hw hS ha hb hc hs))
theorem g_ast10 {x0 x1 x2 x3 x4 x5 x6 x7 x8 x9 : Option Value} {r : List (Option Value)} {x : Nat} {y : Option Value} (hi : 10 < M.2.2.1) (d : decode M.2.1 pc = .ok (.astore 10, 2)) (k : Go G M n1 R h n (pc + 2) (x0 :: x1 :: x2 :: x3 :: x4 :: x5 :: x6 :: x7 :: x8 :: x9 :: some (ga G x) :: r) st) : Go G M n1 R h n pc (x0 :: x1 :: x2 :: x3 :: x4 :: x5 :: x6 :: x7 :: x8 :: x9 :: y :: r) (ga G x :: st) := by
  intro n0 p e s m args below meth c H A locs cells slots d0 C hd hl hw hS ha hb hc hs
  exact lv_astore C.1 C.2.1 d hl.2 hi rfl (fun A2 hA2 => (k n0 p e s m args below meth c H A2 locs cells slots d0 C hd (lh_set (i := 10) hl rfl hA2) hw hS ha hb hc hs))
theorem g_zst10 {x0 x1 x2 x3 x4 x5 x6 x7 x8 x9 : Option Value} {r : List (Option Value)}  {y : Option Value} (hi : 10 < M.2.2.1) (d : decode M.2.1 pc = .ok (.astore 10, 2)) (k : Go G M n1 R h n (pc + 2) (x0 :: x1 :: x2 :: x3 :: x4 :: x5 :: x6 :: x7 :: x8 :: x9 :: some (.null) :: r) st) : Go G M n1 R h n pc (x0 :: x1 :: x2 :: x3 :: x4 :: x5 :: x6 :: x7 :: x8 :: x9 :: y :: r) (.null :: st) := by
  intro n0 p e s m args below meth c H A locs cells slots d0 C hd hl hw hS ha hb hc hs
  exact lv_astoreN C.1 C.2.1 d hl.2 hi rfl (fun A2 hA2 => (k n0 p e s m args below meth c H A2 locs cells slots d0 C hd (lh_set (i := 10) hl rfl hA2) hw hS ha hb hc hs))
theorem g_iinc10 {x0 x1 x2 x3 x4 x5 x6 x7 x8 x9 : Option Value} {r : List (Option Value)} {x v : Int32} {q : Int} (hi : 10 < M.2.2.1) (d : decode M.2.1 pc = .ok (.iinc 10 q, 3)) (hv : x + Int32.ofInt q = v) (k : Go G M n1 R h n (pc + 3) (x0 :: x1 :: x2 :: x3 :: x4 :: x5 :: x6 :: x7 :: x8 :: x9 :: some (.int v) :: r) st) : Go G M n1 R h n pc (x0 :: x1 :: x2 :: x3 :: x4 :: x5 :: x6 :: x7 :: x8 :: x9 :: some (.int x) :: r) st := by
  intro n0 p e s m args below meth c H A locs cells slots d0 C hd hl hw hS ha hb hc hs
  obtain ⟨j, hj⟩ := List.getElem?_of_mem (al_mem.mpr (show (x0 :: x1 :: x2 :: x3 :: x4 :: x5 :: x6 :: x7 :: x8 :: x9 :: some (.int x) :: r)[10]? = some (some (.int x)) from rfl))
  exact lv_iinc C.1 C.2.1 d hl.2 hj hv hi rfl (fun A2 hA2 => (k n0 p e s m args below meth c H A2 locs cells slots d0 C hd (lh_set (i := 10) hl rfl hA2) hw hS ha hb hc hs))
theorem g_ild11 {x0 x1 x2 x3 x4 x5 x6 x7 x8 x9 x10 : Option Value} {r : List (Option Value)} {x : Int32} (d : decode M.2.1 pc = .ok (.iload 11, 2)) (k : Go G M n1 R h n (pc + 2) (x0 :: x1 :: x2 :: x3 :: x4 :: x5 :: x6 :: x7 :: x8 :: x9 :: x10 :: some (.int x) :: r) (.int x :: st)) : Go G M n1 R h n pc (x0 :: x1 :: x2 :: x3 :: x4 :: x5 :: x6 :: x7 :: x8 :: x9 :: x10 :: some (.int x) :: r) st := by
  intro n0 p e s m args below meth c H A locs cells slots d0 C hd hl hw hS ha hb hc hs
  exact lv_iload C.1 C.2.1 d (lh_at hl rfl) (k n0 p e s m args below meth c H A locs cells slots d0 C hd hl hw hS ha hb hc hs)
theorem g_fld11 {x0 x1 x2 x3 x4 x5 x6 x7 x8 x9 x10 : Option Value} {r : List (Option Value)} {x : UInt32} (d : decode M.2.1 pc = .ok (.fload 11, 2)) (k : Go G M n1 R h n (pc + 2) (x0 :: x1 :: x2 :: x3 :: x4 :: x5 :: x6 :: x7 :: x8 :: x9 :: x10 :: some (.float x) :: r) (.float x :: st)) : Go G M n1 R h n pc (x0 :: x1 :: x2 :: x3 :: x4 :: x5 :: x6 :: x7 :: x8 :: x9 :: x10 :: some (.float x) :: r) st := by
  intro n0 p e s m args below meth c H A locs cells slots d0 C hd hl hw hS ha hb hc hs
  exact lv_fload C.1 C.2.1 d (lh_at hl rfl) (k n0 p e s m args below meth c H A locs cells slots d0 C hd hl hw hS ha hb hc hs)
theorem g_ald11 {x0 x1 x2 x3 x4 x5 x6 x7 x8 x9 x10 : Option Value} {r : List (Option Value)} {x : Nat} (d : decode M.2.1 pc = .ok (.aload 11, 2)) (k : Go G M n1 R h n (pc + 2) (x0 :: x1 :: x2 :: x3 :: x4 :: x5 :: x6 :: x7 :: x8 :: x9 :: x10 :: some (ga G x) :: r) (ga G x :: st)) : Go G M n1 R h n pc (x0 :: x1 :: x2 :: x3 :: x4 :: x5 :: x6 :: x7 :: x8 :: x9 :: x10 :: some (ga G x) :: r) st := by
  intro n0 p e s m args below meth c H A locs cells slots d0 C hd hl hw hS ha hb hc hs
  exact lv_aload C.1 C.2.1 d (lh_at hl rfl) (k n0 p e s m args below meth c H A locs cells slots d0 C hd hl hw hS ha hb hc hs)
theorem g_sld11 {x0 x1 x2 x3 x4 x5 x6 x7 x8 x9 x10 : Option Value} {r : List (Option Value)} {x : Nat} (d : decode M.2.1 pc = .ok (.aload 11, 2)) (k : Go G M n1 R h n (pc + 2) (x0 :: x1 :: x2 :: x3 :: x4 :: x5 :: x6 :: x7 :: x8 :: x9 :: x10 :: some (.ref x) :: r) (.ref x :: st)) : Go G M n1 R h n pc (x0 :: x1 :: x2 :: x3 :: x4 :: x5 :: x6 :: x7 :: x8 :: x9 :: x10 :: some (.ref x) :: r) st := by
  intro n0 p e s m args below meth c H A locs cells slots d0 C hd hl hw hS ha hb hc hs
  exact lv_aload C.1 C.2.1 d (lh_at hl rfl) (k n0 p e s m args below meth c H A locs cells slots d0 C hd hl hw hS ha hb hc hs)
theorem g_zld11 {x0 x1 x2 x3 x4 x5 x6 x7 x8 x9 x10 : Option Value} {r : List (Option Value)}  (d : decode M.2.1 pc = .ok (.aload 11, 2)) (k : Go G M n1 R h n (pc + 2) (x0 :: x1 :: x2 :: x3 :: x4 :: x5 :: x6 :: x7 :: x8 :: x9 :: x10 :: some (.null) :: r) (.null :: st)) : Go G M n1 R h n pc (x0 :: x1 :: x2 :: x3 :: x4 :: x5 :: x6 :: x7 :: x8 :: x9 :: x10 :: some (.null) :: r) st := by
  intro n0 p e s m args below meth c H A locs cells slots d0 C hd hl hw hS ha hb hc hs
  exact lv_aloadN C.1 C.2.1 d (lh_at hl rfl) (k n0 p e s m args below meth c H A locs cells slots d0 C hd hl hw hS ha hb hc hs)
theorem g_ist11 {x0 x1 x2 x3 x4 x5 x6 x7 x8 x9 x10 : Option Value} {r : List (Option Value)} {x : Int32} {y : Option Value} (hi : 11 < M.2.2.1) (d : decode M.2.1 pc = .ok (.istore 11, 2)) (k : Go G M n1 R h n (pc + 2) (x0 :: x1 :: x2 :: x3 :: x4 :: x5 :: x6 :: x7 :: x8 :: x9 :: x10 :: some (.int x) :: r) st) : Go G M n1 R h n pc (x0 :: x1 :: x2 :: x3 :: x4 :: x5 :: x6 :: x7 :: x8 :: x9 :: x10 :: y :: r) (.int x :: st) := by
  intro n0 p e s m args below meth c H A locs cells slots d0 C hd hl hw hS ha hb hc hs
  exact lv_istore C.1 C.2.1 d hl.2 hi rfl (fun A2 hA2 => (k n0 p e s m args below meth c H A2 locs cells slots d0 C hd (lh_set (i := 11) hl rfl hA2) hw hS ha hb hc hs))
theorem g_fst11 {x0 x1 x2 x3 x4 x5 x6 x7 x8 x9 x10 : Option Value} {r : List (Option Value)} {x : UInt32} {y : Option Value} (hi : 11 < M.2.2.1) (d : decode M.2.1 pc = .ok (.fstore 11, 2)) (k : Go G M n1 R h n (pc + 2) (x0 :: x1 :: x2 :: x3 :: x4 :: x5 :: x6 :: x7 :: x8 :: x9 :: x10 :: some (.float x) :: r) st) : Go G M n1 R h n pc (x0 :: x1 :: x2 :: x3 :: x4 :: x5 :: x6 :: x7 :: x8 :: x9 :: x10 :: y :: r) (.float x :: st) := by
  intro n0 p e s m args below meth c H A locs cells slots d0 C hd hl hw hS ha hb hc hs
  exact lv_fstore C.1 C.2.1 d hl.2 hi rfl (fun A2 hA2 => (k n0 p e s m args below meth c H A2 locs cells slots d0 C hd (lh_set (i := 11) hl rfl hA2) hw hS ha hb hc hs))
theorem g_ast11 {x0 x1 x2 x3 x4 x5 x6 x7 x8 x9 x10 : Option Value} {r : List (Option Value)} {x : Nat} {y : Option Value} (hi : 11 < M.2.2.1) (d : decode M.2.1 pc = .ok (.astore 11, 2)) (k : Go G M n1 R h n (pc + 2) (x0 :: x1 :: x2 :: x3 :: x4 :: x5 :: x6 :: x7 :: x8 :: x9 :: x10 :: some (ga G x) :: r) st) : Go G M n1 R h n pc (x0 :: x1 :: x2 :: x3 :: x4 :: x5 :: x6 :: x7 :: x8 :: x9 :: x10 :: y :: r) (ga G x :: st) := by
  intro n0 p e s m args below meth c H A locs cells slots d0 C hd hl hw hS ha hb hc hs
  exact lv_astore C.1 C.2.1 d hl.2 hi rfl (fun A2 hA2 => (k n0 p e s m args below meth c H A2 locs cells slots d0 C hd (lh_set (i := 11) hl rfl hA2) hw hS ha hb hc hs))
theorem g_zst11 {x0 x1 x2 x3 x4 x5 x6 x7 x8 x9 x10 : Option Value} {r : List (Option Value)}  {y : Option Value} (hi : 11 < M.2.2.1) (d : decode M.2.1 pc = .ok (.astore 11, 2)) (k : Go G M n1 R h n (pc + 2) (x0 :: x1 :: x2 :: x3 :: x4 :: x5 :: x6 :: x7 :: x8 :: x9 :: x10 :: some (.null) :: r) st) : Go G M n1 R h n pc (x0 :: x1 :: x2 :: x3 :: x4 :: x5 :: x6 :: x7 :: x8 :: x9 :: x10 :: y :: r) (.null :: st) := by
  intro n0 p e s m args below meth c H A locs cells slots d0 C hd hl hw hS ha hb hc hs
  exact lv_astoreN C.1 C.2.1 d hl.2 hi rfl (fun A2 hA2 => (k n0 p e s m args below meth c H A2 locs cells slots d0 C hd (lh_set (i := 11) hl rfl hA2) hw hS ha hb hc hs))
theorem g_iinc11 {x0 x1 x2 x3 x4 x5 x6 x7 x8 x9 x10 : Option Value} {r : List (Option Value)} {x v : Int32} {q : Int} (hi : 11 < M.2.2.1) (d : decode M.2.1 pc = .ok (.iinc 11 q, 3)) (hv : x + Int32.ofInt q = v) (k : Go G M n1 R h n (pc + 3) (x0 :: x1 :: x2 :: x3 :: x4 :: x5 :: x6 :: x7 :: x8 :: x9 :: x10 :: some (.int v) :: r) st) : Go G M n1 R h n pc (x0 :: x1 :: x2 :: x3 :: x4 :: x5 :: x6 :: x7 :: x8 :: x9 :: x10 :: some (.int x) :: r) st := by
  intro n0 p e s m args below meth c H A locs cells slots d0 C hd hl hw hS ha hb hc hs
  obtain ⟨j, hj⟩ := List.getElem?_of_mem (al_mem.mpr (show (x0 :: x1 :: x2 :: x3 :: x4 :: x5 :: x6 :: x7 :: x8 :: x9 :: x10 :: some (.int x) :: r)[11]? = some (some (.int x)) from rfl))
  exact lv_iinc C.1 C.2.1 d hl.2 hj hv hi rfl (fun A2 hA2 => (k n0 p e s m args below meth c H A2 locs cells slots d0 C hd (lh_set (i := 11) hl rfl hA2) hw hS ha hb hc hs))
theorem g_iadd {x y : Int32} (d : decode M.2.1 pc = .ok (.iadd, 1)) (k : Go G M n1 R h n (pc + 1) ls (.int (x + y) :: st)) : Go G M n1 R h n pc ls (.int y :: .int x :: st) := by
  intro n0 p e s m args below meth c H A locs cells slots d0 C hd hl hw hS ha hb hc hs
  exact lv_iadd C.1 C.2.1 d (k n0 p e s m args below meth c H A locs cells slots d0 C hd hl hw hS ha hb hc hs)
theorem g_iadd_v {x y v : Int32} (d : decode M.2.1 pc = .ok (.iadd, 1)) (hv : x + y = v) (k : Go G M n1 R h n (pc + 1) ls (.int v :: st)) : Go G M n1 R h n pc ls (.int y :: .int x :: st) := by
  intro n0 p e s m args below meth c H A locs cells slots d0 C hd hl hw hS ha hb hc hs
  subst hv
  exact lv_iadd C.1 C.2.1 d (k n0 p e s m args below meth c H A locs cells slots d0 C hd hl hw hS ha hb hc hs)
theorem g_isub {x y : Int32} (d : decode M.2.1 pc = .ok (.isub, 1)) (k : Go G M n1 R h n (pc + 1) ls (.int (x - y) :: st)) : Go G M n1 R h n pc ls (.int y :: .int x :: st) := by
  intro n0 p e s m args below meth c H A locs cells slots d0 C hd hl hw hS ha hb hc hs
  exact lv_isub C.1 C.2.1 d (k n0 p e s m args below meth c H A locs cells slots d0 C hd hl hw hS ha hb hc hs)
theorem g_isub_v {x y v : Int32} (d : decode M.2.1 pc = .ok (.isub, 1)) (hv : x - y = v) (k : Go G M n1 R h n (pc + 1) ls (.int v :: st)) : Go G M n1 R h n pc ls (.int y :: .int x :: st) := by
  intro n0 p e s m args below meth c H A locs cells slots d0 C hd hl hw hS ha hb hc hs
  subst hv
  exact lv_isub C.1 C.2.1 d (k n0 p e s m args below meth c H A locs cells slots d0 C hd hl hw hS ha hb hc hs)
theorem g_imul {x y : Int32} (d : decode M.2.1 pc = .ok (.imul, 1)) (k : Go G M n1 R h n (pc + 1) ls (.int (x * y) :: st)) : Go G M n1 R h n pc ls (.int y :: .int x :: st) := by
  intro n0 p e s m args below meth c H A locs cells slots d0 C hd hl hw hS ha hb hc hs
  exact lv_imul C.1 C.2.1 d (k n0 p e s m args below meth c H A locs cells slots d0 C hd hl hw hS ha hb hc hs)
theorem g_imul_v {x y v : Int32} (d : decode M.2.1 pc = .ok (.imul, 1)) (hv : x * y = v) (k : Go G M n1 R h n (pc + 1) ls (.int v :: st)) : Go G M n1 R h n pc ls (.int y :: .int x :: st) := by
  intro n0 p e s m args below meth c H A locs cells slots d0 C hd hl hw hS ha hb hc hs
  subst hv
  exact lv_imul C.1 C.2.1 d (k n0 p e s m args below meth c H A locs cells slots d0 C hd hl hw hS ha hb hc hs)
theorem g_iand {x y : Int32} (d : decode M.2.1 pc = .ok (.iand, 1)) (k : Go G M n1 R h n (pc + 1) ls (.int (x &&& y) :: st)) : Go G M n1 R h n pc ls (.int y :: .int x :: st) := by
  intro n0 p e s m args below meth c H A locs cells slots d0 C hd hl hw hS ha hb hc hs
  exact lv_iand C.1 C.2.1 d (k n0 p e s m args below meth c H A locs cells slots d0 C hd hl hw hS ha hb hc hs)
theorem g_iand_v {x y v : Int32} (d : decode M.2.1 pc = .ok (.iand, 1)) (hv : x &&& y = v) (k : Go G M n1 R h n (pc + 1) ls (.int v :: st)) : Go G M n1 R h n pc ls (.int y :: .int x :: st) := by
  intro n0 p e s m args below meth c H A locs cells slots d0 C hd hl hw hS ha hb hc hs
  subst hv
  exact lv_iand C.1 C.2.1 d (k n0 p e s m args below meth c H A locs cells slots d0 C hd hl hw hS ha hb hc hs)
theorem g_ior {x y : Int32} (d : decode M.2.1 pc = .ok (.ior, 1)) (k : Go G M n1 R h n (pc + 1) ls (.int (x ||| y) :: st)) : Go G M n1 R h n pc ls (.int y :: .int x :: st) := by
  intro n0 p e s m args below meth c H A locs cells slots d0 C hd hl hw hS ha hb hc hs
  exact lv_ior C.1 C.2.1 d (k n0 p e s m args below meth c H A locs cells slots d0 C hd hl hw hS ha hb hc hs)
theorem g_ior_v {x y v : Int32} (d : decode M.2.1 pc = .ok (.ior, 1)) (hv : x ||| y = v) (k : Go G M n1 R h n (pc + 1) ls (.int v :: st)) : Go G M n1 R h n pc ls (.int y :: .int x :: st) := by
  intro n0 p e s m args below meth c H A locs cells slots d0 C hd hl hw hS ha hb hc hs
  subst hv
  exact lv_ior C.1 C.2.1 d (k n0 p e s m args below meth c H A locs cells slots d0 C hd hl hw hS ha hb hc hs)
theorem g_ishl {x y : Int32} (d : decode M.2.1 pc = .ok (.ishl, 1)) (k : Go G M n1 R h n (pc + 1) ls (.int (x <<< (y &&& 31)) :: st)) : Go G M n1 R h n pc ls (.int y :: .int x :: st) := by
  intro n0 p e s m args below meth c H A locs cells slots d0 C hd hl hw hS ha hb hc hs
  exact lv_ishl C.1 C.2.1 d (k n0 p e s m args below meth c H A locs cells slots d0 C hd hl hw hS ha hb hc hs)
theorem g_ishl_v {x y v : Int32} (d : decode M.2.1 pc = .ok (.ishl, 1)) (hv : x <<< (y &&& 31) = v) (k : Go G M n1 R h n (pc + 1) ls (.int v :: st)) : Go G M n1 R h n pc ls (.int y :: .int x :: st) := by
  intro n0 p e s m args below meth c H A locs cells slots d0 C hd hl hw hS ha hb hc hs
  subst hv
  exact lv_ishl C.1 C.2.1 d (k n0 p e s m args below meth c H A locs cells slots d0 C hd hl hw hS ha hb hc hs)
theorem g_ishr {x y : Int32} (d : decode M.2.1 pc = .ok (.ishr, 1)) (k : Go G M n1 R h n (pc + 1) ls (.int (x >>> (y &&& 31)) :: st)) : Go G M n1 R h n pc ls (.int y :: .int x :: st) := by
  intro n0 p e s m args below meth c H A locs cells slots d0 C hd hl hw hS ha hb hc hs
  exact lv_ishr C.1 C.2.1 d (k n0 p e s m args below meth c H A locs cells slots d0 C hd hl hw hS ha hb hc hs)
theorem g_ishr_v {x y v : Int32} (d : decode M.2.1 pc = .ok (.ishr, 1)) (hv : x >>> (y &&& 31) = v) (k : Go G M n1 R h n (pc + 1) ls (.int v :: st)) : Go G M n1 R h n pc ls (.int y :: .int x :: st) := by
  intro n0 p e s m args below meth c H A locs cells slots d0 C hd hl hw hS ha hb hc hs
  subst hv
  exact lv_ishr C.1 C.2.1 d (k n0 p e s m args below meth c H A locs cells slots d0 C hd hl hw hS ha hb hc hs)
theorem g_iadd_n {a b : Nat} (d : decode M.2.1 pc = .ok (.iadd, 1)) (k : Go G M n1 R h n (pc + 1) ls (.int (nI (a + b)) :: st)) : Go G M n1 R h n pc ls (.int (nI b) :: .int (nI a) :: st) := g_iadd_v d (nI_add a b) k
theorem g_imul_n {a b : Nat} (d : decode M.2.1 pc = .ok (.imul, 1)) (k : Go G M n1 R h n (pc + 1) ls (.int (nI (a * b)) :: st)) : Go G M n1 R h n pc ls (.int (nI b) :: .int (nI a) :: st) := g_imul_v d (pk_mul a b) k
theorem g_iushr {x y v : Int32} (d : decode M.2.1 pc = .ok (.iushr, 1)) (hv : (x.toUInt32 >>> (y.toUInt32 &&& Int32.toUInt32 31)).toInt32 = v) (k : Go G M n1 R h n (pc + 1) ls (.int v :: st)) : Go G M n1 R h n pc ls (.int y :: .int x :: st) := by
  intro n0 p e s m args below meth c H A locs cells slots d0 C hd hl hw hS ha hb hc hs
  exact lv_iushr C.1 C.2.1 d hv (k n0 p e s m args below meth c H A locs cells slots d0 C hd hl hw hS ha hb hc hs)
theorem g_irem {x y v : Int32} (d : decode M.2.1 pc = .ok (.irem, 1)) (hne : ¬ y = 0) (hv : x - x / y * y = v) (k : Go G M n1 R h n (pc + 1) ls (.int v :: st)) : Go G M n1 R h n pc ls (.int y :: .int x :: st) := by
  intro n0 p e s m args below meth c H A locs cells slots d0 C hd hl hw hS ha hb hc hs
  subst hv
  exact lv_irem C.1 C.2.1 d hne (k n0 p e s m args below meth c H A locs cells slots d0 C hd hl hw hS ha hb hc hs)
theorem g_ineg {x : Int32} (d : decode M.2.1 pc = .ok (.ineg, 1)) (k : Go G M n1 R h n (pc + 1) ls (.int (-x) :: st)) : Go G M n1 R h n pc ls (.int x :: st) := by
  intro n0 p e s m args below meth c H A locs cells slots d0 C hd hl hw hS ha hb hc hs
  exact lv_ineg C.1 C.2.1 d (k n0 p e s m args below meth c H A locs cells slots d0 C hd hl hw hS ha hb hc hs)
theorem g_dup {v : Value} (d : decode M.2.1 pc = .ok (.dup, 1)) (hv : v.category = 1) (k : Go G M n1 R h n (pc + 1) ls (v :: v :: st)) : Go G M n1 R h n pc ls (v :: st) := by
  intro n0 p e s m args below meth c H A locs cells slots d0 C hd hl hw hS ha hb hc hs
  exact lv_dup C.1 C.2.1 d hv (k n0 p e s m args below meth c H A locs cells slots d0 C hd hl hw hS ha hb hc hs)
theorem g_dup_x1 {v w : Value} (d : decode M.2.1 pc = .ok (.dup_x1, 1)) (hv : v.category = 1) (hx : w.category = 1) (k : Go G M n1 R h n (pc + 1) ls (v :: w :: v :: st)) : Go G M n1 R h n pc ls (v :: w :: st) := by
  intro n0 p e s m args below meth c H A locs cells slots d0 C hd hl hw hS ha hb hc hs
  exact lv_dup_x1 C.1 C.2.1 d hv hx (k n0 p e s m args below meth c H A locs cells slots d0 C hd hl hw hS ha hb hc hs)
theorem g_dup2 {v w : Value} (d : decode M.2.1 pc = .ok (.dup2, 1)) (hv : v.category = 1) (hx : w.category = 1) (k : Go G M n1 R h n (pc + 1) ls (v :: w :: v :: w :: st)) : Go G M n1 R h n pc ls (v :: w :: st) := by
  intro n0 p e s m args below meth c H A locs cells slots d0 C hd hl hw hS ha hb hc hs
  exact lv_dup2_11 C.1 C.2.1 d hv hx (k n0 p e s m args below meth c H A locs cells slots d0 C hd hl hw hS ha hb hc hs)
theorem g_pop {v : Value} (d : decode M.2.1 pc = .ok (.pop, 1)) (hv : v.category = 1) (k : Go G M n1 R h n (pc + 1) ls st) : Go G M n1 R h n pc ls (v :: st) := by
  intro n0 p e s m args below meth c H A locs cells slots d0 C hd hl hw hS ha hb hc hs
  exact lv_pop C.1 C.2.1 d hv (k n0 p e s m args below meth c H A locs cells slots d0 C hd hl hw hS ha hb hc hs)
theorem g_if_eq {x : Int32} {off : Int} {tgt : Nat} (d : decode M.2.1 pc = .ok (.ifCond .eq off, 3)) (ht : (pc : Int) + off = (tgt : Int)) (kt : x = 0 → Go G M n1 R h n tgt ls st) (kf : ¬ (x = 0) → Go G M n1 R h n (pc + 3) ls st) : Go G M n1 R h n pc ls (.int x :: st) := by
  intro n0 p e s m args below meth c H A locs cells slots d0 C hd hl hw hS ha hb hc hs
  exact lv_if_eq C.1 C.2.1 d ht (fun q => (kt q n0 p e s m args below meth c H A locs cells slots d0 C hd hl hw hS ha hb hc hs)) (fun q => (kf q n0 p e s m args below meth c H A locs cells slots d0 C hd hl hw hS ha hb hc hs))
theorem g_if_eq_t {x : Int32} {off : Int} {tgt : Nat} (d : decode M.2.1 pc = .ok (.ifCond .eq off, 3)) (ht : (pc : Int) + off = (tgt : Int)) (q : x = 0) (k : Go G M n1 R h n tgt ls st) : Go G M n1 R h n pc ls (.int x :: st) := g_if_eq d ht (fun _ => k) (fun z => absurd q z)
theorem g_if_eq_f {x : Int32} {off : Int} {tgt : Nat} (d : decode M.2.1 pc = .ok (.ifCond .eq off, 3)) (ht : (pc : Int) + off = (tgt : Int)) (q : ¬ (x = 0)) (k : Go G M n1 R h n (pc + 3) ls st) : Go G M n1 R h n pc ls (.int x :: st) := g_if_eq d ht (fun z => absurd z q) (fun _ => k)
theorem g_icmp_eq {x y : Int32} {off : Int} {tgt : Nat} (d : decode M.2.1 pc = .ok (.if_icmp .eq off, 3)) (ht : (pc : Int) + off = (tgt : Int)) (kt : x = y → Go G M n1 R h n tgt ls st) (kf : ¬ (x = y) → Go G M n1 R h n (pc + 3) ls st) : Go G M n1 R h n pc ls (.int y :: .int x :: st) := by
  intro n0 p e s m args below meth c H A locs cells slots d0 C hd hl hw hS ha hb hc hs
  exact lv_icmp_eq C.1 C.2.1 d ht (fun q => (kt q n0 p e s m args below meth c H A locs cells slots d0 C hd hl hw hS ha hb hc hs)) (fun q => (kf q n0 p e s m args below meth c H A locs cells slots d0 C hd hl hw hS ha hb hc hs))
theorem g_icmp_eq_t {x y : Int32} {off : Int} {tgt : Nat} (d : decode M.2.1 pc = .ok (.if_icmp .eq off, 3)) (ht : (pc : Int) + off = (tgt : Int)) (q : x = y) (k : Go G M n1 R h n tgt ls st) : Go G M n1 R h n pc ls (.int y :: .int x :: st) := g_icmp_eq d ht (fun _ => k) (fun z => absurd q z)
theorem g_icmp_eq_f {x y : Int32} {off : Int} {tgt : Nat} (d : decode M.2.1 pc = .ok (.if_icmp .eq off, 3)) (ht : (pc : Int) + off = (tgt : Int)) (q : ¬ (x = y)) (k : Go G M n1 R h n (pc + 3) ls st) : Go G M n1 R h n pc ls (.int y :: .int x :: st) := g_icmp_eq d ht (fun z => absurd z q) (fun _ => k)
theorem g_if_ne {x : Int32} {off : Int} {tgt : Nat} (d : decode M.2.1 pc = .ok (.ifCond .ne off, 3)) (ht : (pc : Int) + off = (tgt : Int)) (kt : ¬ x = 0 → Go G M n1 R h n tgt ls st) (kf : x = 0 → Go G M n1 R h n (pc + 3) ls st) : Go G M n1 R h n pc ls (.int x :: st) := by
  intro n0 p e s m args below meth c H A locs cells slots d0 C hd hl hw hS ha hb hc hs
  exact lv_if_ne C.1 C.2.1 d ht (fun q => (kt q n0 p e s m args below meth c H A locs cells slots d0 C hd hl hw hS ha hb hc hs)) (fun q => (kf q n0 p e s m args below meth c H A locs cells slots d0 C hd hl hw hS ha hb hc hs))
theorem g_if_ne_t {x : Int32} {off : Int} {tgt : Nat} (d : decode M.2.1 pc = .ok (.ifCond .ne off, 3)) (ht : (pc : Int) + off = (tgt : Int)) (q : ¬ x = 0) (k : Go G M n1 R h n tgt ls st) : Go G M n1 R h n pc ls (.int x :: st) := g_if_ne d ht (fun _ => k) (fun z => absurd z q)
theorem g_if_ne_f {x : Int32} {off : Int} {tgt : Nat} (d : decode M.2.1 pc = .ok (.ifCond .ne off, 3)) (ht : (pc : Int) + off = (tgt : Int)) (q : x = 0) (k : Go G M n1 R h n (pc + 3) ls st) : Go G M n1 R h n pc ls (.int x :: st) := g_if_ne d ht (fun z => absurd q z) (fun _ => k)
theorem g_icmp_ne {x y : Int32} {off : Int} {tgt : Nat} (d : decode M.2.1 pc = .ok (.if_icmp .ne off, 3)) (ht : (pc : Int) + off = (tgt : Int)) (kt : ¬ x = y → Go G M n1 R h n tgt ls st) (kf : x = y → Go G M n1 R h n (pc + 3) ls st) : Go G M n1 R h n pc ls (.int y :: .int x :: st) := by
  intro n0 p e s m args below meth c H A locs cells slots d0 C hd hl hw hS ha hb hc hs
  exact lv_icmp_ne C.1 C.2.1 d ht (fun q => (kt q n0 p e s m args below meth c H A locs cells slots d0 C hd hl hw hS ha hb hc hs)) (fun q => (kf q n0 p e s m args below meth c H A locs cells slots d0 C hd hl hw hS ha hb hc hs))
theorem g_icmp_ne_t {x y : Int32} {off : Int} {tgt : Nat} (d : decode M.2.1 pc = .ok (.if_icmp .ne off, 3)) (ht : (pc : Int) + off = (tgt : Int)) (q : ¬ x = y) (k : Go G M n1 R h n tgt ls st) : Go G M n1 R h n pc ls (.int y :: .int x :: st) := g_icmp_ne d ht (fun _ => k) (fun z => absurd z q)
theorem g_icmp_ne_f {x y : Int32} {off : Int} {tgt : Nat} (d : decode M.2.1 pc = .ok (.if_icmp .ne off, 3)) (ht : (pc : Int) + off = (tgt : Int)) (q : x = y) (k : Go G M n1 R h n (pc + 3) ls st) : Go G M n1 R h n pc ls (.int y :: .int x :: st) := g_icmp_ne d ht (fun z => absurd q z) (fun _ => k)
theorem g_if_lt {x : Int32} {off : Int} {tgt : Nat} (d : decode M.2.1 pc = .ok (.ifCond .lt off, 3)) (ht : (pc : Int) + off = (tgt : Int)) (kt : x < 0 → Go G M n1 R h n tgt ls st) (kf : ¬ (x < 0) → Go G M n1 R h n (pc + 3) ls st) : Go G M n1 R h n pc ls (.int x :: st) := by
  intro n0 p e s m args below meth c H A locs cells slots d0 C hd hl hw hS ha hb hc hs
  exact lv_if_lt C.1 C.2.1 d ht (fun q => (kt q n0 p e s m args below meth c H A locs cells slots d0 C hd hl hw hS ha hb hc hs)) (fun q => (kf q n0 p e s m args below meth c H A locs cells slots d0 C hd hl hw hS ha hb hc hs))
theorem g_if_lt_t {x : Int32} {off : Int} {tgt : Nat} (d : decode M.2.1 pc = .ok (.ifCond .lt off, 3)) (ht : (pc : Int) + off = (tgt : Int)) (q : x < 0) (k : Go G M n1 R h n tgt ls st) : Go G M n1 R h n pc ls (.int x :: st) := g_if_lt d ht (fun _ => k) (fun z => absurd q z)
theorem g_if_lt_f {x : Int32} {off : Int} {tgt : Nat} (d : decode M.2.1 pc = .ok (.ifCond .lt off, 3)) (ht : (pc : Int) + off = (tgt : Int)) (q : ¬ (x < 0)) (k : Go G M n1 R h n (pc + 3) ls st) : Go G M n1 R h n pc ls (.int x :: st) := g_if_lt d ht (fun z => absurd z q) (fun _ => k)
theorem g_icmp_lt {x y : Int32} {off : Int} {tgt : Nat} (d : decode M.2.1 pc = .ok (.if_icmp .lt off, 3)) (ht : (pc : Int) + off = (tgt : Int)) (kt : x < y → Go G M n1 R h n tgt ls st) (kf : ¬ (x < y) → Go G M n1 R h n (pc + 3) ls st) : Go G M n1 R h n pc ls (.int y :: .int x :: st) := by
  intro n0 p e s m args below meth c H A locs cells slots d0 C hd hl hw hS ha hb hc hs
  exact lv_icmp_lt C.1 C.2.1 d ht (fun q => (kt q n0 p e s m args below meth c H A locs cells slots d0 C hd hl hw hS ha hb hc hs)) (fun q => (kf q n0 p e s m args below meth c H A locs cells slots d0 C hd hl hw hS ha hb hc hs))
theorem g_icmp_lt_t {x y : Int32} {off : Int} {tgt : Nat} (d : decode M.2.1 pc = .ok (.if_icmp .lt off, 3)) (ht : (pc : Int) + off = (tgt : Int)) (q : x < y) (k : Go G M n1 R h n tgt ls st) : Go G M n1 R h n pc ls (.int y :: .int x :: st) := g_icmp_lt d ht (fun _ => k) (fun z => absurd q z)
theorem g_icmp_lt_f {x y : Int32} {off : Int} {tgt : Nat} (d : decode M.2.1 pc = .ok (.if_icmp .lt off, 3)) (ht : (pc : Int) + off = (tgt : Int)) (q : ¬ (x < y)) (k : Go G M n1 R h n (pc + 3) ls st) : Go G M n1 R h n pc ls (.int y :: .int x :: st) := g_icmp_lt d ht (fun z => absurd z q) (fun _ => k)
theorem g_if_ge {x : Int32} {off : Int} {tgt : Nat} (d : decode M.2.1 pc = .ok (.ifCond .ge off, 3)) (ht : (pc : Int) + off = (tgt : Int)) (kt : 0 ≤ x → Go G M n1 R h n tgt ls st) (kf : ¬ (0 ≤ x) → Go G M n1 R h n (pc + 3) ls st) : Go G M n1 R h n pc ls (.int x :: st) := by
  intro n0 p e s m args below meth c H A locs cells slots d0 C hd hl hw hS ha hb hc hs
  exact lv_if_ge C.1 C.2.1 d ht (fun q => (kt q n0 p e s m args below meth c H A locs cells slots d0 C hd hl hw hS ha hb hc hs)) (fun q => (kf q n0 p e s m args below meth c H A locs cells slots d0 C hd hl hw hS ha hb hc hs))
theorem g_if_ge_t {x : Int32} {off : Int} {tgt : Nat} (d : decode M.2.1 pc = .ok (.ifCond .ge off, 3)) (ht : (pc : Int) + off = (tgt : Int)) (q : 0 ≤ x) (k : Go G M n1 R h n tgt ls st) : Go G M n1 R h n pc ls (.int x :: st) := g_if_ge d ht (fun _ => k) (fun z => absurd q z)
theorem g_if_ge_f {x : Int32} {off : Int} {tgt : Nat} (d : decode M.2.1 pc = .ok (.ifCond .ge off, 3)) (ht : (pc : Int) + off = (tgt : Int)) (q : ¬ (0 ≤ x)) (k : Go G M n1 R h n (pc + 3) ls st) : Go G M n1 R h n pc ls (.int x :: st) := g_if_ge d ht (fun z => absurd z q) (fun _ => k)
theorem g_icmp_ge {x y : Int32} {off : Int} {tgt : Nat} (d : decode M.2.1 pc = .ok (.if_icmp .ge off, 3)) (ht : (pc : Int) + off = (tgt : Int)) (kt : y ≤ x → Go G M n1 R h n tgt ls st) (kf : ¬ (y ≤ x) → Go G M n1 R h n (pc + 3) ls st) : Go G M n1 R h n pc ls (.int y :: .int x :: st) := by
  intro n0 p e s m args below meth c H A locs cells slots d0 C hd hl hw hS ha hb hc hs
  exact lv_icmp_ge C.1 C.2.1 d ht (fun q => (kt q n0 p e s m args below meth c H A locs cells slots d0 C hd hl hw hS ha hb hc hs)) (fun q => (kf q n0 p e s m args below meth c H A locs cells slots d0 C hd hl hw hS ha hb hc hs))
theorem g_icmp_ge_t {x y : Int32} {off : Int} {tgt : Nat} (d : decode M.2.1 pc = .ok (.if_icmp .ge off, 3)) (ht : (pc : Int) + off = (tgt : Int)) (q : y ≤ x) (k : Go G M n1 R h n tgt ls st) : Go G M n1 R h n pc ls (.int y :: .int x :: st) := g_icmp_ge d ht (fun _ => k) (fun z => absurd q z)
theorem g_icmp_ge_f {x y : Int32} {off : Int} {tgt : Nat} (d : decode M.2.1 pc = .ok (.if_icmp .ge off, 3)) (ht : (pc : Int) + off = (tgt : Int)) (q : ¬ (y ≤ x)) (k : Go G M n1 R h n (pc + 3) ls st) : Go G M n1 R h n pc ls (.int y :: .int x :: st) := g_icmp_ge d ht (fun z => absurd z q) (fun _ => k)
theorem g_if_gt {x : Int32} {off : Int} {tgt : Nat} (d : decode M.2.1 pc = .ok (.ifCond .gt off, 3)) (ht : (pc : Int) + off = (tgt : Int)) (kt : 0 < x → Go G M n1 R h n tgt ls st) (kf : ¬ (0 < x) → Go G M n1 R h n (pc + 3) ls st) : Go G M n1 R h n pc ls (.int x :: st) := by
  intro n0 p e s m args below meth c H A locs cells slots d0 C hd hl hw hS ha hb hc hs
  exact lv_if_gt C.1 C.2.1 d ht (fun q => (kt q n0 p e s m args below meth c H A locs cells slots d0 C hd hl hw hS ha hb hc hs)) (fun q => (kf q n0 p e s m args below meth c H A locs cells slots d0 C hd hl hw hS ha hb hc hs))
theorem g_if_gt_t {x : Int32} {off : Int} {tgt : Nat} (d : decode M.2.1 pc = .ok (.ifCond .gt off, 3)) (ht : (pc : Int) + off = (tgt : Int)) (q : 0 < x) (k : Go G M n1 R h n tgt ls st) : Go G M n1 R h n pc ls (.int x :: st) := g_if_gt d ht (fun _ => k) (fun z => absurd q z)
theorem g_if_gt_f {x : Int32} {off : Int} {tgt : Nat} (d : decode M.2.1 pc = .ok (.ifCond .gt off, 3)) (ht : (pc : Int) + off = (tgt : Int)) (q : ¬ (0 < x)) (k : Go G M n1 R h n (pc + 3) ls st) : Go G M n1 R h n pc ls (.int x :: st) := g_if_gt d ht (fun z => absurd z q) (fun _ => k)
theorem g_icmp_gt {x y : Int32} {off : Int} {tgt : Nat} (d : decode M.2.1 pc = .ok (.if_icmp .gt off, 3)) (ht : (pc : Int) + off = (tgt : Int)) (kt : y < x → Go G M n1 R h n tgt ls st) (kf : ¬ (y < x) → Go G M n1 R h n (pc + 3) ls st) : Go G M n1 R h n pc ls (.int y :: .int x :: st) := by
  intro n0 p e s m args below meth c H A locs cells slots d0 C hd hl hw hS ha hb hc hs
  exact lv_icmp_gt C.1 C.2.1 d ht (fun q => (kt q n0 p e s m args below meth c H A locs cells slots d0 C hd hl hw hS ha hb hc hs)) (fun q => (kf q n0 p e s m args below meth c H A locs cells slots d0 C hd hl hw hS ha hb hc hs))
theorem g_icmp_gt_t {x y : Int32} {off : Int} {tgt : Nat} (d : decode M.2.1 pc = .ok (.if_icmp .gt off, 3)) (ht : (pc : Int) + off = (tgt : Int)) (q : y < x) (k : Go G M n1 R h n tgt ls st) : Go G M n1 R h n pc ls (.int y :: .int x :: st) := g_icmp_gt d ht (fun _ => k) (fun z => absurd q z)
theorem g_icmp_gt_f {x y : Int32} {off : Int} {tgt : Nat} (d : decode M.2.1 pc = .ok (.if_icmp .gt off, 3)) (ht : (pc : Int) + off = (tgt : Int)) (q : ¬ (y < x)) (k : Go G M n1 R h n (pc + 3) ls st) : Go G M n1 R h n pc ls (.int y :: .int x :: st) := g_icmp_gt d ht (fun z => absurd z q) (fun _ => k)
theorem g_if_le {x : Int32} {off : Int} {tgt : Nat} (d : decode M.2.1 pc = .ok (.ifCond .le off, 3)) (ht : (pc : Int) + off = (tgt : Int)) (kt : x ≤ 0 → Go G M n1 R h n tgt ls st) (kf : ¬ (x ≤ 0) → Go G M n1 R h n (pc + 3) ls st) : Go G M n1 R h n pc ls (.int x :: st) := by
  intro n0 p e s m args below meth c H A locs cells slots d0 C hd hl hw hS ha hb hc hs
  exact lv_if_le C.1 C.2.1 d ht (fun q => (kt q n0 p e s m args below meth c H A locs cells slots d0 C hd hl hw hS ha hb hc hs)) (fun q => (kf q n0 p e s m args below meth c H A locs cells slots d0 C hd hl hw hS ha hb hc hs))
theorem g_if_le_t {x : Int32} {off : Int} {tgt : Nat} (d : decode M.2.1 pc = .ok (.ifCond .le off, 3)) (ht : (pc : Int) + off = (tgt : Int)) (q : x ≤ 0) (k : Go G M n1 R h n tgt ls st) : Go G M n1 R h n pc ls (.int x :: st) := g_if_le d ht (fun _ => k) (fun z => absurd q z)
theorem g_if_le_f {x : Int32} {off : Int} {tgt : Nat} (d : decode M.2.1 pc = .ok (.ifCond .le off, 3)) (ht : (pc : Int) + off = (tgt : Int)) (q : ¬ (x ≤ 0)) (k : Go G M n1 R h n (pc + 3) ls st) : Go G M n1 R h n pc ls (.int x :: st) := g_if_le d ht (fun z => absurd z q) (fun _ => k)
theorem g_icmp_le {x y : Int32} {off : Int} {tgt : Nat} (d : decode M.2.1 pc = .ok (.if_icmp .le off, 3)) (ht : (pc : Int) + off = (tgt : Int)) (kt : x ≤ y → Go G M n1 R h n tgt ls st) (kf : ¬ (x ≤ y) → Go G M n1 R h n (pc + 3) ls st) : Go G M n1 R h n pc ls (.int y :: .int x :: st) := by
  intro n0 p e s m args below meth c H A locs cells slots d0 C hd hl hw hS ha hb hc hs
  exact lv_icmp_le C.1 C.2.1 d ht (fun q => (kt q n0 p e s m args below meth c H A locs cells slots d0 C hd hl hw hS ha hb hc hs)) (fun q => (kf q n0 p e s m args below meth c H A locs cells slots d0 C hd hl hw hS ha hb hc hs))
theorem g_icmp_le_t {x y : Int32} {off : Int} {tgt : Nat} (d : decode M.2.1 pc = .ok (.if_icmp .le off, 3)) (ht : (pc : Int) + off = (tgt : Int)) (q : x ≤ y) (k : Go G M n1 R h n tgt ls st) : Go G M n1 R h n pc ls (.int y :: .int x :: st) := g_icmp_le d ht (fun _ => k) (fun z => absurd q z)
theorem g_icmp_le_f {x y : Int32} {off : Int} {tgt : Nat} (d : decode M.2.1 pc = .ok (.if_icmp .le off, 3)) (ht : (pc : Int) + off = (tgt : Int)) (q : ¬ (x ≤ y)) (k : Go G M n1 R h n (pc + 3) ls st) : Go G M n1 R h n pc ls (.int y :: .int x :: st) := g_icmp_le d ht (fun z => absurd z q) (fun _ => k)
theorem g_goto {off : Int} {tgt : Nat} (d : decode M.2.1 pc = .ok (.goto off, 3)) (ht : (pc : Int) + off = (tgt : Int)) (k : Go G M n1 R h n tgt ls st) : Go G M n1 R h n pc ls st := by
  intro n0 p e s m args below meth c H A locs cells slots d0 C hd hl hw hS ha hb hc hs
  exact lv_goto C.1 C.2.1 d ht (k n0 p e s m args below meth c H A locs cells slots d0 C hd hl hw hS ha hb hc hs)
theorem g_ifnull {x : Nat} {off : Int} (d : decode M.2.1 pc = .ok (.ifnull off, 3)) (k : Go G M n1 R h n (pc + 3) ls st) : Go G M n1 R h n pc ls (ga G x :: st) := by
  intro n0 p e s m args below meth c H A locs cells slots d0 C hd hl hw hS ha hb hc hs
  exact lv_ifnull C.1 C.2.1 d (k n0 p e s m args below meth c H A locs cells slots d0 C hd hl hw hS ha hb hc hs)
theorem g_ifnullN {off : Int} {tgt : Nat} (d : decode M.2.1 pc = .ok (.ifnull off, 3)) (ht : (pc : Int) + off = (tgt : Int)) (k : Go G M n1 R h n tgt ls st) : Go G M n1 R h n pc ls (.null :: st) := by
  intro n0 p e s m args below meth c H A locs cells slots d0 C hd hl hw hS ha hb hc hs
  exact lv_ifnullN C.1 C.2.1 d ht (k n0 p e s m args below meth c H A locs cells slots d0 C hd hl hw hS ha hb hc hs)
theorem g_ifnonnull {x : Nat} {off : Int} {tgt : Nat} (d : decode M.2.1 pc = .ok (.ifnonnull off, 3)) (ht : (pc : Int) + off = (tgt : Int)) (k : Go G M n1 R h n tgt ls st) : Go G M n1 R h n pc ls (ga G x :: st) := by
  intro n0 p e s m args below meth c H A locs cells slots d0 C hd hl hw hS ha hb hc hs
  exact lv_ifnonnull C.1 C.2.1 d ht (k n0 p e s m args below meth c H A locs cells slots d0 C hd hl hw hS ha hb hc hs)
theorem g_ifnonnullN {off : Int} (d : decode M.2.1 pc = .ok (.ifnonnull off, 3)) (k : Go G M n1 R h n (pc + 3) ls st) : Go G M n1 R h n pc ls (.null :: st) := by
  intro n0 p e s m args below meth c H A locs cells slots d0 C hd hl hw hS ha hb hc hs
  exact lv_ifnonnullN C.1 C.2.1 d (k n0 p e s m args below meth c H A locs cells slots d0 C hd hl hw hS ha hb hc hs)
theorem g_tabIn {df lo hi : Int} {offs : Array Int} {len : Nat} {x : Int32} {off : Int} {tgt : Nat} (d : decode M.2.1 pc = .ok (.tableswitch df lo hi offs, len)) (h1 : ¬ x.toInt < lo) (h2 : ¬ hi < x.toInt) (ho : offs[(x.toInt - lo).toNat]? = some off) (ht : (pc : Int) + off = (tgt : Int)) (k : Go G M n1 R h n tgt ls st) : Go G M n1 R h n pc ls (.int x :: st) := by
  intro n0 p e s m args below meth c H A locs cells slots d0 C hd hl hw hS ha hb hc hs
  exact lv_tableIn C.1 C.2.1 d h1 h2 ho ht (k n0 p e s m args below meth c H A locs cells slots d0 C hd hl hw hS ha hb hc hs)
theorem g_tabOut {df lo hi : Int} {offs : Array Int} {len : Nat} {x : Int32} {tgt : Nat} (d : decode M.2.1 pc = .ok (.tableswitch df lo hi offs, len)) (hx : x.toInt < lo ∨ hi < x.toInt) (ht : (pc : Int) + df = (tgt : Int)) (k : Go G M n1 R h n tgt ls st) : Go G M n1 R h n pc ls (.int x :: st) := by
  intro n0 p e s m args below meth c H A locs cells slots d0 C hd hl hw hS ha hb hc hs
  exact lv_tableOut C.1 C.2.1 d hx ht (k n0 p e s m args below meth c H A locs cells slots d0 C hd hl hw hS ha hb hc hs)
theorem g_lookup {df : Int} {ps : Array (Int × Int)} {len : Nat} {x : Int32} {off : Int} {tgt : Nat} (d : decode M.2.1 pc = .ok (.lookupswitch df ps, len)) (hp : (ps.toList.zip (ps.toList.drop 1)).all (fun (a, next) => a.1 < next.1) = true) (ho : Op.lookupswitch.offset ps.toList df x.toInt = off) (ht : (pc : Int) + off = (tgt : Int)) (k : Go G M n1 R h n tgt ls st) : Go G M n1 R h n pc ls (.int x :: st) := by
  intro n0 p e s m args below meth c H A locs cells slots d0 C hd hl hw hS ha hb hc hs
  exact lv_lookup C.1 C.2.1 d hp ho ht (k n0 p e s m args below meth c H A locs cells slots d0 C hd hl hw hS ha hb hc hs)
theorem g_fconst0 (d : decode M.2.1 pc = .ok (.fconst 0, 1)) (k : Go G M n1 R h n (pc + 1) ls (.float FP.fconst0 :: st)) : Go G M n1 R h n pc ls st := by
  intro n0 p e s m args below meth c H A locs cells slots d0 C hd hl hw hS ha hb hc hs
  exact lv_fconst0 C.1 C.2.1 d (k n0 p e s m args below meth c H A locs cells slots d0 C hd hl hw hS ha hb hc hs)
theorem g_fconst1 (d : decode M.2.1 pc = .ok (.fconst 1, 1)) (k : Go G M n1 R h n (pc + 1) ls (.float FP.fconst1 :: st)) : Go G M n1 R h n pc ls st := by
  intro n0 p e s m args below meth c H A locs cells slots d0 C hd hl hw hS ha hb hc hs
  exact lv_fconst1 C.1 C.2.1 d (k n0 p e s m args below meth c H A locs cells slots d0 C hd hl hw hS ha hb hc hs)
theorem g_fconst2 (d : decode M.2.1 pc = .ok (.fconst 2, 1)) (k : Go G M n1 R h n (pc + 1) ls (.float FP.fconst2 :: st)) : Go G M n1 R h n pc ls st := by
  intro n0 p e s m args below meth c H A locs cells slots d0 C hd hl hw hS ha hb hc hs
  exact lv_fconst2 C.1 C.2.1 d (k n0 p e s m args below meth c H A locs cells slots d0 C hd hl hw hS ha hb hc hs)
theorem g_fadd {x y : UInt32} (d : decode M.2.1 pc = .ok (.fadd, 1)) (hne : vf_n32 (FP.fadd x y)) (k : Go G M n1 R h n (pc + 1) ls (.float (FP.fadd x y) :: st)) : Go G M n1 R h n pc ls (.float y :: .float x :: st) := by
  intro n0 p e s m args below meth c H A locs cells slots d0 C hd hl hw hS ha hb hc hs
  exact lv_fadd C.1 C.2.1 d hne (k n0 p e s m args below meth c H A locs cells slots d0 C hd hl hw hS ha hb hc hs)
theorem g_fmul {x y : UInt32} (d : decode M.2.1 pc = .ok (.fmul, 1)) (hne : vf_n32 (FP.fmul x y)) (k : Go G M n1 R h n (pc + 1) ls (.float (FP.fmul x y) :: st)) : Go G M n1 R h n pc ls (.float y :: .float x :: st) := by
  intro n0 p e s m args below meth c H A locs cells slots d0 C hd hl hw hS ha hb hc hs
  exact lv_fmul C.1 C.2.1 d hne (k n0 p e s m args below meth c H A locs cells slots d0 C hd hl hw hS ha hb hc hs)
theorem g_dmul {x y : UInt64} (d : decode M.2.1 pc = .ok (.dmul, 1)) (hne : vf_n64 (FP.dmul x y)) (k : Go G M n1 R h n (pc + 1) ls (.double (FP.dmul x y) :: st)) : Go G M n1 R h n pc ls (.double y :: .double x :: st) := by
  intro n0 p e s m args below meth c H A locs cells slots d0 C hd hl hw hS ha hb hc hs
  exact lv_dmul C.1 C.2.1 d hne (k n0 p e s m args below meth c H A locs cells slots d0 C hd hl hw hS ha hb hc hs)
theorem g_fcmp {x y : UInt32} {op : CmpOp} (d : decode M.2.1 pc = .ok (.fcmp op, 1)) (k : Go G M n1 R h n (pc + 1) ls (.int (Op.cmpValue (FP.fcmp x y) op) :: st)) : Go G M n1 R h n pc ls (.float y :: .float x :: st) := by
  intro n0 p e s m args below meth c H A locs cells slots d0 C hd hl hw hS ha hb hc hs
  exact lv_fcmp C.1 C.2.1 d (k n0 p e s m args below meth c H A locs cells slots d0 C hd hl hw hS ha hb hc hs)
theorem g_dcmp {x y : UInt64} {op : CmpOp} (d : decode M.2.1 pc = .ok (.dcmp op, 1)) (k : Go G M n1 R h n (pc + 1) ls (.int (Op.cmpValue (FP.dcmp x y) op) :: st)) : Go G M n1 R h n pc ls (.double y :: .double x :: st) := by
  intro n0 p e s m args below meth c H A locs cells slots d0 C hd hl hw hS ha hb hc hs
  exact lv_dcmp C.1 C.2.1 d (k n0 p e s m args below meth c H A locs cells slots d0 C hd hl hw hS ha hb hc hs)
theorem g_i2f {x : Int32} (d : decode M.2.1 pc = .ok (.i2f, 1)) (k : Go G M n1 R h n (pc + 1) ls (.float (FP.i2f x) :: st)) : Go G M n1 R h n pc ls (.int x :: st) := by
  intro n0 p e s m args below meth c H A locs cells slots d0 C hd hl hw hS ha hb hc hs
  exact lv_i2f C.1 C.2.1 d (k n0 p e s m args below meth c H A locs cells slots d0 C hd hl hw hS ha hb hc hs)
theorem g_i2d {x : Int32} (d : decode M.2.1 pc = .ok (.i2d, 1)) (k : Go G M n1 R h n (pc + 1) ls (.double (FP.i2d x) :: st)) : Go G M n1 R h n pc ls (.int x :: st) := by
  intro n0 p e s m args below meth c H A locs cells slots d0 C hd hl hw hS ha hb hc hs
  exact lv_i2d C.1 C.2.1 d (k n0 p e s m args below meth c H A locs cells slots d0 C hd hl hw hS ha hb hc hs)
theorem g_f2d {x : UInt32} (d : decode M.2.1 pc = .ok (.f2d, 1)) (hne : vf_n64 (FP.f2d x)) (k : Go G M n1 R h n (pc + 1) ls (.double (FP.f2d x) :: st)) : Go G M n1 R h n pc ls (.float x :: st) := by
  intro n0 p e s m args below meth c H A locs cells slots d0 C hd hl hw hS ha hb hc hs
  exact lv_f2d C.1 C.2.1 d hne (k n0 p e s m args below meth c H A locs cells slots d0 C hd hl hw hS ha hb hc hs)
theorem g_d2f {x : UInt64} {v : UInt32} (d : decode M.2.1 pc = .ok (.d2f, 1)) (hne : vf_n32 (FP.d2f x)) (hv : FP.d2f x = v) (k : Go G M n1 R h n (pc + 1) ls (.float v :: st)) : Go G M n1 R h n pc ls (.double x :: st) := by
  intro n0 p e s m args below meth c H A locs cells slots d0 C hd hl hw hS ha hb hc hs
  subst hv
  exact lv_d2f C.1 C.2.1 d hne (k n0 p e s m args below meth c H A locs cells slots d0 C hd hl hw hS ha hb hc hs)
theorem g_fmulcmp {x y v : UInt32} {i : Nat} {op : CmpOp} (d : decode M.2.1 pc = .ok (.fmul, 1)) (hm : Cond.constantFloat M.1.cls i v ∈ Wt) (d2 : decode M.2.1 (pc + 1) = .ok (.ldc i, 2)) (d3 : decode M.2.1 (pc + 3) = .ok (.fcmp op, 1)) (hal : ∀ r, alike32 r (FP.fmul x y) = true → FP.fcmp r v = FP.fcmp (FP.fmul x y) v) (k : Go G M n1 R h n (pc + 4) ls (.int (Op.cmpValue (FP.fcmp (FP.fmul x y) v) op) :: st)) : Go G M n1 R h n pc ls (.float y :: .float x :: st) := by
  intro n0 p e s m args below meth c H A locs cells slots d0 C hd hl hw hS ha hb hc hs
  refine lv_fmul_any hd lw_bits C.1 C.2.1 d (fun r d1 ha1 hd1 => ?_)
  refine lv_ldcf (v := v) C.1 C.2.1 C.2.2.2.2.1 (C.w d1 hm) d2 ?_
  refine lv_fcmp C.1 C.2.1 d3 ?_
  rw [hal r ha1]
  exact k n0 p e s m args below meth c H A locs cells slots d1 C hd1 hl hw hS ha hb hc hs
end GR
