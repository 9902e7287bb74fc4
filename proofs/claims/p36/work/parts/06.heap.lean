/-! ===== THE HEAP OF NUMBERED CELLS: cell k of the run lies at z + k; what each is, is laid down once and for all (all cells are made by the law's first eight 'new') ===== -/
abbrev Hp : Type := (Nat → Nat → Int32) × (Nat → Nat → UInt32) × (Nat → Nat → UInt64) × (Nat → Nat → Option Nat)
def wI (h : Hp) (a k : Nat) (v : Int32) : Hp := (fun b j => if b = a ∧ j = k then v else h.1 b j, h.2)
def wF (h : Hp) (a k : Nat) (v : UInt32) : Hp := (h.1, fun b j => if b = a ∧ j = k then v else h.2.1 b j, h.2.2)
def wD (h : Hp) (a k : Nat) (v : UInt64) : Hp := (h.1, h.2.1, fun b j => if b = a ∧ j = k then v else h.2.2.1 b j, h.2.2.2)
def wQ (h : Hp) (a k : Nat) (v : Option Nat) : Hp := (h.1, h.2.1, h.2.2.1, fun b j => if b = a ∧ j = k then v else h.2.2.2 b j)
/-- a new cell: all its places empty -/
def wN (h : Hp) (a : Nat) : Hp := (fun b j => if b = a then 0 else h.1 b j, fun b j => if b = a then 0 else h.2.1 b j, fun b j => if b = a then 0 else h.2.2.1 b j, fun b j => if b = a then none else h.2.2.2 b j)
/-- a whole row of ints -/
def wR (h : Hp) (a : Nat) (f : Nat → Int32) : Hp := (fun b j => if b = a then f j else h.1 b j, h.2)
/-- launch, base, classes' numbers, arrays' numbers, the script's cell, length, values -/
abbrev Gl : Type := Launch × Nat × va_G × (Nat → ClassId) × Nat × Nat × (Nat → Int32)
def ga (G : Gl) (k : Nat) : Value := .ref (G.2.1 + k)
def gr (G : Gl) (q : Option Nat) : Value := match q with
  | none => .null
  | some k => ga G k
theorem gr_rf (G : Gl) (q : Option Nat) : va_rf (q.map (fun k => G.2.1 + k)) = gr G q := by cases q <;> rfl
def gtys (G : Gl) : List (ClassId × FieldType) := [(G.2.2.2.1 0, .int), (G.2.2.2.1 1, .char), (G.2.2.2.1 2, .double), (G.2.2.2.1 3, .object RX2), (G.2.2.2.1 4, .object RX0), (G.2.2.2.1 5, .object RX3), (G.2.2.2.1 6, .object RX6)]
/-- a state's 63 cells, from its own address on -/
def SL (o : Nat) : Nat ⊕ (Nat × Nat) := if o = 0 then .inl 6 else if o = 1 then .inl 7 else if o = 2 then .inr (3, 18) else if o ≤ 20 then .inl 2 else if o = 21 then .inr (4, 4) else if o ≤ 25 then .inl 0 else if o = 26 then .inl 5 else if o = 27 then .inr (5, 30) else if o ≤ 57 then .inl 3 else if o = 58 then .inl 4 else .inr (0, 10)
def Lay (a : Nat) : Nat ⊕ (Nat × Nat) := if a = 0 then .inl 9 else if a < 64 then SL (a - 1) else if a = 64 then .inl 1 else if a = 65 then .inr (6, 4) else if a < 444 then SL ((a - 66) % 63) else if a = 444 then .inl 8 else if a = 445 then .inr (1, 60) else if a ≤ 448 then .inr (0, 60) else if a = 449 then .inr (0, 18) else if a = 450 then .inr (0, 48) else if a = 451 then .inr (0, 28) else if a = 452 then .inr (2, 10) else if a ≤ 454 then .inr (0, 60) else .inr (0, 10)
def flr (G : Gl) (ci : Nat) (ri : Nat → Int32) (rf : Nat → UInt32) (rq : Nat → Option Nat) : List Value := match ci with
  | 0 => [.int (ri 0), .float (rf 1), .float (rf 2), .int (ri 3), .int (ri 4), .int (ri 5), .int (ri 6)]
  | 1 => [gr G (rq 0), .int (ri 1)]
  | 2 => [.int (ri 0), .int (ri 1), .int (ri 2), .int (ri 3), .int (ri 4), .int (ri 5), .float (rf 6), .int (ri 7)]
  | 3 => [.int (ri 0), .int (ri 1), .int (ri 2), .int (ri 3), .int (ri 4), .int (ri 5), .int (ri 6), .int (ri 7), .int (ri 8), .int (ri 9), .int (ri 10), .int (ri 11), .int (ri 12)]
  | 4 => [gr G (rq 0), gr G (rq 1), gr G (rq 2), gr G (rq 3), .int (ri 4), .int (ri 5)]
  | 5 => [gr G (rq 0), .int (ri 1), .int (ri 2), .int (ri 3)]
  | 6 => [gr G (rq 0), gr G (rq 1), gr G (rq 2), .float (rf 3), .float (rf 4), .int (ri 5), .int (ri 6), .int (ri 7), .int (ri 8), .int (ri 9), .int (ri 10), .int (ri 11)]
  | 7 => [gr G (rq 0), .int (ri 1), gr G (rq 2), .int (ri 3)]
  | 8 => [gr G (rq 0), .int (ri 1), .int (ri 2), gr G (rq 3), gr G (rq 4), gr G (rq 5), .int (ri 6)]
  | _ => [gr G (rq 0), gr G (rq 1), gr G (rq 2), .int (ri 3), gr G (rq 4), gr G (rq 5)]
def cont (G : Gl) (t : Nat) (ri : Nat → Int32) (rd : Nat → UInt64) (rq : Nat → Option Nat) : (Nat → Int32) ⊕ (Nat → Int64) ⊕ (Nat → UInt32) ⊕ (Nat → UInt64) ⊕ (Nat → Option Nat) := match t with
  | 0 => .inl ri
  | 1 => .inl ri
  | 2 => .inr (.inr (.inr (.inl rd)))
  | _ => .inr (.inr (.inr (.inr (fun j => (rq j).map (fun k => G.2.1 + k)))))
def entr (G : Gl) (k : Nat) (ri : Nat → Int32) (rf : Nat → UInt32) (rd : Nat → UInt64) (rq : Nat → Option Nat) : va_E := match Lay k with
  | .inl ci => .inr (ci, flr G ci ri rf rq)
  | .inr (t, n) => .inl (G.2.2.2.1 t, n, cont G t ri rd rq)
def ent (G : Gl) (h : Hp) (k : Nat) : va_E := entr G k (h.1 k) (h.2.1 k) (h.2.2.1 k) (h.2.2.2 k)
def wl (G : Gl) (h : Hp) (n : Nat) : va_W := (List.range n).map (fun k => (G.2.1 + k, ent G h k))
theorem wl_at {G : Gl} {h : Hp} {n k : Nat} (hk : k < n) : (wl G h n)[k]? = some (G.2.1 + k, ent G h k) := by simp [wl, hk]
theorem ent_o {G : Gl} {h : Hp} {k ci : Nat} (hL : Lay k = .inl ci) : ent G h k = .inr (ci, flr G ci (h.1 k) (h.2.1 k) (h.2.2.2 k)) := by simp only [ent, entr, hL]
theorem ent_a {G : Gl} {h : Hp} {k t n : Nat} (hL : Lay k = .inr (t, n)) : ent G h k = .inl (G.2.2.2.1 t, n, cont G t (h.1 k) (h.2.2.1 k) (h.2.2.2 k)) := by simp only [ent, entr, hL]
theorem wl_o {G : Gl} {h : Hp} {n k ci : Nat} (hk : k < n) (hL : Lay k = .inl ci) : (wl G h n)[k]? = some (G.2.1 + k, .inr (ci, flr G ci (h.1 k) (h.2.1 k) (h.2.2.2 k))) := by rw [wl_at hk, ent_o hL]
theorem wl_a {G : Gl} {h : Hp} {n k t w : Nat} (hk : k < n) (hL : Lay k = .inr (t, w)) : (wl G h n)[k]? = some (G.2.1 + k, .inl (G.2.2.2.1 t, w, cont G t (h.1 k) (h.2.2.1 k) (h.2.2.2 k))) := by rw [wl_at hk, ent_a hL]
theorem ent_congr {G : Gl} {h h' : Hp} {k : Nat} (h1 : h'.1 k = h.1 k) (h2 : h'.2.1 k = h.2.1 k) (h3 : h'.2.2.1 k = h.2.2.1 k) (h4 : h'.2.2.2 k = h.2.2.2 k) : ent G h' k = ent G h k := by simp only [ent, h1, h2, h3, h4]
theorem wl_D {G : Gl} {h : Hp} {n : Nat} : va_D (fun q => G.2.1 ≤ q) (wl G h n) := by
  have key : ∀ (i : Nat) (p : Nat × va_E), (wl G h n)[i]? = some p → p.1 = G.2.1 + i := by
    intro i p hi
    have hl : i < n := by
      have := (List.getElem?_eq_some_iff.mp hi).1
      simpa [wl] using this
    rw [wl_at hl] at hi
    cases hi
    rfl
  refine ⟨fun i j p q hi hj e => ?_, fun k q hk => ?_⟩
  · have a := key i p hi
    have b := key j q hj
    omega
  · have a := key k q hk
    show G.2.1 ≤ q.1
    omega
theorem wl_set {G : Gl} {h h' : Hp} {n k : Nat} {e : va_E} (hk : k < n) (he : ent G h' k = e) (ho : ∀ j, j ≠ k → ent G h' j = ent G h j) : (wl G h n).set k (G.2.1 + k, e) = wl G h' n := by
  subst he
  apply List.ext_getElem?
  intro j
  by_cases hj : j = k
  · subst hj
    rw [List.getElem?_set_self (by simpa [wl] using hk), wl_at hk]
  · rw [List.getElem?_set_ne (Ne.symm hj)]
    by_cases hl : j < n
    · rw [wl_at hl, wl_at hl, ho j hj]
    · rw [List.getElem?_eq_none (by simp [wl]; omega), List.getElem?_eq_none (by simp [wl]; omega)]
theorem wl_push {G : Gl} {h h' : Hp} {n : Nat} {e : va_E} (he : ent G h' n = e) (ho : ∀ j, j < n → ent G h' j = ent G h j) : wl G h n ++ [(G.2.1 + n, e)] = wl G h' (n + 1) := by
  subst he
  unfold wl
  rw [List.range_succ, List.map_append]
  congr 1
  apply List.map_congr_left
  intro j hj
  rw [ho j (List.mem_range.mp hj)]
/-- how many places a cell has, and all cells below n -/
def csz (k : Nat) : Nat := match Lay k with
  | .inl 0 => 7 | .inl 1 => 2 | .inl 2 => 8 | .inl 3 => 13 | .inl 4 => 6 | .inl 5 => 4 | .inl 6 => 12 | .inl 7 => 4 | .inl 8 => 7 | .inl _ => 6
  | .inr (_, n) => n
def sl : Nat → Nat
  | 0 => 0
  | n + 1 => sl n + csz n
theorem sl_mono {a b : Nat} (h : a ≤ b) : sl a ≤ sl b := by
  induction b with
  | zero => rw [Nat.le_zero.mp h]; exact Nat.le_refl _
  | succ b ih =>
    rcases Nat.lt_or_ge b a with q | q
    · rw [show a = b + 1 by omega]; exact Nat.le_refl _
    · exact Nat.le_trans (ih q) (Nat.le_add_right _ _)
theorem wI_o {G : Gl} {h : Hp} {a k j : Nat} {v : Int32} (hj : j ≠ a) : ent G (wI h a k v) j = ent G h j := ent_congr (funext fun i => if_neg (fun q => hj q.1)) rfl rfl rfl
theorem wF_o {G : Gl} {h : Hp} {a k j : Nat} {v : UInt32} (hj : j ≠ a) : ent G (wF h a k v) j = ent G h j := ent_congr rfl (funext fun i => if_neg (fun q => hj q.1)) rfl rfl
theorem wD_o {G : Gl} {h : Hp} {a k j : Nat} {v : UInt64} (hj : j ≠ a) : ent G (wD h a k v) j = ent G h j := ent_congr rfl rfl (funext fun i => if_neg (fun q => hj q.1)) rfl
theorem wQ_o {G : Gl} {h : Hp} {a k j : Nat} {v : Option Nat} (hj : j ≠ a) : ent G (wQ h a k v) j = ent G h j := ent_congr rfl rfl rfl (funext fun i => if_neg (fun q => hj q.1))
theorem wR_o {G : Gl} {h : Hp} {a j : Nat} {f : Nat → Int32} (hj : j ≠ a) : ent G (wR h a f) j = ent G h j := ent_congr (funext fun i => if_neg hj) rfl rfl rfl
theorem wN_o {G : Gl} {h : Hp} {a j : Nat} (hj : j ≠ a) : ent G (wN h a) j = ent G h j := ent_congr (funext fun i => if_neg hj) (funext fun i => if_neg hj) (funext fun i => if_neg hj) (funext fun i => if_neg hj)
theorem wI_s {h : Hp} {a k : Nat} {v : Int32} : (wI h a k v).1 a = upd (h.1 a) k v := funext fun i => by simp [wI, upd]
theorem wF_s {h : Hp} {a k : Nat} {v : UInt32} : (wF h a k v).2.1 a = va_up (h.2.1 a) k v := funext fun i => by simp [wF, va_up]
theorem wD_s {h : Hp} {a k : Nat} {v : UInt64} : (wD h a k v).2.2.1 a = vf_upd (h.2.2.1 a) k v := funext fun i => by simp [wD, vf_upd]
theorem wQ_s {h : Hp} {a k : Nat} {v : Option Nat} : (wQ h a k v).2.2.2 a = va_up (h.2.2.2 a) k v := funext fun i => by simp [wQ, va_up]
theorem wR_s {h : Hp} {a : Nat} {f : Nat → Int32} : (wR h a f).1 a = f := funext fun i => by simp [wR]
theorem wN_s {h : Hp} {a : Nat} : (wN h a).1 a = (fun _ => 0) ∧ (wN h a).2.1 a = (fun _ => 0) ∧ (wN h a).2.2.1 a = (fun _ => 0) ∧ (wN h a).2.2.2 a = (fun _ => none) := by
  refine ⟨?_, ?_, ?_, ?_⟩ <;> (funext i; simp [wN])
