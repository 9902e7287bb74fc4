section
-- ===== PART A: goes FIRST, ahead of the names: the tables' words, and 'selects' of the private methods out of them =====
/-- a private method of a class that the tables say can be made, by its rows of tables_1 -/
def lw_okq (q : MethodName × Nat) : Prop := (q.1.cls ≠ "java/lang/invoke/MethodHandle" ∧ q.1.cls ≠ "java/lang/invoke/VarHandle") ∧ Cond.instantiable q.1.cls q.2 ∈ tables_1 ∧ Cond.privateMethod q.1 ∈ tables_1 ∧ Cond.instanceMethod q.1 ∈ tables_1
theorem lw_p0 : lw_okq (⟨"DustRobot$State", "groupOf", "(LDustRobot$Job;)I"⟩, 12) := ⟨⟨by decide +kernel, by decide +kernel⟩, List.mem_of_getElem? (i := 22) (by decide +kernel), List.mem_of_getElem? (i := 492) (by decide +kernel), List.mem_of_getElem? (i := 493) (by decide +kernel)⟩
theorem lw_p1 : lw_okq (⟨"DustRobot$State", "canBegin", "(LDustRobot$Job;)Z"⟩, 12) := ⟨⟨by decide +kernel, by decide +kernel⟩, List.mem_of_getElem? (i := 22) (by decide +kernel), List.mem_of_getElem? (i := 502) (by decide +kernel), List.mem_of_getElem? (i := 503) (by decide +kernel)⟩
theorem lw_p2 : lw_okq (⟨"DustRobot$History", "dropOldest", "()V"⟩, 2) := ⟨⟨by decide +kernel, by decide +kernel⟩, List.mem_of_getElem? (i := 289) (by decide +kernel), List.mem_of_getElem? (i := 564) (by decide +kernel), List.mem_of_getElem? (i := 565) (by decide +kernel)⟩
theorem lw_p3 : lw_okq (⟨"DustRobot$Item", "begin", "(I)V"⟩, 8) := ⟨⟨by decide +kernel, by decide +kernel⟩, List.mem_of_getElem? (i := 35) (by decide +kernel), List.mem_of_getElem? (i := 609) (by decide +kernel), List.mem_of_getElem? (i := 610) (by decide +kernel)⟩
theorem lw_p4 : lw_okq (⟨"DustRobot", "giveJob", "(III)I"⟩, 6) := ⟨⟨by decide +kernel, by decide +kernel⟩, List.mem_of_getElem? (i := 14) (by decide +kernel), List.mem_of_getElem? (i := 650) (by decide +kernel), List.mem_of_getElem? (i := 651) (by decide +kernel)⟩
theorem lw_p5 : lw_okq (⟨"DustRobot$State", "beginJob", "()V"⟩, 12) := ⟨⟨by decide +kernel, by decide +kernel⟩, List.mem_of_getElem? (i := 22) (by decide +kernel), List.mem_of_getElem? (i := 746) (by decide +kernel), List.mem_of_getElem? (i := 747) (by decide +kernel)⟩
theorem lw_p6 : lw_okq (⟨"DustRobot$State", "doStep", "(LDustRobot$Job;)Z"⟩, 12) := ⟨⟨by decide +kernel, by decide +kernel⟩, List.mem_of_getElem? (i := 22) (by decide +kernel), List.mem_of_getElem? (i := 758) (by decide +kernel), List.mem_of_getElem? (i := 759) (by decide +kernel)⟩
theorem lw_p7 : lw_okq (⟨"DustRobot$State", "doMoveStep", "(LDustRobot$Job;LDustRobot$Item;I)Z"⟩, 12) := ⟨⟨by decide +kernel, by decide +kernel⟩, List.mem_of_getElem? (i := 22) (by decide +kernel), List.mem_of_getElem? (i := 763) (by decide +kernel), List.mem_of_getElem? (i := 764) (by decide +kernel)⟩
theorem lw_p8 : lw_okq (⟨"DustRobot$State", "goTo", "(LDustRobot$Job;I)Z"⟩, 12) := ⟨⟨by decide +kernel, by decide +kernel⟩, List.mem_of_getElem? (i := 22) (by decide +kernel), List.mem_of_getElem? (i := 767) (by decide +kernel), List.mem_of_getElem? (i := 768) (by decide +kernel)⟩
theorem lw_p9 : lw_okq (⟨"DustRobot$State", "costTo", "(I)F"⟩, 12) := ⟨⟨by decide +kernel, by decide +kernel⟩, List.mem_of_getElem? (i := 22) (by decide +kernel), List.mem_of_getElem? (i := 771) (by decide +kernel), List.mem_of_getElem? (i := 772) (by decide +kernel)⟩
theorem lw_p10 : lw_okq (⟨"DustRobot$State", "isAllowed", "(FF)Z"⟩, 12) := ⟨⟨by decide +kernel, by decide +kernel⟩, List.mem_of_getElem? (i := 22) (by decide +kernel), List.mem_of_getElem? (i := 778) (by decide +kernel), List.mem_of_getElem? (i := 779) (by decide +kernel)⟩
theorem lw_p11 : lw_okq (⟨"DustRobot$State", "takeInHand", "(LDustRobot$Item;I)Z"⟩, 12) := ⟨⟨by decide +kernel, by decide +kernel⟩, List.mem_of_getElem? (i := 22) (by decide +kernel), List.mem_of_getElem? (i := 782) (by decide +kernel), List.mem_of_getElem? (i := 783) (by decide +kernel)⟩
theorem lw_p12 : lw_okq (⟨"DustRobot$State", "putHome", "(LDustRobot$Item;)Z"⟩, 12) := ⟨⟨by decide +kernel, by decide +kernel⟩, List.mem_of_getElem? (i := 22) (by decide +kernel), List.mem_of_getElem? (i := 786) (by decide +kernel), List.mem_of_getElem? (i := 787) (by decide +kernel)⟩
theorem lw_p13 : lw_okq (⟨"DustRobot$State", "doDriveStep", "(LDustRobot$Job;LDustRobot$Item;LDustRobot$Drive;)Z"⟩, 12) := ⟨⟨by decide +kernel, by decide +kernel⟩, List.mem_of_getElem? (i := 22) (by decide +kernel), List.mem_of_getElem? (i := 790) (by decide +kernel), List.mem_of_getElem? (i := 791) (by decide +kernel)⟩
theorem lw_p14 : lw_okq (⟨"DustRobot$State", "loadDrive", "(LDustRobot$Job;LDustRobot$Item;LDustRobot$Drive;)Z"⟩, 12) := ⟨⟨by decide +kernel, by decide +kernel⟩, List.mem_of_getElem? (i := 22) (by decide +kernel), List.mem_of_getElem? (i := 794) (by decide +kernel), List.mem_of_getElem? (i := 795) (by decide +kernel)⟩
theorem lw_p15 : lw_okq (⟨"DustRobot$State", "readInDrive", "(LDustRobot$Job;LDustRobot$Item;LDustRobot$Drive;)Z"⟩, 12) := ⟨⟨by decide +kernel, by decide +kernel⟩, List.mem_of_getElem? (i := 22) (by decide +kernel), List.mem_of_getElem? (i := 798) (by decide +kernel), List.mem_of_getElem? (i := 799) (by decide +kernel)⟩
def lw_privs_1 : List (MethodName × Nat) := [(⟨"DustRobot$State", "groupOf", "(LDustRobot$Job;)I"⟩, 12), (⟨"DustRobot$State", "canBegin", "(LDustRobot$Job;)Z"⟩, 12), (⟨"DustRobot$History", "dropOldest", "()V"⟩, 2), (⟨"DustRobot$Item", "begin", "(I)V"⟩, 8), (⟨"DustRobot", "giveJob", "(III)I"⟩, 6), (⟨"DustRobot$State", "beginJob", "()V"⟩, 12), (⟨"DustRobot$State", "doStep", "(LDustRobot$Job;)Z"⟩, 12), (⟨"DustRobot$State", "doMoveStep", "(LDustRobot$Job;LDustRobot$Item;I)Z"⟩, 12), (⟨"DustRobot$State", "goTo", "(LDustRobot$Job;I)Z"⟩, 12), (⟨"DustRobot$State", "costTo", "(I)F"⟩, 12), (⟨"DustRobot$State", "isAllowed", "(FF)Z"⟩, 12), (⟨"DustRobot$State", "takeInHand", "(LDustRobot$Item;I)Z"⟩, 12), (⟨"DustRobot$State", "putHome", "(LDustRobot$Item;)Z"⟩, 12), (⟨"DustRobot$State", "doDriveStep", "(LDustRobot$Job;LDustRobot$Item;LDustRobot$Drive;)Z"⟩, 12), (⟨"DustRobot$State", "loadDrive", "(LDustRobot$Job;LDustRobot$Item;LDustRobot$Drive;)Z"⟩, 12), (⟨"DustRobot$State", "readInDrive", "(LDustRobot$Job;LDustRobot$Item;LDustRobot$Drive;)Z"⟩, 12)]
theorem lw_r1 : ∀ q ∈ lw_privs_1, lw_okq q := List.forall_mem_cons.mpr ⟨lw_p0, List.forall_mem_cons.mpr ⟨lw_p1, List.forall_mem_cons.mpr ⟨lw_p2, List.forall_mem_cons.mpr ⟨lw_p3, List.forall_mem_cons.mpr ⟨lw_p4, List.forall_mem_cons.mpr ⟨lw_p5, List.forall_mem_cons.mpr ⟨lw_p6, List.forall_mem_cons.mpr ⟨lw_p7, List.forall_mem_cons.mpr ⟨lw_p8, List.forall_mem_cons.mpr ⟨lw_p9, List.forall_mem_cons.mpr ⟨lw_p10, List.forall_mem_cons.mpr ⟨lw_p11, List.forall_mem_cons.mpr ⟨lw_p12, List.forall_mem_cons.mpr ⟨lw_p13, List.forall_mem_cons.mpr ⟨lw_p14, List.forall_mem_cons.mpr ⟨lw_p15, fun _ h => absurd h List.not_mem_nil⟩⟩⟩⟩⟩⟩⟩⟩⟩⟩⟩⟩⟩⟩⟩⟩
theorem lw_p16 : lw_okq (⟨"DustRobot$State", "cleanDrive", "(LDustRobot$Job;LDustRobot$Item;LDustRobot$Drive;)Z"⟩, 12) := ⟨⟨by decide +kernel, by decide +kernel⟩, List.mem_of_getElem? (i := 22) (by decide +kernel), List.mem_of_getElem? (i := 808) (by decide +kernel), List.mem_of_getElem? (i := 809) (by decide +kernel)⟩
theorem lw_p17 : lw_okq (⟨"DustRobot$State", "unloadDrive", "(LDustRobot$Job;LDustRobot$Item;LDustRobot$Drive;)Z"⟩, 12) := ⟨⟨by decide +kernel, by decide +kernel⟩, List.mem_of_getElem? (i := 22) (by decide +kernel), List.mem_of_getElem? (i := 816) (by decide +kernel), List.mem_of_getElem? (i := 817) (by decide +kernel)⟩
theorem lw_p18 : lw_okq (⟨"DustRobot$State", "goOn", "(LDustRobot$Job;)I"⟩, 12) := ⟨⟨by decide +kernel, by decide +kernel⟩, List.mem_of_getElem? (i := 22) (by decide +kernel), List.mem_of_getElem? (i := 820) (by decide +kernel), List.mem_of_getElem? (i := 821) (by decide +kernel)⟩
def lw_privs_2 : List (MethodName × Nat) := [(⟨"DustRobot$State", "cleanDrive", "(LDustRobot$Job;LDustRobot$Item;LDustRobot$Drive;)Z"⟩, 12), (⟨"DustRobot$State", "unloadDrive", "(LDustRobot$Job;LDustRobot$Item;LDustRobot$Drive;)Z"⟩, 12), (⟨"DustRobot$State", "goOn", "(LDustRobot$Job;)I"⟩, 12)]
theorem lw_r2 : ∀ q ∈ lw_privs_2, lw_okq q := List.forall_mem_cons.mpr ⟨lw_p16, List.forall_mem_cons.mpr ⟨lw_p17, List.forall_mem_cons.mpr ⟨lw_p18, fun _ h => absurd h List.not_mem_nil⟩⟩⟩
def lw_privs : List (MethodName × Nat) := lw_privs_1 ++ (lw_privs_2)
def lw_tbl : List Cond := k2_sels lw_privs ++ tables_1
theorem lw_privs_ok : ∀ q ∈ lw_privs, lw_okq q := by
  show ∀ q ∈ lw_privs_1 ++ (lw_privs_2), lw_okq q
  exact List.forall_mem_append.mpr ⟨lw_r1, lw_r2⟩
/-- the streams that the claim lets the run draw from -/
abbrev lw_cs : List Choice := [Jvm.Choice.named "NaN.bits"]
theorem lw_bits : nanBits ∈ lw_cs := by first | decide | exact List.mem_cons_self | simp [lw_cs, nanBits]
-- ===== end of PART A
/-! ===== BEGIN printed: names, fields, word lists, decode rows ===== -/
def RX0 : String := "DustRobot$Drive"
def TX0 : u_T := fun k => match k with
  | 0 => ("DustRobot$Drive", "slot", "I", false)
  | 1 => ("DustRobot$Drive", "dust", "F", false)
  | 2 => ("DustRobot$Drive", "ceiling", "F", false)
  | 3 => ("DustRobot$Drive", "reads", "I", false)
  | 4 => ("DustRobot$Drive", "lostReads", "I", false)
  | 5 => ("DustRobot$Drive", "cleanings", "I", false)
  | _ => ("DustRobot$Drive", "loaded", "I", false)
def tyX0 : Nat → FieldType := fun k => match k with
  | 0 => .int
  | 1 => .float
  | 2 => .float
  | 3 => .int
  | 4 => .int
  | 5 => .int
  | _ => .int
abbrev wsX00 : List Cond := u_ws RX0 TX0 7
theorem nmX0 : ∀ a, a < 7 → ∀ b, b < 7 → a ≠ b → (TX0 a).2.1 ≠ (TX0 b).2.1 := by decide +kernel
theorem tyX0_ok : ∀ k, k < 7 → parseFieldDescriptor (TX0 k).2.2.1 = some (tyX0 k) := by decide +kernel
abbrev cX0_init : ByteArray := prog_2_method_1_code
def yX0_init : MethodName := ⟨RX0, "<init>", "()V"⟩
abbrev cX0_begin : ByteArray := prog_2_method_2_code
def yX0_begin : MethodName := ⟨RX0, "begin", "(I)V"⟩
abbrev cX0_copyFrom : ByteArray := prog_2_method_3_code
def yX0_copyFrom : MethodName := ⟨RX0, "copyFrom", "(LDustRobot$Drive;)V"⟩
abbrev cX0_isTooDusty : ByteArray := prog_2_method_4_code
def yX0_isTooDusty : MethodName := ⟨RX0, "isTooDusty", "()Z"⟩
abbrev cX0_readTape : ByteArray := prog_2_method_5_code
def yX0_readTape : MethodName := ⟨RX0, "readTape", "(LDustRobot$Item;)Z"⟩
abbrev cX0_cleanWith : ByteArray := prog_2_method_6_code
def yX0_cleanWith : MethodName := ⟨RX0, "cleanWith", "(LDustRobot$Item;)V"⟩
abbrev cX0_tell : ByteArray := prog_2_method_7_code
def yX0_tell : MethodName := ⟨RX0, "tell", "(I)I"⟩
def RX1 : String := "DustRobot$History"
def TX1 : u_T := fun k => match k with
  | 0 => ("DustRobot$History", "states", "[LDustRobot$State;", true)
  | _ => ("DustRobot$History", "held", "I", false)
def tyX1 : Nat → FieldType := fun k => match k with
  | 0 => .array (.object "DustRobot$State")
  | _ => .int
abbrev wsX10 : List Cond := u_ws RX1 TX1 2
theorem nmX1 : ∀ a, a < 2 → ∀ b, b < 2 → a ≠ b → (TX1 a).2.1 ≠ (TX1 b).2.1 := by decide +kernel
theorem tyX1_ok : ∀ k, k < 2 → parseFieldDescriptor (TX1 k).2.2.1 = some (tyX1 k) := by decide +kernel
abbrev cX1_init : ByteArray := prog_3_method_1_code
def yX1_init : MethodName := ⟨RX1, "<init>", "()V"⟩
abbrev cX1_record : ByteArray := prog_3_method_2_code
def yX1_record : MethodName := ⟨RX1, "record", "(LDustRobot$State;)V"⟩
abbrev cX1_dropOldest : ByteArray := prog_3_method_3_code
def yX1_dropOldest : MethodName := ⟨RX1, "dropOldest", "()V"⟩
def RX2 : String := "DustRobot$Item"
def TX2 : u_T := fun k => match k with
  | 0 => ("DustRobot$Item", "isCleaner", "Z", false)
  | 1 => ("DustRobot$Item", "home", "I", false)
  | 2 => ("DustRobot$Item", "where", "I", false)
  | 3 => ("DustRobot$Item", "drive", "I", false)
  | 4 => ("DustRobot$Item", "amount", "I", false)
  | 5 => ("DustRobot$Item", "frailtyBits", "I", false)
  | 6 => ("DustRobot$Item", "frailty", "F", false)
  | _ => ("DustRobot$Item", "lostReads", "I", false)
def tyX2 : Nat → FieldType := fun k => match k with
  | 0 => .boolean
  | 1 => .int
  | 2 => .int
  | 3 => .int
  | 4 => .int
  | 5 => .int
  | 6 => .float
  | _ => .int
abbrev wsX20 : List Cond := u_ws RX2 TX2 8
theorem nmX2 : ∀ a, a < 8 → ∀ b, b < 8 → a ≠ b → (TX2 a).2.1 ≠ (TX2 b).2.1 := by decide +kernel
theorem tyX2_ok : ∀ k, k < 8 → parseFieldDescriptor (TX2 k).2.2.1 = some (tyX2 k) := by decide +kernel
abbrev cX2_init : ByteArray := prog_4_method_1_code
def yX2_init : MethodName := ⟨RX2, "<init>", "()V"⟩
abbrev cX2_beginTape : ByteArray := prog_4_method_2_code
def yX2_beginTape : MethodName := ⟨RX2, "beginTape", "(IIF)V"⟩
abbrev cX2_beginCleaner : ByteArray := prog_4_method_3_code
def yX2_beginCleaner : MethodName := ⟨RX2, "beginCleaner", "(II)V"⟩
abbrev cX2_begin : ByteArray := prog_4_method_4_code
def yX2_begin : MethodName := ⟨RX2, "begin", "(I)V"⟩
abbrev cX2_copyFrom : ByteArray := prog_4_method_5_code
def yX2_copyFrom : MethodName := ⟨RX2, "copyFrom", "(LDustRobot$Item;)V"⟩
abbrev cX2_tell : ByteArray := prog_4_method_6_code
def yX2_tell : MethodName := ⟨RX2, "tell", "(I)I"⟩
def RX3 : String := "DustRobot$Job"
def TX3 : u_T := fun k => match k with
  | 0 => ("DustRobot$Job", "kind", "I", false)
  | 1 => ("DustRobot$Job", "target", "I", false)
  | 2 => ("DustRobot$Job", "slot", "I", false)
  | 3 => ("DustRobot$Job", "state", "I", false)
  | 4 => ("DustRobot$Job", "began", "I", false)
  | 5 => ("DustRobot$Job", "ended", "I", false)
  | 6 => ("DustRobot$Job", "step", "I", false)
  | 7 => ("DustRobot$Job", "drive", "I", false)
  | 8 => ("DustRobot$Job", "cleaner", "I", false)
  | 9 => ("DustRobot$Job", "reason", "I", false)
  | 10 => ("DustRobot$Job", "pleas", "I", false)
  | 11 => ("DustRobot$Job", "until", "I", false)
  | _ => ("DustRobot$Job", "lostReads", "I", false)
def tyX3 : Nat → FieldType := fun k => match k with
  | 0 => .int
  | 1 => .int
  | 2 => .int
  | 3 => .int
  | 4 => .int
  | 5 => .int
  | 6 => .int
  | 7 => .int
  | 8 => .int
  | 9 => .int
  | 10 => .int
  | 11 => .int
  | _ => .int
abbrev wsX30 : List Cond := u_ws RX3 TX3 13
theorem nmX3 : ∀ a, a < 13 → ∀ b, b < 13 → a ≠ b → (TX3 a).2.1 ≠ (TX3 b).2.1 := by decide +kernel
theorem tyX3_ok : ∀ k, k < 13 → parseFieldDescriptor (TX3 k).2.2.1 = some (tyX3 k) := by decide +kernel
abbrev cX3_init : ByteArray := prog_5_method_1_code
def yX3_init : MethodName := ⟨RX3, "<init>", "()V"⟩
abbrev cX3_enter : ByteArray := prog_5_method_2_code
def yX3_enter : MethodName := ⟨RX3, "enter", "(III)V"⟩
abbrev cX3_copyFrom : ByteArray := prog_5_method_3_code
def yX3_copyFrom : MethodName := ⟨RX3, "copyFrom", "(LDustRobot$Job;)V"⟩
abbrev cX3_isOpen : ByteArray := prog_5_method_4_code
def yX3_isOpen : MethodName := ⟨RX3, "isOpen", "()Z"⟩
abbrev cX3_carriedItem : ByteArray := prog_5_method_5_code
def yX3_carriedItem : MethodName := ⟨RX3, "carriedItem", "()I"⟩
abbrev cX3_steps : ByteArray := prog_5_method_6_code
def yX3_steps : MethodName := ⟨RX3, "steps", "()I"⟩
abbrev cX3_tell : ByteArray := prog_5_method_7_code
def yX3_tell : MethodName := ⟨RX3, "tell", "(I)I"⟩
def RX4 : String := "DustRobot$Log"
def TX4 : u_T := fun k => match k with
  | 0 => ("DustRobot$Log", "kinds", "[I", true)
  | 1 => ("DustRobot$Log", "jobs", "[I", true)
  | 2 => ("DustRobot$Log", "drives", "[I", true)
  | 3 => ("DustRobot$Log", "ticks", "[I", true)
  | 4 => ("DustRobot$Log", "held", "I", false)
  | _ => ("DustRobot$Log", "newest", "I", false)
def tyX4 : Nat → FieldType := fun k => match k with
  | 0 => .array .int
  | 1 => .array .int
  | 2 => .array .int
  | 3 => .array .int
  | 4 => .int
  | _ => .int
abbrev wsX40 : List Cond := u_ws RX4 TX4 6
theorem nmX4 : ∀ a, a < 6 → ∀ b, b < 6 → a ≠ b → (TX4 a).2.1 ≠ (TX4 b).2.1 := by decide +kernel
theorem tyX4_ok : ∀ k, k < 6 → parseFieldDescriptor (TX4 k).2.2.1 = some (tyX4 k) := by decide +kernel
abbrev cX4_init : ByteArray := prog_6_method_1_code
def yX4_init : MethodName := ⟨RX4, "<init>", "()V"⟩
abbrev cX4_copyFrom : ByteArray := prog_6_method_2_code
def yX4_copyFrom : MethodName := ⟨RX4, "copyFrom", "(LDustRobot$Log;)V"⟩
abbrev cX4_add : ByteArray := prog_6_method_3_code
def yX4_add : MethodName := ⟨RX4, "add", "(IIII)V"⟩
def RX5 : String := "DustRobot$Queue"
def TX5 : u_T := fun k => match k with
  | 0 => ("DustRobot$Queue", "jobs", "[LDustRobot$Job;", true)
  | 1 => ("DustRobot$Queue", "jobCount", "I", false)
  | 2 => ("DustRobot$Queue", "firstKind", "I", false)
  | _ => ("DustRobot$Queue", "secondKind", "I", false)
def tyX5 : Nat → FieldType := fun k => match k with
  | 0 => .array (.object "DustRobot$Job")
  | 1 => .int
  | 2 => .int
  | _ => .int
abbrev wsX50 : List Cond := u_ws RX5 TX5 4
theorem nmX5 : ∀ a, a < 4 → ∀ b, b < 4 → a ≠ b → (TX5 a).2.1 ≠ (TX5 b).2.1 := by decide +kernel
theorem tyX5_ok : ∀ k, k < 4 → parseFieldDescriptor (TX5 k).2.2.1 = some (tyX5 k) := by decide +kernel
abbrev cX5_init : ByteArray := prog_7_method_1_code
def yX5_init : MethodName := ⟨RX5, "<init>", "()V"⟩
abbrev cX5_copyFrom : ByteArray := prog_7_method_2_code
def yX5_copyFrom : MethodName := ⟨RX5, "copyFrom", "(LDustRobot$Queue;)V"⟩
abbrev cX5_jobAt : ByteArray := prog_7_method_3_code
def yX5_jobAt : MethodName := ⟨RX5, "jobAt", "(I)LDustRobot$Job;"⟩
abbrev cX5_enter : ByteArray := prog_7_method_4_code
def yX5_enter : MethodName := ⟨RX5, "enter", "(III)I"⟩
abbrev cX5_rankKinds : ByteArray := prog_7_method_5_code
def yX5_rankKinds : MethodName := ⟨RX5, "rankKinds", "(II)I"⟩
abbrev cX5_rankOf : ByteArray := prog_7_method_6_code
def yX5_rankOf : MethodName := ⟨RX5, "rankOf", "(I)I"⟩
abbrev cX5_jobsInState : ByteArray := prog_7_method_7_code
def yX5_jobsInState : MethodName := ⟨RX5, "jobsInState", "(I)I"⟩
abbrev cX5_jobsWith : ByteArray := prog_7_method_8_code
def yX5_jobsWith : MethodName := ⟨RX5, "jobsWith", "(I)I"⟩
def RX6 : String := "DustRobot$State"
def TX6 : u_T := fun k => match k with
  | 0 => ("DustRobot$State", "store", "LDustRobot$Store;", true)
  | 1 => ("DustRobot$State", "queue", "LDustRobot$Queue;", true)
  | 2 => ("DustRobot$State", "log", "LDustRobot$Log;", true)
  | 3 => ("DustRobot$State", "meter", "F", false)
  | 4 => ("DustRobot$State", "limit", "F", false)
  | 5 => ("DustRobot$State", "tick", "I", false)
  | 6 => ("DustRobot$State", "place", "I", false)
  | 7 => ("DustRobot$State", "hand", "I", false)
  | 8 => ("DustRobot$State", "ownJob", "I", false)
  | 9 => ("DustRobot$State", "pleas", "I", false)
  | 10 => ("DustRobot$State", "slotsGone", "I", false)
  | _ => ("DustRobot$State", "idleTicks", "I", false)
def tyX6 : Nat → FieldType := fun k => match k with
  | 0 => .object "DustRobot$Store"
  | 1 => .object "DustRobot$Queue"
  | 2 => .object "DustRobot$Log"
  | 3 => .float
  | 4 => .float
  | 5 => .int
  | 6 => .int
  | 7 => .int
  | 8 => .int
  | 9 => .int
  | 10 => .int
  | _ => .int
abbrev wsX60 : List Cond := u_ws RX6 TX6 12
theorem nmX6 : ∀ a, a < 12 → ∀ b, b < 12 → a ≠ b → (TX6 a).2.1 ≠ (TX6 b).2.1 := by decide +kernel
theorem tyX6_ok : ∀ k, k < 12 → parseFieldDescriptor (TX6 k).2.2.1 = some (tyX6 k) := by decide +kernel
abbrev cX6_init : ByteArray := prog_8_method_1_code
def yX6_init : MethodName := ⟨RX6, "<init>", "()V"⟩
abbrev cX6_copyFrom : ByteArray := prog_8_method_2_code
def yX6_copyFrom : MethodName := ⟨RX6, "copyFrom", "(LDustRobot$State;)V"⟩
abbrev cX6_isTakenOrAimedAt : ByteArray := prog_8_method_3_code
def yX6_isTakenOrAimedAt : MethodName := ⟨RX6, "isTakenOrAimedAt", "(I)Z"⟩
abbrev cX6_faultOfJob : ByteArray := prog_8_method_4_code
def yX6_faultOfJob : MethodName := ⟨RX6, "faultOfJob", "(III)I"⟩
abbrev cX6_jobToBegin : ByteArray := prog_8_method_6_code
def yX6_jobToBegin : MethodName := ⟨RX6, "jobToBegin", "()I"⟩
abbrev cX6_groupOf : ByteArray := prog_8_method_7_code
def yX6_groupOf : MethodName := ⟨RX6, "groupOf", "(LDustRobot$Job;)I"⟩
abbrev cX6_canBegin : ByteArray := prog_8_method_8_code
def yX6_canBegin : MethodName := ⟨RX6, "canBegin", "(LDustRobot$Job;)Z"⟩
abbrev cX6_isAllowed : ByteArray := prog_8_method_10_code
def yX6_isAllowed : MethodName := ⟨RX6, "isAllowed", "(FF)Z"⟩
abbrev cX6_costTo : ByteArray := prog_8_method_11_code
def yX6_costTo : MethodName := ⟨RX6, "costTo", "(I)F"⟩
abbrev cX6_passOneTick : ByteArray := prog_8_method_12_code
def yX6_passOneTick : MethodName := ⟨RX6, "passOneTick", "()I"⟩
abbrev cX6_beginJob : ByteArray := prog_8_method_13_code
def yX6_beginJob : MethodName := ⟨RX6, "beginJob", "()V"⟩
abbrev cX6_doStep : ByteArray := prog_8_method_14_code
def yX6_doStep : MethodName := ⟨RX6, "doStep", "(LDustRobot$Job;)Z"⟩
abbrev cX6_doMoveStep : ByteArray := prog_8_method_15_code
def yX6_doMoveStep : MethodName := ⟨RX6, "doMoveStep", "(LDustRobot$Job;LDustRobot$Item;I)Z"⟩
abbrev cX6_doDriveStep : ByteArray := prog_8_method_16_code
def yX6_doDriveStep : MethodName := ⟨RX6, "doDriveStep", "(LDustRobot$Job;LDustRobot$Item;LDustRobot$Drive;)Z"⟩
abbrev cX6_goTo : ByteArray := prog_8_method_17_code
def yX6_goTo : MethodName := ⟨RX6, "goTo", "(LDustRobot$Job;I)Z"⟩
abbrev cX6_takeInHand : ByteArray := prog_8_method_18_code
def yX6_takeInHand : MethodName := ⟨RX6, "takeInHand", "(LDustRobot$Item;I)Z"⟩
abbrev cX6_putHome : ByteArray := prog_8_method_19_code
def yX6_putHome : MethodName := ⟨RX6, "putHome", "(LDustRobot$Item;)Z"⟩
abbrev cX6_loadDrive : ByteArray := prog_8_method_20_code
def yX6_loadDrive : MethodName := ⟨RX6, "loadDrive", "(LDustRobot$Job;LDustRobot$Item;LDustRobot$Drive;)Z"⟩
abbrev cX6_unloadDrive : ByteArray := prog_8_method_21_code
def yX6_unloadDrive : MethodName := ⟨RX6, "unloadDrive", "(LDustRobot$Job;LDustRobot$Item;LDustRobot$Drive;)Z"⟩
abbrev cX6_readInDrive : ByteArray := prog_8_method_22_code
def yX6_readInDrive : MethodName := ⟨RX6, "readInDrive", "(LDustRobot$Job;LDustRobot$Item;LDustRobot$Drive;)Z"⟩
abbrev cX6_cleanDrive : ByteArray := prog_8_method_23_code
def yX6_cleanDrive : MethodName := ⟨RX6, "cleanDrive", "(LDustRobot$Job;LDustRobot$Item;LDustRobot$Drive;)Z"⟩
abbrev cX6_goOn : ByteArray := prog_8_method_24_code
def yX6_goOn : MethodName := ⟨RX6, "goOn", "(LDustRobot$Job;)I"⟩
def RX7 : String := "DustRobot$Store"
def TX7 : u_T := fun k => match k with
  | 0 => ("DustRobot$Store", "items", "[LDustRobot$Item;", true)
  | 1 => ("DustRobot$Store", "itemCount", "I", false)
  | 2 => ("DustRobot$Store", "drives", "[LDustRobot$Drive;", true)
  | _ => ("DustRobot$Store", "driveCount", "I", false)
def tyX7 : Nat → FieldType := fun k => match k with
  | 0 => .array (.object "DustRobot$Item")
  | 1 => .int
  | 2 => .array (.object "DustRobot$Drive")
  | _ => .int
abbrev wsX70 : List Cond := u_ws RX7 TX7 4
theorem nmX7 : ∀ a, a < 4 → ∀ b, b < 4 → a ≠ b → (TX7 a).2.1 ≠ (TX7 b).2.1 := by decide +kernel
theorem tyX7_ok : ∀ k, k < 4 → parseFieldDescriptor (TX7 k).2.2.1 = some (tyX7 k) := by decide +kernel
abbrev cX7_init : ByteArray := prog_9_method_1_code
def yX7_init : MethodName := ⟨RX7, "<init>", "()V"⟩
abbrev cX7_copyFrom : ByteArray := prog_9_method_2_code
def yX7_copyFrom : MethodName := ⟨RX7, "copyFrom", "(LDustRobot$Store;)V"⟩
abbrev cX7_hasSlot : ByteArray := prog_9_method_3_code
def yX7_hasSlot : MethodName := ⟨RX7, "hasSlot", "(I)Z"⟩
abbrev cX7_itemAt : ByteArray := prog_9_method_4_code
def yX7_itemAt : MethodName := ⟨RX7, "itemAt", "(I)LDustRobot$Item;"⟩
abbrev cX7_driveAt : ByteArray := prog_9_method_5_code
def yX7_driveAt : MethodName := ⟨RX7, "driveAt", "(I)LDustRobot$Drive;"⟩
abbrev cX7_freeItem : ByteArray := prog_9_method_6_code
def yX7_freeItem : MethodName := ⟨RX7, "freeItem", "()LDustRobot$Item;"⟩
abbrev cX7_freeDrive : ByteArray := prog_9_method_7_code
def yX7_freeDrive : MethodName := ⟨RX7, "freeDrive", "()LDustRobot$Drive;"⟩
abbrev cX7_itemWithHome : ByteArray := prog_9_method_8_code
def yX7_itemWithHome : MethodName := ⟨RX7, "itemWithHome", "(I)I"⟩
abbrev cX7_driveBeside : ByteArray := prog_9_method_9_code
def yX7_driveBeside : MethodName := ⟨RX7, "driveBeside", "(I)I"⟩
abbrev cX7_driveToRead : ByteArray := prog_9_method_10_code
def yX7_driveToRead : MethodName := ⟨RX7, "driveToRead", "()I"⟩
abbrev cX7_cleanerNearest : ByteArray := prog_9_method_11_code
def yX7_cleanerNearest : MethodName := ⟨RX7, "cleanerNearest", "(I)I"⟩
abbrev cX7_dustOfAll : ByteArray := prog_9_method_12_code
def yX7_dustOfAll : MethodName := ⟨RX7, "dustOfAll", "()F"⟩
abbrev cX7_sumOverDrives : ByteArray := prog_9_method_13_code
def yX7_sumOverDrives : MethodName := ⟨RX7, "sumOverDrives", "(I)I"⟩
abbrev cX7_usesOfAll : ByteArray := prog_9_method_14_code
def yX7_usesOfAll : MethodName := ⟨RX7, "usesOfAll", "()I"⟩
def RX8 : String := "DustRobot$Text"
def TX8 : u_T := fun k => match k with
  | 0 => ("DustRobot$Text", "signs", "[C", true)
  | 1 => ("DustRobot$Text", "length", "I", false)
  | 2 => ("DustRobot$Text", "at", "I", false)
  | 3 => ("DustRobot$Text", "kinds", "[I", true)
  | 4 => ("DustRobot$Text", "targets", "[I", true)
  | 5 => ("DustRobot$Text", "slots", "[I", true)
  | _ => ("DustRobot$Text", "jobCount", "I", false)
def tyX8 : Nat → FieldType := fun k => match k with
  | 0 => .array .char
  | 1 => .int
  | 2 => .int
  | 3 => .array .int
  | 4 => .array .int
  | 5 => .array .int
  | _ => .int
abbrev wsX80 : List Cond := u_ws RX8 TX8 7
theorem nmX8 : ∀ a, a < 7 → ∀ b, b < 7 → a ≠ b → (TX8 a).2.1 ≠ (TX8 b).2.1 := by decide +kernel
theorem tyX8_ok : ∀ k, k < 7 → parseFieldDescriptor (TX8 k).2.2.1 = some (tyX8 k) := by decide +kernel
abbrev cX8_init : ByteArray := prog_10_method_1_code
def yX8_init : MethodName := ⟨RX8, "<init>", "()V"⟩
def RX9 : String := "DustRobot"
def TX9 : u_T := fun k => match k with
  | 0 => ("DustRobot", "now", "LDustRobot$State;", true)
  | 1 => ("DustRobot", "history", "LDustRobot$History;", true)
  | 2 => ("DustRobot", "snapshot", "LDustRobot$State;", true)
  | 3 => ("DustRobot", "hasSnapshot", "Z", false)
  | 4 => ("DustRobot", "trial", "LDustRobot$State;", true)
  | _ => ("DustRobot", "text", "LDustRobot$Text;", true)
def tyX9 : Nat → FieldType := fun k => match k with
  | 0 => .object "DustRobot$State"
  | 1 => .object "DustRobot$History"
  | 2 => .object "DustRobot$State"
  | 3 => .boolean
  | 4 => .object "DustRobot$State"
  | _ => .object "DustRobot$Text"
abbrev wsX90 : List Cond := u_ws RX9 TX9 6
theorem nmX9 : ∀ a, a < 6 → ∀ b, b < 6 → a ≠ b → (TX9 a).2.1 ≠ (TX9 b).2.1 := by decide +kernel
theorem tyX9_ok : ∀ k, k < 6 → parseFieldDescriptor (TX9 k).2.2.1 = some (tyX9 k) := by decide +kernel
abbrev cX9_init : ByteArray := prog_1_method_1_code
def yX9_init : MethodName := ⟨RX9, "<init>", "()V"⟩
abbrev cX9_addDrive : ByteArray := prog_1_method_2_code
def yX9_addDrive : MethodName := ⟨RX9, "addDrive", "(I)I"⟩
abbrev cX9_addTape : ByteArray := prog_1_method_3_code
def yX9_addTape : MethodName := ⟨RX9, "addTape", "(II)I"⟩
abbrev cX9_addCleaner : ByteArray := prog_1_method_4_code
def yX9_addCleaner : MethodName := ⟨RX9, "addCleaner", "(II)I"⟩
abbrev cX9_refill : ByteArray := prog_1_method_5_code
def yX9_refill : MethodName := ⟨RX9, "refill", "(II)I"⟩
abbrev cX9_setLimit : ByteArray := prog_1_method_6_code
def yX9_setLimit : MethodName := ⟨RX9, "setLimit", "(I)I"⟩
abbrev cX9_setCeiling : ByteArray := prog_1_method_7_code
def yX9_setCeiling : MethodName := ⟨RX9, "setCeiling", "(II)I"⟩
abbrev cX9_setOrder : ByteArray := prog_1_method_8_code
def yX9_setOrder : MethodName := ⟨RX9, "setOrder", "(II)I"⟩
abbrev cX9_read : ByteArray := prog_1_method_9_code
def yX9_read : MethodName := ⟨RX9, "read", "(I)I"⟩
abbrev cX9_clean : ByteArray := prog_1_method_10_code
def yX9_clean : MethodName := ⟨RX9, "clean", "(I)I"⟩
abbrev cX9_move : ByteArray := prog_1_method_11_code
def yX9_move : MethodName := ⟨RX9, "move", "(II)I"⟩
abbrev cX9_putOff : ByteArray := prog_1_method_12_code
def yX9_putOff : MethodName := ⟨RX9, "putOff", "(II)I"⟩
abbrev cX9_withdraw : ByteArray := prog_1_method_13_code
def yX9_withdraw : MethodName := ⟨RX9, "withdraw", "(I)I"⟩
abbrev cX9_tick : ByteArray := prog_1_method_14_code
def yX9_tick : MethodName := ⟨RX9, "tick", "(I)I"⟩
abbrev cX9_item : ByteArray := prog_1_method_21_code
def yX9_item : MethodName := ⟨RX9, "item", "(II)I"⟩
abbrev cX9_homeOf : ByteArray := prog_1_method_22_code
def yX9_homeOf : MethodName := ⟨RX9, "homeOf", "(I)I"⟩
abbrev cX9_drive : ByteArray := prog_1_method_23_code
def yX9_drive : MethodName := ⟨RX9, "drive", "(II)I"⟩
abbrev cX9_dust : ByteArray := prog_1_method_24_code
def yX9_dust : MethodName := ⟨RX9, "dust", "(I)F"⟩
abbrev cX9_ceiling : ByteArray := prog_1_method_25_code
def yX9_ceiling : MethodName := ⟨RX9, "ceiling", "(I)F"⟩
abbrev cX9_meter : ByteArray := prog_1_method_26_code
def yX9_meter : MethodName := ⟨RX9, "meter", "(I)F"⟩
abbrev cX9_job : ByteArray := prog_1_method_27_code
def yX9_job : MethodName := ⟨RX9, "job", "(II)I"⟩
abbrev cX9_next : ByteArray := prog_1_method_29_code
def yX9_next : MethodName := ⟨RX9, "next", "()I"⟩
abbrev cX9_count : ByteArray := prog_1_method_34_code
def yX9_count : MethodName := ⟨RX9, "count", "(I)I"⟩
abbrev cX9_giveJob : ByteArray := prog_1_method_35_code
def yX9_giveJob : MethodName := ⟨RX9, "giveJob", "(III)I"⟩
abbrev cX9_isFrom : ByteArray := prog_1_method_36_code
def yX9_isFrom : MethodName := ⟨RX9, "isFrom", "(III)Z"⟩
abbrev cX9_floatOf : ByteArray := prog_1_method_37_code
def yX9_floatOf : MethodName := ⟨RX9, "floatOf", "(I)F"⟩
abbrev cX9_noNumber : ByteArray := prog_1_method_38_code
def yX9_noNumber : MethodName := ⟨RX9, "noNumber", "()F"⟩
def RX10 : String := "DustRobotModel"
def TX10 : u_T := fun k => match k with
  | _ => ("", "", "", false)
def tyX10 : Nat → FieldType := fun k => match k with
  | _ => .int
abbrev wsX100 : List Cond := u_ws RX10 TX10 0
theorem nmX10 : ∀ a, a < 0 → ∀ b, b < 0 → a ≠ b → (TX10 a).2.1 ≠ (TX10 b).2.1 := by decide +kernel
theorem tyX10_ok : ∀ k, k < 0 → parseFieldDescriptor (TX10 k).2.2.1 = some (tyX10 k) := by decide +kernel
def RJ9 : String := "java/lang/Math"
def TJ9 : u_T := fun k => match k with
  | _ => ("", "", "", false)
def tyJ9 : Nat → FieldType := fun k => match k with
  | _ => .int
abbrev wsJ90 : List Cond := u_ws RJ9 TJ9 0
theorem nmJ9 : ∀ a, a < 0 → ∀ b, b < 0 → a ≠ b → (TJ9 a).2.1 ≠ (TJ9 b).2.1 := by decide +kernel
theorem tyJ9_ok : ∀ k, k < 0 → parseFieldDescriptor (TJ9 k).2.2.1 = some (tyJ9 k) := by decide +kernel
abbrev cJ9_abs_0f7a4 : ByteArray := prog_13_method_59_code
def yJ9_abs_0f7a4 : MethodName := ⟨RJ9, "abs", "(I)I"⟩
abbrev cJ9_min_7cf53 : ByteArray := prog_13_method_69_code
def yJ9_min_7cf53 : MethodName := ⟨RJ9, "min", "(II)I"⟩
def RJ10 : String := "java/lang/System"
def TJ10 : u_T := fun k => match k with
  | _ => ("", "", "", false)
def tyJ10 : Nat → FieldType := fun k => match k with
  | _ => .int
abbrev wsJ100 : List Cond := u_ws RJ10 TJ10 0
theorem nmJ10 : ∀ a, a < 0 → ∀ b, b < 0 → a ≠ b → (TJ10 a).2.1 ≠ (TJ10 b).2.1 := by decide +kernel
theorem tyJ10_ok : ∀ k, k < 0 → parseFieldDescriptor (TJ10 k).2.2.1 = some (tyJ10 k) := by decide +kernel
def RL : String := "DustRobotLaw"
abbrev cL_cell : ByteArray := method_2_code
def yL_cell : MethodName := ⟨RL, "cell", "([II)I"⟩
abbrev cL_low : ByteArray := method_3_code
def yL_low : MethodName := ⟨RL, "low", "(II)I"⟩
abbrev cL_bits : ByteArray := method_4_code
def yL_bits : MethodName := ⟨RL, "bits", "(I)I"⟩
abbrev cL_isDusty : ByteArray := method_5_code
def yL_isDusty : MethodName := ⟨RL, "isDusty", "([DI)Z"⟩
abbrev cL_away : ByteArray := method_6_code
def yL_away : MethodName := ⟨RL, "away", "(II)I"⟩
abbrev cL_atHome : ByteArray := method_7_code
def yL_atHome : MethodName := ⟨RL, "atHome", "([I[II)I"⟩
abbrev cL_rank : ByteArray := method_8_code
def yL_rank : MethodName := ⟨RL, "rank", "([II)I"⟩
abbrev cL_isAhead : ByteArray := method_9_code
def yL_isAhead : MethodName := ⟨RL, "isAhead", "([I[D[III)Z"⟩
abbrev cL_drive : ByteArray := method_10_code
def yL_drive : MethodName := ⟨RL, "drive", "([I[D)I"⟩
abbrev cL_cleaner : ByteArray := method_11_code
def yL_cleaner : MethodName := ⟨RL, "cleaner", "([I[I)I"⟩
abbrev cL_canBegin : ByteArray := method_12_code
def yL_canBegin : MethodName := ⟨RL, "canBegin", "([I[I[D[I[II)Z"⟩
abbrev cL_first : ByteArray := method_13_code
def yL_first : MethodName := ⟨RL, "first", "([I[I[D[I[I)I"⟩
abbrev cL_isThere : ByteArray := method_14_code
def yL_isThere : MethodName := ⟨RL, "isThere", "([I[I[D[II)Z"⟩
abbrev cL_isRead : ByteArray := method_15_code
def yL_isRead : MethodName := ⟨RL, "isRead", "([I[I[I[D[I[III)Z"⟩
abbrev cL_puts : ByteArray := method_16_code
def yL_puts : MethodName := ⟨RL, "puts", "([I[I[IIII)Z"⟩
abbrev cL_isDone : ByteArray := method_17_code
def yL_isDone : MethodName := ⟨RL, "isDone", "([I[I[I[D[I[I[I)Z"⟩
abbrev cL_ticks : ByteArray := method_18_code
def yL_ticks : MethodName := ⟨RL, "ticks", "([I[I[I[D[I[I[I)I"⟩
abbrev cL_areItems : ByteArray := method_19_code
def yL_areItems : MethodName := ⟨RL, "areItems", "(LDustRobot;[I[I[I[I[I)Z"⟩
abbrev cL_areDrives : ByteArray := method_20_code
def yL_areDrives : MethodName := ⟨RL, "areDrives", "(LDustRobot;[I[I[D)Z"⟩
abbrev cL_areJobs : ByteArray := method_21_code
def yL_areJobs : MethodName := ⟨RL, "areJobs", "(LDustRobot;[I[I[I)Z"⟩
abbrev cL_areCounts : ByteArray := method_22_code
def yL_areCounts : MethodName := ⟨RL, "areCounts", "(LDustRobot;[I[I[D[I[I)Z"⟩
abbrev cL_adds : ByteArray := method_23_code
def yL_adds : MethodName := ⟨RL, "adds", "(LDustRobot;[I[II)Z"⟩
abbrev cL_builds : ByteArray := method_24_code
def yL_builds : MethodName := ⟨RL, "builds", "(LDustRobot;[I[I[DI)Z"⟩
abbrev cL_gives : ByteArray := method_25_code
def yL_gives : MethodName := ⟨RL, "gives", "(LDustRobot;[I[I[I[II)Z"⟩
abbrev cL_holds : ByteArray := method_26_code
def yL_holds : MethodName := ⟨RL, "holds", "(LDustRobot;[I[I[II)Z"⟩
abbrev cL_sets : ByteArray := method_27_code
def yL_sets : MethodName := ⟨RL, "sets", "(LDustRobot;[I[I[DI)Z"⟩
abbrev cL_passes : ByteArray := method_28_code
def yL_passes : MethodName := ⟨RL, "passes", "(LDustRobot;[I[I[I[D[I[I[II)Z"⟩
abbrev cL_law : ByteArray := code
def yL_law : MethodName := ⟨RL, "law", "([I)Z"⟩
abbrev vwCl : List vw_C := [(RX0, TX0, 7), (RX1, TX1, 2), (RX2, TX2, 8), (RX3, TX3, 13), (RX4, TX4, 6), (RX5, TX5, 4), (RX6, TX6, 12), (RX7, TX7, 4), (RX8, TX8, 7), (RX9, TX9, 6)]
def Wt : List Cond := lw_tbl.filter goodWord
end
section
theorem dX0_init_0 : decode cX0_init 0 = .ok (.aload_n 0, 1) := by decide +kernel
theorem dX0_init_1 : decode cX0_init 1 = .ok (.invokespecial 3, 3) := by decide +kernel
theorem dX0_init_4 : decode cX0_init 4 = .ok (.return_, 1) := by decide +kernel
theorem dX0_begin_0 : decode cX0_begin 0 = .ok (.aload_n 0, 1) := by decide +kernel
theorem dX0_begin_1 : decode cX0_begin 1 = .ok (.iload_n 1, 1) := by decide +kernel
theorem dX0_begin_2 : decode cX0_begin 2 = .ok (.putfield 9, 3) := by decide +kernel
theorem dX0_begin_5 : decode cX0_begin 5 = .ok (.aload_n 0, 1) := by decide +kernel
theorem dX0_begin_6 : decode cX0_begin 6 = .ok (.fconst 0, 1) := by decide +kernel
theorem dX0_begin_7 : decode cX0_begin 7 = .ok (.putfield 15, 3) := by decide +kernel
theorem dX0_begin_10 : decode cX0_begin 10 = .ok (.aload_n 0, 1) := by decide +kernel
theorem dX0_begin_11 : decode cX0_begin 11 = .ok (.ldc 19, 2) := by decide +kernel
theorem dX0_begin_13 : decode cX0_begin 13 = .ok (.putfield 20, 3) := by decide +kernel
theorem dX0_begin_16 : decode cX0_begin 16 = .ok (.aload_n 0, 1) := by decide +kernel
theorem dX0_begin_17 : decode cX0_begin 17 = .ok (.iconst 0, 1) := by decide +kernel
theorem dX0_begin_18 : decode cX0_begin 18 = .ok (.putfield 23, 3) := by decide +kernel
theorem dX0_begin_21 : decode cX0_begin 21 = .ok (.aload_n 0, 1) := by decide +kernel
theorem dX0_begin_22 : decode cX0_begin 22 = .ok (.iconst 0, 1) := by decide +kernel
theorem dX0_begin_23 : decode cX0_begin 23 = .ok (.putfield 26, 3) := by decide +kernel
theorem dX0_begin_26 : decode cX0_begin 26 = .ok (.aload_n 0, 1) := by decide +kernel
theorem dX0_begin_27 : decode cX0_begin 27 = .ok (.iconst 0, 1) := by decide +kernel
theorem dX0_begin_28 : decode cX0_begin 28 = .ok (.putfield 29, 3) := by decide +kernel
theorem dX0_begin_31 : decode cX0_begin 31 = .ok (.aload_n 0, 1) := by decide +kernel
theorem dX0_begin_32 : decode cX0_begin 32 = .ok (.bipush (-5), 2) := by decide +kernel
theorem dX0_begin_34 : decode cX0_begin 34 = .ok (.putfield 32, 3) := by decide +kernel
theorem dX0_begin_37 : decode cX0_begin 37 = .ok (.return_, 1) := by decide +kernel
theorem dX0_copyFrom_0 : decode cX0_copyFrom 0 = .ok (.aload_n 0, 1) := by decide +kernel
theorem dX0_copyFrom_1 : decode cX0_copyFrom 1 = .ok (.aload_n 1, 1) := by decide +kernel
theorem dX0_copyFrom_2 : decode cX0_copyFrom 2 = .ok (.getfield 9, 3) := by decide +kernel
theorem dX0_copyFrom_5 : decode cX0_copyFrom 5 = .ok (.putfield 9, 3) := by decide +kernel
theorem dX0_copyFrom_8 : decode cX0_copyFrom 8 = .ok (.aload_n 0, 1) := by decide +kernel
theorem dX0_copyFrom_9 : decode cX0_copyFrom 9 = .ok (.aload_n 1, 1) := by decide +kernel
theorem dX0_copyFrom_10 : decode cX0_copyFrom 10 = .ok (.getfield 15, 3) := by decide +kernel
theorem dX0_copyFrom_13 : decode cX0_copyFrom 13 = .ok (.putfield 15, 3) := by decide +kernel
theorem dX0_copyFrom_16 : decode cX0_copyFrom 16 = .ok (.aload_n 0, 1) := by decide +kernel
theorem dX0_copyFrom_17 : decode cX0_copyFrom 17 = .ok (.aload_n 1, 1) := by decide +kernel
theorem dX0_copyFrom_18 : decode cX0_copyFrom 18 = .ok (.getfield 20, 3) := by decide +kernel
theorem dX0_copyFrom_21 : decode cX0_copyFrom 21 = .ok (.putfield 20, 3) := by decide +kernel
theorem dX0_copyFrom_24 : decode cX0_copyFrom 24 = .ok (.aload_n 0, 1) := by decide +kernel
theorem dX0_copyFrom_25 : decode cX0_copyFrom 25 = .ok (.aload_n 1, 1) := by decide +kernel
theorem dX0_copyFrom_26 : decode cX0_copyFrom 26 = .ok (.getfield 23, 3) := by decide +kernel
theorem dX0_copyFrom_29 : decode cX0_copyFrom 29 = .ok (.putfield 23, 3) := by decide +kernel
theorem dX0_copyFrom_32 : decode cX0_copyFrom 32 = .ok (.aload_n 0, 1) := by decide +kernel
theorem dX0_copyFrom_33 : decode cX0_copyFrom 33 = .ok (.aload_n 1, 1) := by decide +kernel
theorem dX0_copyFrom_34 : decode cX0_copyFrom 34 = .ok (.getfield 26, 3) := by decide +kernel
theorem dX0_copyFrom_37 : decode cX0_copyFrom 37 = .ok (.putfield 26, 3) := by decide +kernel
theorem dX0_copyFrom_40 : decode cX0_copyFrom 40 = .ok (.aload_n 0, 1) := by decide +kernel
theorem dX0_copyFrom_41 : decode cX0_copyFrom 41 = .ok (.aload_n 1, 1) := by decide +kernel
theorem dX0_copyFrom_42 : decode cX0_copyFrom 42 = .ok (.getfield 29, 3) := by decide +kernel
theorem dX0_copyFrom_45 : decode cX0_copyFrom 45 = .ok (.putfield 29, 3) := by decide +kernel
theorem dX0_copyFrom_48 : decode cX0_copyFrom 48 = .ok (.aload_n 0, 1) := by decide +kernel
theorem dX0_copyFrom_49 : decode cX0_copyFrom 49 = .ok (.aload_n 1, 1) := by decide +kernel
theorem dX0_copyFrom_50 : decode cX0_copyFrom 50 = .ok (.getfield 32, 3) := by decide +kernel
theorem dX0_copyFrom_53 : decode cX0_copyFrom 53 = .ok (.putfield 32, 3) := by decide +kernel
theorem dX0_copyFrom_56 : decode cX0_copyFrom 56 = .ok (.return_, 1) := by decide +kernel
theorem dX0_isTooDusty_0 : decode cX0_isTooDusty 0 = .ok (.aload_n 0, 1) := by decide +kernel
theorem dX0_isTooDusty_1 : decode cX0_isTooDusty 1 = .ok (.getfield 15, 3) := by decide +kernel
theorem dX0_isTooDusty_4 : decode cX0_isTooDusty 4 = .ok (.aload_n 0, 1) := by decide +kernel
theorem dX0_isTooDusty_5 : decode cX0_isTooDusty 5 = .ok (.getfield 20, 3) := by decide +kernel
theorem dX0_isTooDusty_8 : decode cX0_isTooDusty 8 = .ok (.fcmp .l, 1) := by decide +kernel
theorem dX0_isTooDusty_9 : decode cX0_isTooDusty 9 = .ok (.ifCond .le 7, 3) := by decide +kernel
theorem dX0_isTooDusty_12 : decode cX0_isTooDusty 12 = .ok (.iconst 1, 1) := by decide +kernel
theorem dX0_isTooDusty_13 : decode cX0_isTooDusty 13 = .ok (.goto 4, 3) := by decide +kernel
theorem dX0_isTooDusty_16 : decode cX0_isTooDusty 16 = .ok (.iconst 0, 1) := by decide +kernel
theorem dX0_isTooDusty_17 : decode cX0_isTooDusty 17 = .ok (.ireturn, 1) := by decide +kernel
theorem dX0_readTape_0 : decode cX0_readTape 0 = .ok (.aload_n 0, 1) := by decide +kernel
theorem dX0_readTape_1 : decode cX0_readTape 1 = .ok (.getfield 15, 3) := by decide +kernel
theorem dX0_readTape_4 : decode cX0_readTape 4 = .ok (.aload_n 1, 1) := by decide +kernel
theorem dX0_readTape_5 : decode cX0_readTape 5 = .ok (.getfield 35, 3) := by decide +kernel
theorem dX0_readTape_8 : decode cX0_readTape 8 = .ok (.fmul, 1) := by decide +kernel
theorem dX0_readTape_9 : decode cX0_readTape 9 = .ok (.ldc 40, 2) := by decide +kernel
theorem dX0_readTape_11 : decode cX0_readTape 11 = .ok (.fcmp .l, 1) := by decide +kernel
theorem dX0_readTape_12 : decode cX0_readTape 12 = .ok (.ifCond .gt 7, 3) := by decide +kernel
theorem dX0_readTape_15 : decode cX0_readTape 15 = .ok (.iconst 1, 1) := by decide +kernel
theorem dX0_readTape_16 : decode cX0_readTape 16 = .ok (.goto 4, 3) := by decide +kernel
theorem dX0_readTape_19 : decode cX0_readTape 19 = .ok (.iconst 0, 1) := by decide +kernel
theorem dX0_readTape_20 : decode cX0_readTape 20 = .ok (.istore_n 2, 1) := by decide +kernel
theorem dX0_readTape_21 : decode cX0_readTape 21 = .ok (.aload_n 0, 1) := by decide +kernel
theorem dX0_readTape_22 : decode cX0_readTape 22 = .ok (.aload_n 0, 1) := by decide +kernel
theorem dX0_readTape_23 : decode cX0_readTape 23 = .ok (.getfield 15, 3) := by decide +kernel
theorem dX0_readTape_26 : decode cX0_readTape 26 = .ok (.fconst 1, 1) := by decide +kernel
theorem dX0_readTape_27 : decode cX0_readTape 27 = .ok (.aload_n 1, 1) := by decide +kernel
theorem dX0_readTape_28 : decode cX0_readTape 28 = .ok (.getfield 41, 3) := by decide +kernel
theorem dX0_readTape_31 : decode cX0_readTape 31 = .ok (.i2f, 1) := by decide +kernel
theorem dX0_readTape_32 : decode cX0_readTape 32 = .ok (.ldc 44, 2) := by decide +kernel
theorem dX0_readTape_34 : decode cX0_readTape 34 = .ok (.fmul, 1) := by decide +kernel
theorem dX0_readTape_35 : decode cX0_readTape 35 = .ok (.fadd, 1) := by decide +kernel
theorem dX0_readTape_36 : decode cX0_readTape 36 = .ok (.fadd, 1) := by decide +kernel
theorem dX0_readTape_37 : decode cX0_readTape 37 = .ok (.putfield 15, 3) := by decide +kernel
theorem dX0_readTape_40 : decode cX0_readTape 40 = .ok (.aload_n 1, 1) := by decide +kernel
theorem dX0_readTape_41 : decode cX0_readTape 41 = .ok (.dup, 1) := by decide +kernel
theorem dX0_readTape_42 : decode cX0_readTape 42 = .ok (.getfield 41, 3) := by decide +kernel
theorem dX0_readTape_45 : decode cX0_readTape 45 = .ok (.iconst 1, 1) := by decide +kernel
theorem dX0_readTape_46 : decode cX0_readTape 46 = .ok (.iadd, 1) := by decide +kernel
theorem dX0_readTape_47 : decode cX0_readTape 47 = .ok (.putfield 41, 3) := by decide +kernel
theorem dX0_readTape_50 : decode cX0_readTape 50 = .ok (.aload_n 0, 1) := by decide +kernel
theorem dX0_readTape_51 : decode cX0_readTape 51 = .ok (.dup, 1) := by decide +kernel
theorem dX0_readTape_52 : decode cX0_readTape 52 = .ok (.getfield 23, 3) := by decide +kernel
theorem dX0_readTape_55 : decode cX0_readTape 55 = .ok (.iconst 1, 1) := by decide +kernel
theorem dX0_readTape_56 : decode cX0_readTape 56 = .ok (.iadd, 1) := by decide +kernel
theorem dX0_readTape_57 : decode cX0_readTape 57 = .ok (.putfield 23, 3) := by decide +kernel
theorem dX0_readTape_60 : decode cX0_readTape 60 = .ok (.iload_n 2, 1) := by decide +kernel
theorem dX0_readTape_61 : decode cX0_readTape 61 = .ok (.ifCond .ne 23, 3) := by decide +kernel
theorem dX0_readTape_64 : decode cX0_readTape 64 = .ok (.aload_n 0, 1) := by decide +kernel
theorem dX0_readTape_65 : decode cX0_readTape 65 = .ok (.dup, 1) := by decide +kernel
theorem dX0_readTape_66 : decode cX0_readTape 66 = .ok (.getfield 26, 3) := by decide +kernel
theorem dX0_readTape_69 : decode cX0_readTape 69 = .ok (.iconst 1, 1) := by decide +kernel
theorem dX0_readTape_70 : decode cX0_readTape 70 = .ok (.iadd, 1) := by decide +kernel
theorem dX0_readTape_71 : decode cX0_readTape 71 = .ok (.putfield 26, 3) := by decide +kernel
theorem dX0_readTape_74 : decode cX0_readTape 74 = .ok (.aload_n 1, 1) := by decide +kernel
theorem dX0_readTape_75 : decode cX0_readTape 75 = .ok (.dup, 1) := by decide +kernel
theorem dX0_readTape_76 : decode cX0_readTape 76 = .ok (.getfield 45, 3) := by decide +kernel
theorem dX0_readTape_79 : decode cX0_readTape 79 = .ok (.iconst 1, 1) := by decide +kernel
theorem dX0_readTape_80 : decode cX0_readTape 80 = .ok (.iadd, 1) := by decide +kernel
theorem dX0_readTape_81 : decode cX0_readTape 81 = .ok (.putfield 45, 3) := by decide +kernel
theorem dX0_readTape_84 : decode cX0_readTape 84 = .ok (.iload_n 2, 1) := by decide +kernel
theorem dX0_readTape_85 : decode cX0_readTape 85 = .ok (.ireturn, 1) := by decide +kernel
theorem dX0_cleanWith_0 : decode cX0_cleanWith 0 = .ok (.aload_n 0, 1) := by decide +kernel
theorem dX0_cleanWith_1 : decode cX0_cleanWith 1 = .ok (.aload_n 0, 1) := by decide +kernel
theorem dX0_cleanWith_2 : decode cX0_cleanWith 2 = .ok (.getfield 15, 3) := by decide +kernel
theorem dX0_cleanWith_5 : decode cX0_cleanWith 5 = .ok (.ldc 44, 2) := by decide +kernel
theorem dX0_cleanWith_7 : decode cX0_cleanWith 7 = .ok (.fmul, 1) := by decide +kernel
theorem dX0_cleanWith_8 : decode cX0_cleanWith 8 = .ok (.putfield 15, 3) := by decide +kernel
theorem dX0_cleanWith_11 : decode cX0_cleanWith 11 = .ok (.aload_n 1, 1) := by decide +kernel
theorem dX0_cleanWith_12 : decode cX0_cleanWith 12 = .ok (.dup, 1) := by decide +kernel
theorem dX0_cleanWith_13 : decode cX0_cleanWith 13 = .ok (.getfield 41, 3) := by decide +kernel
theorem dX0_cleanWith_16 : decode cX0_cleanWith 16 = .ok (.iconst 1, 1) := by decide +kernel
theorem dX0_cleanWith_17 : decode cX0_cleanWith 17 = .ok (.isub, 1) := by decide +kernel
theorem dX0_cleanWith_18 : decode cX0_cleanWith 18 = .ok (.putfield 41, 3) := by decide +kernel
theorem dX0_cleanWith_21 : decode cX0_cleanWith 21 = .ok (.aload_n 0, 1) := by decide +kernel
theorem dX0_cleanWith_22 : decode cX0_cleanWith 22 = .ok (.dup, 1) := by decide +kernel
theorem dX0_cleanWith_23 : decode cX0_cleanWith 23 = .ok (.getfield 29, 3) := by decide +kernel
theorem dX0_cleanWith_26 : decode cX0_cleanWith 26 = .ok (.iconst 1, 1) := by decide +kernel
theorem dX0_cleanWith_27 : decode cX0_cleanWith 27 = .ok (.iadd, 1) := by decide +kernel
theorem dX0_cleanWith_28 : decode cX0_cleanWith 28 = .ok (.putfield 29, 3) := by decide +kernel
theorem dX0_cleanWith_31 : decode cX0_cleanWith 31 = .ok (.return_, 1) := by decide +kernel
theorem dX0_tell_0 : decode cX0_tell 0 = .ok (.iload_n 1, 1) := by decide +kernel
theorem dX0_tell_1 : decode cX0_tell 1 = .ok (.tableswitch 60 0 4 #[35, 40, 45, 50, 55], 35) := by decide +kernel
theorem dX0_tell_36 : decode cX0_tell 36 = .ok (.aload_n 0, 1) := by decide +kernel
theorem dX0_tell_37 : decode cX0_tell 37 = .ok (.getfield 9, 3) := by decide +kernel
theorem dX0_tell_40 : decode cX0_tell 40 = .ok (.ireturn, 1) := by decide +kernel
theorem dX0_tell_41 : decode cX0_tell 41 = .ok (.aload_n 0, 1) := by decide +kernel
theorem dX0_tell_42 : decode cX0_tell 42 = .ok (.getfield 23, 3) := by decide +kernel
theorem dX0_tell_45 : decode cX0_tell 45 = .ok (.ireturn, 1) := by decide +kernel
theorem dX0_tell_46 : decode cX0_tell 46 = .ok (.aload_n 0, 1) := by decide +kernel
theorem dX0_tell_47 : decode cX0_tell 47 = .ok (.getfield 26, 3) := by decide +kernel
theorem dX0_tell_50 : decode cX0_tell 50 = .ok (.ireturn, 1) := by decide +kernel
theorem dX0_tell_51 : decode cX0_tell 51 = .ok (.aload_n 0, 1) := by decide +kernel
theorem dX0_tell_52 : decode cX0_tell 52 = .ok (.getfield 29, 3) := by decide +kernel
theorem dX0_tell_55 : decode cX0_tell 55 = .ok (.ireturn, 1) := by decide +kernel
theorem dX0_tell_56 : decode cX0_tell 56 = .ok (.aload_n 0, 1) := by decide +kernel
theorem dX0_tell_57 : decode cX0_tell 57 = .ok (.getfield 32, 3) := by decide +kernel
theorem dX0_tell_60 : decode cX0_tell 60 = .ok (.ireturn, 1) := by decide +kernel
theorem dX0_tell_61 : decode cX0_tell 61 = .ok (.aload_n 0, 1) := by decide +kernel
theorem dX0_tell_62 : decode cX0_tell 62 = .ok (.invokevirtual 46, 3) := by decide +kernel
theorem dX0_tell_65 : decode cX0_tell 65 = .ok (.ifCond .eq 7, 3) := by decide +kernel
theorem dX0_tell_68 : decode cX0_tell 68 = .ok (.iconst 1, 1) := by decide +kernel
theorem dX0_tell_69 : decode cX0_tell 69 = .ok (.goto 4, 3) := by decide +kernel
theorem dX0_tell_72 : decode cX0_tell 72 = .ok (.iconst 0, 1) := by decide +kernel
theorem dX0_tell_73 : decode cX0_tell 73 = .ok (.ireturn, 1) := by decide +kernel
theorem dX1_init_0 : decode cX1_init 0 = .ok (.aload_n 0, 1) := by decide +kernel
theorem dX1_init_1 : decode cX1_init 1 = .ok (.invokespecial 3, 3) := by decide +kernel
theorem dX1_init_4 : decode cX1_init 4 = .ok (.aload_n 0, 1) := by decide +kernel
theorem dX1_init_5 : decode cX1_init 5 = .ok (.iconst 4, 1) := by decide +kernel
theorem dX1_init_6 : decode cX1_init 6 = .ok (.anewarray 9, 3) := by decide +kernel
theorem dX1_init_9 : decode cX1_init 9 = .ok (.putfield 11, 3) := by decide +kernel
theorem dX1_init_12 : decode cX1_init 12 = .ok (.iconst 0, 1) := by decide +kernel
theorem dX1_init_13 : decode cX1_init 13 = .ok (.istore_n 1, 1) := by decide +kernel
theorem dX1_init_14 : decode cX1_init 14 = .ok (.iload_n 1, 1) := by decide +kernel
theorem dX1_init_15 : decode cX1_init 15 = .ok (.aload_n 0, 1) := by decide +kernel
theorem dX1_init_16 : decode cX1_init 16 = .ok (.getfield 11, 3) := by decide +kernel
theorem dX1_init_19 : decode cX1_init 19 = .ok (.arraylength, 1) := by decide +kernel
theorem dX1_init_20 : decode cX1_init 20 = .ok (.if_icmp .ge 22, 3) := by decide +kernel
theorem dX1_init_23 : decode cX1_init 23 = .ok (.aload_n 0, 1) := by decide +kernel
theorem dX1_init_24 : decode cX1_init 24 = .ok (.getfield 11, 3) := by decide +kernel
theorem dX1_init_27 : decode cX1_init 27 = .ok (.iload_n 1, 1) := by decide +kernel
theorem dX1_init_28 : decode cX1_init 28 = .ok (.new 9, 3) := by decide +kernel
theorem dX1_init_31 : decode cX1_init 31 = .ok (.dup, 1) := by decide +kernel
theorem dX1_init_32 : decode cX1_init 32 = .ok (.invokespecial 17, 3) := by decide +kernel
theorem dX1_init_35 : decode cX1_init 35 = .ok (.aastore, 1) := by decide +kernel
theorem dX1_init_36 : decode cX1_init 36 = .ok (.iinc 1 1, 3) := by decide +kernel
theorem dX1_init_39 : decode cX1_init 39 = .ok (.goto (-25), 3) := by decide +kernel
theorem dX1_init_42 : decode cX1_init 42 = .ok (.aload_n 0, 1) := by decide +kernel
theorem dX1_init_43 : decode cX1_init 43 = .ok (.iconst 0, 1) := by decide +kernel
theorem dX1_init_44 : decode cX1_init 44 = .ok (.putfield 18, 3) := by decide +kernel
theorem dX1_init_47 : decode cX1_init 47 = .ok (.return_, 1) := by decide +kernel
theorem dX1_record_0 : decode cX1_record 0 = .ok (.aload_n 0, 1) := by decide +kernel
theorem dX1_record_1 : decode cX1_record 1 = .ok (.getfield 18, 3) := by decide +kernel
theorem dX1_record_4 : decode cX1_record 4 = .ok (.aload_n 0, 1) := by decide +kernel
theorem dX1_record_5 : decode cX1_record 5 = .ok (.getfield 11, 3) := by decide +kernel
theorem dX1_record_8 : decode cX1_record 8 = .ok (.arraylength, 1) := by decide +kernel
theorem dX1_record_9 : decode cX1_record 9 = .ok (.if_icmp .lt 7, 3) := by decide +kernel
theorem dX1_record_12 : decode cX1_record 12 = .ok (.aload_n 0, 1) := by decide +kernel
theorem dX1_record_13 : decode cX1_record 13 = .ok (.invokevirtual 22, 3) := by decide +kernel
theorem dX1_record_16 : decode cX1_record 16 = .ok (.aload_n 0, 1) := by decide +kernel
theorem dX1_record_17 : decode cX1_record 17 = .ok (.getfield 11, 3) := by decide +kernel
theorem dX1_record_20 : decode cX1_record 20 = .ok (.aload_n 0, 1) := by decide +kernel
theorem dX1_record_21 : decode cX1_record 21 = .ok (.getfield 18, 3) := by decide +kernel
theorem dX1_record_24 : decode cX1_record 24 = .ok (.aaload, 1) := by decide +kernel
theorem dX1_record_25 : decode cX1_record 25 = .ok (.aload_n 1, 1) := by decide +kernel
theorem dX1_record_26 : decode cX1_record 26 = .ok (.invokevirtual 25, 3) := by decide +kernel
theorem dX1_record_29 : decode cX1_record 29 = .ok (.aload_n 0, 1) := by decide +kernel
theorem dX1_record_30 : decode cX1_record 30 = .ok (.dup, 1) := by decide +kernel
theorem dX1_record_31 : decode cX1_record 31 = .ok (.getfield 18, 3) := by decide +kernel
theorem dX1_record_34 : decode cX1_record 34 = .ok (.iconst 1, 1) := by decide +kernel
theorem dX1_record_35 : decode cX1_record 35 = .ok (.iadd, 1) := by decide +kernel
theorem dX1_record_36 : decode cX1_record 36 = .ok (.putfield 18, 3) := by decide +kernel
theorem dX1_record_39 : decode cX1_record 39 = .ok (.return_, 1) := by decide +kernel
theorem dX1_dropOldest_0 : decode cX1_dropOldest 0 = .ok (.aload_n 0, 1) := by decide +kernel
theorem dX1_dropOldest_1 : decode cX1_dropOldest 1 = .ok (.getfield 11, 3) := by decide +kernel
theorem dX1_dropOldest_4 : decode cX1_dropOldest 4 = .ok (.iconst 0, 1) := by decide +kernel
theorem dX1_dropOldest_5 : decode cX1_dropOldest 5 = .ok (.aaload, 1) := by decide +kernel
theorem dX1_dropOldest_6 : decode cX1_dropOldest 6 = .ok (.astore_n 1, 1) := by decide +kernel
theorem dX1_dropOldest_7 : decode cX1_dropOldest 7 = .ok (.iconst 1, 1) := by decide +kernel
theorem dX1_dropOldest_8 : decode cX1_dropOldest 8 = .ok (.istore_n 2, 1) := by decide +kernel
theorem dX1_dropOldest_9 : decode cX1_dropOldest 9 = .ok (.iload_n 2, 1) := by decide +kernel
theorem dX1_dropOldest_10 : decode cX1_dropOldest 10 = .ok (.aload_n 0, 1) := by decide +kernel
theorem dX1_dropOldest_11 : decode cX1_dropOldest 11 = .ok (.getfield 11, 3) := by decide +kernel
theorem dX1_dropOldest_14 : decode cX1_dropOldest 14 = .ok (.arraylength, 1) := by decide +kernel
theorem dX1_dropOldest_15 : decode cX1_dropOldest 15 = .ok (.if_icmp .ge 23, 3) := by decide +kernel
theorem dX1_dropOldest_18 : decode cX1_dropOldest 18 = .ok (.aload_n 0, 1) := by decide +kernel
theorem dX1_dropOldest_19 : decode cX1_dropOldest 19 = .ok (.getfield 11, 3) := by decide +kernel
theorem dX1_dropOldest_22 : decode cX1_dropOldest 22 = .ok (.iload_n 2, 1) := by decide +kernel
theorem dX1_dropOldest_23 : decode cX1_dropOldest 23 = .ok (.iconst 1, 1) := by decide +kernel
theorem dX1_dropOldest_24 : decode cX1_dropOldest 24 = .ok (.isub, 1) := by decide +kernel
theorem dX1_dropOldest_25 : decode cX1_dropOldest 25 = .ok (.aload_n 0, 1) := by decide +kernel
theorem dX1_dropOldest_26 : decode cX1_dropOldest 26 = .ok (.getfield 11, 3) := by decide +kernel
theorem dX1_dropOldest_29 : decode cX1_dropOldest 29 = .ok (.iload_n 2, 1) := by decide +kernel
theorem dX1_dropOldest_30 : decode cX1_dropOldest 30 = .ok (.aaload, 1) := by decide +kernel
theorem dX1_dropOldest_31 : decode cX1_dropOldest 31 = .ok (.aastore, 1) := by decide +kernel
theorem dX1_dropOldest_32 : decode cX1_dropOldest 32 = .ok (.iinc 2 1, 3) := by decide +kernel
theorem dX1_dropOldest_35 : decode cX1_dropOldest 35 = .ok (.goto (-26), 3) := by decide +kernel
theorem dX1_dropOldest_38 : decode cX1_dropOldest 38 = .ok (.aload_n 0, 1) := by decide +kernel
theorem dX1_dropOldest_39 : decode cX1_dropOldest 39 = .ok (.getfield 11, 3) := by decide +kernel
theorem dX1_dropOldest_42 : decode cX1_dropOldest 42 = .ok (.aload_n 0, 1) := by decide +kernel
theorem dX1_dropOldest_43 : decode cX1_dropOldest 43 = .ok (.getfield 11, 3) := by decide +kernel
theorem dX1_dropOldest_46 : decode cX1_dropOldest 46 = .ok (.arraylength, 1) := by decide +kernel
theorem dX1_dropOldest_47 : decode cX1_dropOldest 47 = .ok (.iconst 1, 1) := by decide +kernel
theorem dX1_dropOldest_48 : decode cX1_dropOldest 48 = .ok (.isub, 1) := by decide +kernel
theorem dX1_dropOldest_49 : decode cX1_dropOldest 49 = .ok (.aload_n 1, 1) := by decide +kernel
theorem dX1_dropOldest_50 : decode cX1_dropOldest 50 = .ok (.aastore, 1) := by decide +kernel
theorem dX1_dropOldest_51 : decode cX1_dropOldest 51 = .ok (.aload_n 0, 1) := by decide +kernel
theorem dX1_dropOldest_52 : decode cX1_dropOldest 52 = .ok (.aload_n 0, 1) := by decide +kernel
theorem dX1_dropOldest_53 : decode cX1_dropOldest 53 = .ok (.getfield 11, 3) := by decide +kernel
theorem dX1_dropOldest_56 : decode cX1_dropOldest 56 = .ok (.arraylength, 1) := by decide +kernel
theorem dX1_dropOldest_57 : decode cX1_dropOldest 57 = .ok (.iconst 1, 1) := by decide +kernel
theorem dX1_dropOldest_58 : decode cX1_dropOldest 58 = .ok (.isub, 1) := by decide +kernel
theorem dX1_dropOldest_59 : decode cX1_dropOldest 59 = .ok (.putfield 18, 3) := by decide +kernel
theorem dX1_dropOldest_62 : decode cX1_dropOldest 62 = .ok (.return_, 1) := by decide +kernel
theorem dX2_init_0 : decode cX2_init 0 = .ok (.aload_n 0, 1) := by decide +kernel
theorem dX2_init_1 : decode cX2_init 1 = .ok (.invokespecial 3, 3) := by decide +kernel
theorem dX2_init_4 : decode cX2_init 4 = .ok (.return_, 1) := by decide +kernel
theorem dX2_beginTape_0 : decode cX2_beginTape 0 = .ok (.aload_n 0, 1) := by decide +kernel
theorem dX2_beginTape_1 : decode cX2_beginTape 1 = .ok (.iload_n 1, 1) := by decide +kernel
theorem dX2_beginTape_2 : decode cX2_beginTape 2 = .ok (.invokevirtual 9, 3) := by decide +kernel
theorem dX2_beginTape_5 : decode cX2_beginTape 5 = .ok (.aload_n 0, 1) := by decide +kernel
theorem dX2_beginTape_6 : decode cX2_beginTape 6 = .ok (.iconst 0, 1) := by decide +kernel
theorem dX2_beginTape_7 : decode cX2_beginTape 7 = .ok (.putfield 15, 3) := by decide +kernel
theorem dX2_beginTape_10 : decode cX2_beginTape 10 = .ok (.aload_n 0, 1) := by decide +kernel
theorem dX2_beginTape_11 : decode cX2_beginTape 11 = .ok (.iconst 0, 1) := by decide +kernel
theorem dX2_beginTape_12 : decode cX2_beginTape 12 = .ok (.putfield 19, 3) := by decide +kernel
theorem dX2_beginTape_15 : decode cX2_beginTape 15 = .ok (.aload_n 0, 1) := by decide +kernel
theorem dX2_beginTape_16 : decode cX2_beginTape 16 = .ok (.iload_n 2, 1) := by decide +kernel
theorem dX2_beginTape_17 : decode cX2_beginTape 17 = .ok (.putfield 23, 3) := by decide +kernel
theorem dX2_beginTape_20 : decode cX2_beginTape 20 = .ok (.aload_n 0, 1) := by decide +kernel
theorem dX2_beginTape_21 : decode cX2_beginTape 21 = .ok (.fload_n 3, 1) := by decide +kernel
theorem dX2_beginTape_22 : decode cX2_beginTape 22 = .ok (.putfield 26, 3) := by decide +kernel
theorem dX2_beginTape_25 : decode cX2_beginTape 25 = .ok (.return_, 1) := by decide +kernel
theorem dX2_beginCleaner_0 : decode cX2_beginCleaner 0 = .ok (.aload_n 0, 1) := by decide +kernel
theorem dX2_beginCleaner_1 : decode cX2_beginCleaner 1 = .ok (.iload_n 1, 1) := by decide +kernel
theorem dX2_beginCleaner_2 : decode cX2_beginCleaner 2 = .ok (.invokevirtual 9, 3) := by decide +kernel
theorem dX2_beginCleaner_5 : decode cX2_beginCleaner 5 = .ok (.aload_n 0, 1) := by decide +kernel
theorem dX2_beginCleaner_6 : decode cX2_beginCleaner 6 = .ok (.iconst 1, 1) := by decide +kernel
theorem dX2_beginCleaner_7 : decode cX2_beginCleaner 7 = .ok (.putfield 15, 3) := by decide +kernel
theorem dX2_beginCleaner_10 : decode cX2_beginCleaner 10 = .ok (.aload_n 0, 1) := by decide +kernel
theorem dX2_beginCleaner_11 : decode cX2_beginCleaner 11 = .ok (.iload_n 2, 1) := by decide +kernel
theorem dX2_beginCleaner_12 : decode cX2_beginCleaner 12 = .ok (.putfield 19, 3) := by decide +kernel
theorem dX2_beginCleaner_15 : decode cX2_beginCleaner 15 = .ok (.aload_n 0, 1) := by decide +kernel
theorem dX2_beginCleaner_16 : decode cX2_beginCleaner 16 = .ok (.iconst 0, 1) := by decide +kernel
theorem dX2_beginCleaner_17 : decode cX2_beginCleaner 17 = .ok (.putfield 23, 3) := by decide +kernel
theorem dX2_beginCleaner_20 : decode cX2_beginCleaner 20 = .ok (.aload_n 0, 1) := by decide +kernel
theorem dX2_beginCleaner_21 : decode cX2_beginCleaner 21 = .ok (.fconst 0, 1) := by decide +kernel
theorem dX2_beginCleaner_22 : decode cX2_beginCleaner 22 = .ok (.putfield 26, 3) := by decide +kernel
theorem dX2_beginCleaner_25 : decode cX2_beginCleaner 25 = .ok (.return_, 1) := by decide +kernel
theorem dX2_begin_0 : decode cX2_begin 0 = .ok (.aload_n 0, 1) := by decide +kernel
theorem dX2_begin_1 : decode cX2_begin 1 = .ok (.iload_n 1, 1) := by decide +kernel
theorem dX2_begin_2 : decode cX2_begin 2 = .ok (.putfield 30, 3) := by decide +kernel
theorem dX2_begin_5 : decode cX2_begin 5 = .ok (.aload_n 0, 1) := by decide +kernel
theorem dX2_begin_6 : decode cX2_begin 6 = .ok (.iconst 0, 1) := by decide +kernel
theorem dX2_begin_7 : decode cX2_begin 7 = .ok (.putfield 33, 3) := by decide +kernel
theorem dX2_begin_10 : decode cX2_begin 10 = .ok (.aload_n 0, 1) := by decide +kernel
theorem dX2_begin_11 : decode cX2_begin 11 = .ok (.bipush (-5), 2) := by decide +kernel
theorem dX2_begin_13 : decode cX2_begin 13 = .ok (.putfield 36, 3) := by decide +kernel
theorem dX2_begin_16 : decode cX2_begin 16 = .ok (.aload_n 0, 1) := by decide +kernel
theorem dX2_begin_17 : decode cX2_begin 17 = .ok (.iconst 0, 1) := by decide +kernel
theorem dX2_begin_18 : decode cX2_begin 18 = .ok (.putfield 39, 3) := by decide +kernel
theorem dX2_begin_21 : decode cX2_begin 21 = .ok (.return_, 1) := by decide +kernel
theorem dX2_copyFrom_0 : decode cX2_copyFrom 0 = .ok (.aload_n 0, 1) := by decide +kernel
theorem dX2_copyFrom_1 : decode cX2_copyFrom 1 = .ok (.aload_n 1, 1) := by decide +kernel
theorem dX2_copyFrom_2 : decode cX2_copyFrom 2 = .ok (.getfield 15, 3) := by decide +kernel
theorem dX2_copyFrom_5 : decode cX2_copyFrom 5 = .ok (.putfield 15, 3) := by decide +kernel
theorem dX2_copyFrom_8 : decode cX2_copyFrom 8 = .ok (.aload_n 0, 1) := by decide +kernel
theorem dX2_copyFrom_9 : decode cX2_copyFrom 9 = .ok (.aload_n 1, 1) := by decide +kernel
theorem dX2_copyFrom_10 : decode cX2_copyFrom 10 = .ok (.getfield 30, 3) := by decide +kernel
theorem dX2_copyFrom_13 : decode cX2_copyFrom 13 = .ok (.putfield 30, 3) := by decide +kernel
theorem dX2_copyFrom_16 : decode cX2_copyFrom 16 = .ok (.aload_n 0, 1) := by decide +kernel
theorem dX2_copyFrom_17 : decode cX2_copyFrom 17 = .ok (.aload_n 1, 1) := by decide +kernel
theorem dX2_copyFrom_18 : decode cX2_copyFrom 18 = .ok (.getfield 33, 3) := by decide +kernel
theorem dX2_copyFrom_21 : decode cX2_copyFrom 21 = .ok (.putfield 33, 3) := by decide +kernel
theorem dX2_copyFrom_24 : decode cX2_copyFrom 24 = .ok (.aload_n 0, 1) := by decide +kernel
theorem dX2_copyFrom_25 : decode cX2_copyFrom 25 = .ok (.aload_n 1, 1) := by decide +kernel
theorem dX2_copyFrom_26 : decode cX2_copyFrom 26 = .ok (.getfield 36, 3) := by decide +kernel
theorem dX2_copyFrom_29 : decode cX2_copyFrom 29 = .ok (.putfield 36, 3) := by decide +kernel
theorem dX2_copyFrom_32 : decode cX2_copyFrom 32 = .ok (.aload_n 0, 1) := by decide +kernel
theorem dX2_copyFrom_33 : decode cX2_copyFrom 33 = .ok (.aload_n 1, 1) := by decide +kernel
theorem dX2_copyFrom_34 : decode cX2_copyFrom 34 = .ok (.getfield 19, 3) := by decide +kernel
theorem dX2_copyFrom_37 : decode cX2_copyFrom 37 = .ok (.putfield 19, 3) := by decide +kernel
theorem dX2_copyFrom_40 : decode cX2_copyFrom 40 = .ok (.aload_n 0, 1) := by decide +kernel
theorem dX2_copyFrom_41 : decode cX2_copyFrom 41 = .ok (.aload_n 1, 1) := by decide +kernel
theorem dX2_copyFrom_42 : decode cX2_copyFrom 42 = .ok (.getfield 23, 3) := by decide +kernel
theorem dX2_copyFrom_45 : decode cX2_copyFrom 45 = .ok (.putfield 23, 3) := by decide +kernel
theorem dX2_copyFrom_48 : decode cX2_copyFrom 48 = .ok (.aload_n 0, 1) := by decide +kernel
theorem dX2_copyFrom_49 : decode cX2_copyFrom 49 = .ok (.aload_n 1, 1) := by decide +kernel
theorem dX2_copyFrom_50 : decode cX2_copyFrom 50 = .ok (.getfield 26, 3) := by decide +kernel
theorem dX2_copyFrom_53 : decode cX2_copyFrom 53 = .ok (.putfield 26, 3) := by decide +kernel
theorem dX2_copyFrom_56 : decode cX2_copyFrom 56 = .ok (.aload_n 0, 1) := by decide +kernel
theorem dX2_copyFrom_57 : decode cX2_copyFrom 57 = .ok (.aload_n 1, 1) := by decide +kernel
theorem dX2_copyFrom_58 : decode cX2_copyFrom 58 = .ok (.getfield 39, 3) := by decide +kernel
theorem dX2_copyFrom_61 : decode cX2_copyFrom 61 = .ok (.putfield 39, 3) := by decide +kernel
theorem dX2_copyFrom_64 : decode cX2_copyFrom 64 = .ok (.return_, 1) := by decide +kernel
theorem dX2_tell_0 : decode cX2_tell 0 = .ok (.iload_n 1, 1) := by decide +kernel
theorem dX2_tell_1 : decode cX2_tell 1 = .ok (.tableswitch 77 0 5 #[39, 52, 57, 62, 67, 72], 39) := by decide +kernel
theorem dX2_tell_40 : decode cX2_tell 40 = .ok (.aload_n 0, 1) := by decide +kernel
theorem dX2_tell_41 : decode cX2_tell 41 = .ok (.getfield 15, 3) := by decide +kernel
theorem dX2_tell_44 : decode cX2_tell 44 = .ok (.ifCond .eq 7, 3) := by decide +kernel
theorem dX2_tell_47 : decode cX2_tell 47 = .ok (.iconst 1, 1) := by decide +kernel
theorem dX2_tell_48 : decode cX2_tell 48 = .ok (.goto 4, 3) := by decide +kernel
theorem dX2_tell_51 : decode cX2_tell 51 = .ok (.iconst 0, 1) := by decide +kernel
theorem dX2_tell_52 : decode cX2_tell 52 = .ok (.ireturn, 1) := by decide +kernel
theorem dX2_tell_53 : decode cX2_tell 53 = .ok (.aload_n 0, 1) := by decide +kernel
theorem dX2_tell_54 : decode cX2_tell 54 = .ok (.getfield 30, 3) := by decide +kernel
theorem dX2_tell_57 : decode cX2_tell 57 = .ok (.ireturn, 1) := by decide +kernel
theorem dX2_tell_58 : decode cX2_tell 58 = .ok (.aload_n 0, 1) := by decide +kernel
theorem dX2_tell_59 : decode cX2_tell 59 = .ok (.getfield 33, 3) := by decide +kernel
theorem dX2_tell_62 : decode cX2_tell 62 = .ok (.ireturn, 1) := by decide +kernel
theorem dX2_tell_63 : decode cX2_tell 63 = .ok (.aload_n 0, 1) := by decide +kernel
theorem dX2_tell_64 : decode cX2_tell 64 = .ok (.getfield 36, 3) := by decide +kernel
theorem dX2_tell_67 : decode cX2_tell 67 = .ok (.ireturn, 1) := by decide +kernel
theorem dX2_tell_68 : decode cX2_tell 68 = .ok (.aload_n 0, 1) := by decide +kernel
theorem dX2_tell_69 : decode cX2_tell 69 = .ok (.getfield 19, 3) := by decide +kernel
theorem dX2_tell_72 : decode cX2_tell 72 = .ok (.ireturn, 1) := by decide +kernel
theorem dX2_tell_73 : decode cX2_tell 73 = .ok (.aload_n 0, 1) := by decide +kernel
theorem dX2_tell_74 : decode cX2_tell 74 = .ok (.getfield 23, 3) := by decide +kernel
theorem dX2_tell_77 : decode cX2_tell 77 = .ok (.ireturn, 1) := by decide +kernel
theorem dX2_tell_78 : decode cX2_tell 78 = .ok (.aload_n 0, 1) := by decide +kernel
theorem dX2_tell_79 : decode cX2_tell 79 = .ok (.getfield 39, 3) := by decide +kernel
theorem dX2_tell_82 : decode cX2_tell 82 = .ok (.ireturn, 1) := by decide +kernel
theorem dX3_init_0 : decode cX3_init 0 = .ok (.aload_n 0, 1) := by decide +kernel
theorem dX3_init_1 : decode cX3_init 1 = .ok (.invokespecial 3, 3) := by decide +kernel
theorem dX3_init_4 : decode cX3_init 4 = .ok (.return_, 1) := by decide +kernel
theorem dX3_enter_0 : decode cX3_enter 0 = .ok (.aload_n 0, 1) := by decide +kernel
theorem dX3_enter_1 : decode cX3_enter 1 = .ok (.iload_n 1, 1) := by decide +kernel
theorem dX3_enter_2 : decode cX3_enter 2 = .ok (.putfield 9, 3) := by decide +kernel
theorem dX3_enter_5 : decode cX3_enter 5 = .ok (.aload_n 0, 1) := by decide +kernel
theorem dX3_enter_6 : decode cX3_enter 6 = .ok (.iload_n 2, 1) := by decide +kernel
theorem dX3_enter_7 : decode cX3_enter 7 = .ok (.putfield 15, 3) := by decide +kernel
theorem dX3_enter_10 : decode cX3_enter 10 = .ok (.aload_n 0, 1) := by decide +kernel
theorem dX3_enter_11 : decode cX3_enter 11 = .ok (.iload_n 3, 1) := by decide +kernel
theorem dX3_enter_12 : decode cX3_enter 12 = .ok (.putfield 18, 3) := by decide +kernel
theorem dX3_enter_15 : decode cX3_enter 15 = .ok (.aload_n 0, 1) := by decide +kernel
theorem dX3_enter_16 : decode cX3_enter 16 = .ok (.iconst 0, 1) := by decide +kernel
theorem dX3_enter_17 : decode cX3_enter 17 = .ok (.putfield 21, 3) := by decide +kernel
theorem dX3_enter_20 : decode cX3_enter 20 = .ok (.aload_n 0, 1) := by decide +kernel
theorem dX3_enter_21 : decode cX3_enter 21 = .ok (.bipush (-5), 2) := by decide +kernel
theorem dX3_enter_23 : decode cX3_enter 23 = .ok (.putfield 24, 3) := by decide +kernel
theorem dX3_enter_26 : decode cX3_enter 26 = .ok (.aload_n 0, 1) := by decide +kernel
theorem dX3_enter_27 : decode cX3_enter 27 = .ok (.bipush (-5), 2) := by decide +kernel
theorem dX3_enter_29 : decode cX3_enter 29 = .ok (.putfield 27, 3) := by decide +kernel
theorem dX3_enter_32 : decode cX3_enter 32 = .ok (.aload_n 0, 1) := by decide +kernel
theorem dX3_enter_33 : decode cX3_enter 33 = .ok (.iconst 0, 1) := by decide +kernel
theorem dX3_enter_34 : decode cX3_enter 34 = .ok (.putfield 30, 3) := by decide +kernel
theorem dX3_enter_37 : decode cX3_enter 37 = .ok (.aload_n 0, 1) := by decide +kernel
theorem dX3_enter_38 : decode cX3_enter 38 = .ok (.bipush (-5), 2) := by decide +kernel
theorem dX3_enter_40 : decode cX3_enter 40 = .ok (.putfield 33, 3) := by decide +kernel
theorem dX3_enter_43 : decode cX3_enter 43 = .ok (.aload_n 0, 1) := by decide +kernel
theorem dX3_enter_44 : decode cX3_enter 44 = .ok (.bipush (-5), 2) := by decide +kernel
theorem dX3_enter_46 : decode cX3_enter 46 = .ok (.putfield 36, 3) := by decide +kernel
theorem dX3_enter_49 : decode cX3_enter 49 = .ok (.aload_n 0, 1) := by decide +kernel
theorem dX3_enter_50 : decode cX3_enter 50 = .ok (.bipush (-5), 2) := by decide +kernel
theorem dX3_enter_52 : decode cX3_enter 52 = .ok (.putfield 39, 3) := by decide +kernel
theorem dX3_enter_55 : decode cX3_enter 55 = .ok (.aload_n 0, 1) := by decide +kernel
theorem dX3_enter_56 : decode cX3_enter 56 = .ok (.iconst 0, 1) := by decide +kernel
theorem dX3_enter_57 : decode cX3_enter 57 = .ok (.putfield 42, 3) := by decide +kernel
theorem dX3_enter_60 : decode cX3_enter 60 = .ok (.aload_n 0, 1) := by decide +kernel
theorem dX3_enter_61 : decode cX3_enter 61 = .ok (.iconst 0, 1) := by decide +kernel
theorem dX3_enter_62 : decode cX3_enter 62 = .ok (.putfield 45, 3) := by decide +kernel
theorem dX3_enter_65 : decode cX3_enter 65 = .ok (.aload_n 0, 1) := by decide +kernel
theorem dX3_enter_66 : decode cX3_enter 66 = .ok (.iconst 0, 1) := by decide +kernel
theorem dX3_enter_67 : decode cX3_enter 67 = .ok (.putfield 48, 3) := by decide +kernel
theorem dX3_enter_70 : decode cX3_enter 70 = .ok (.return_, 1) := by decide +kernel
theorem dX3_copyFrom_0 : decode cX3_copyFrom 0 = .ok (.aload_n 0, 1) := by decide +kernel
theorem dX3_copyFrom_1 : decode cX3_copyFrom 1 = .ok (.aload_n 1, 1) := by decide +kernel
theorem dX3_copyFrom_2 : decode cX3_copyFrom 2 = .ok (.getfield 9, 3) := by decide +kernel
theorem dX3_copyFrom_5 : decode cX3_copyFrom 5 = .ok (.putfield 9, 3) := by decide +kernel
theorem dX3_copyFrom_8 : decode cX3_copyFrom 8 = .ok (.aload_n 0, 1) := by decide +kernel
theorem dX3_copyFrom_9 : decode cX3_copyFrom 9 = .ok (.aload_n 1, 1) := by decide +kernel
theorem dX3_copyFrom_10 : decode cX3_copyFrom 10 = .ok (.getfield 15, 3) := by decide +kernel
theorem dX3_copyFrom_13 : decode cX3_copyFrom 13 = .ok (.putfield 15, 3) := by decide +kernel
theorem dX3_copyFrom_16 : decode cX3_copyFrom 16 = .ok (.aload_n 0, 1) := by decide +kernel
theorem dX3_copyFrom_17 : decode cX3_copyFrom 17 = .ok (.aload_n 1, 1) := by decide +kernel
theorem dX3_copyFrom_18 : decode cX3_copyFrom 18 = .ok (.getfield 18, 3) := by decide +kernel
theorem dX3_copyFrom_21 : decode cX3_copyFrom 21 = .ok (.putfield 18, 3) := by decide +kernel
theorem dX3_copyFrom_24 : decode cX3_copyFrom 24 = .ok (.aload_n 0, 1) := by decide +kernel
theorem dX3_copyFrom_25 : decode cX3_copyFrom 25 = .ok (.aload_n 1, 1) := by decide +kernel
theorem dX3_copyFrom_26 : decode cX3_copyFrom 26 = .ok (.getfield 21, 3) := by decide +kernel
theorem dX3_copyFrom_29 : decode cX3_copyFrom 29 = .ok (.putfield 21, 3) := by decide +kernel
theorem dX3_copyFrom_32 : decode cX3_copyFrom 32 = .ok (.aload_n 0, 1) := by decide +kernel
theorem dX3_copyFrom_33 : decode cX3_copyFrom 33 = .ok (.aload_n 1, 1) := by decide +kernel
theorem dX3_copyFrom_34 : decode cX3_copyFrom 34 = .ok (.getfield 24, 3) := by decide +kernel
theorem dX3_copyFrom_37 : decode cX3_copyFrom 37 = .ok (.putfield 24, 3) := by decide +kernel
theorem dX3_copyFrom_40 : decode cX3_copyFrom 40 = .ok (.aload_n 0, 1) := by decide +kernel
theorem dX3_copyFrom_41 : decode cX3_copyFrom 41 = .ok (.aload_n 1, 1) := by decide +kernel
theorem dX3_copyFrom_42 : decode cX3_copyFrom 42 = .ok (.getfield 27, 3) := by decide +kernel
theorem dX3_copyFrom_45 : decode cX3_copyFrom 45 = .ok (.putfield 27, 3) := by decide +kernel
theorem dX3_copyFrom_48 : decode cX3_copyFrom 48 = .ok (.aload_n 0, 1) := by decide +kernel
theorem dX3_copyFrom_49 : decode cX3_copyFrom 49 = .ok (.aload_n 1, 1) := by decide +kernel
theorem dX3_copyFrom_50 : decode cX3_copyFrom 50 = .ok (.getfield 30, 3) := by decide +kernel
theorem dX3_copyFrom_53 : decode cX3_copyFrom 53 = .ok (.putfield 30, 3) := by decide +kernel
theorem dX3_copyFrom_56 : decode cX3_copyFrom 56 = .ok (.aload_n 0, 1) := by decide +kernel
theorem dX3_copyFrom_57 : decode cX3_copyFrom 57 = .ok (.aload_n 1, 1) := by decide +kernel
theorem dX3_copyFrom_58 : decode cX3_copyFrom 58 = .ok (.getfield 33, 3) := by decide +kernel
theorem dX3_copyFrom_61 : decode cX3_copyFrom 61 = .ok (.putfield 33, 3) := by decide +kernel
theorem dX3_copyFrom_64 : decode cX3_copyFrom 64 = .ok (.aload_n 0, 1) := by decide +kernel
theorem dX3_copyFrom_65 : decode cX3_copyFrom 65 = .ok (.aload_n 1, 1) := by decide +kernel
theorem dX3_copyFrom_66 : decode cX3_copyFrom 66 = .ok (.getfield 36, 3) := by decide +kernel
theorem dX3_copyFrom_69 : decode cX3_copyFrom 69 = .ok (.putfield 36, 3) := by decide +kernel
theorem dX3_copyFrom_72 : decode cX3_copyFrom 72 = .ok (.aload_n 0, 1) := by decide +kernel
theorem dX3_copyFrom_73 : decode cX3_copyFrom 73 = .ok (.aload_n 1, 1) := by decide +kernel
theorem dX3_copyFrom_74 : decode cX3_copyFrom 74 = .ok (.getfield 39, 3) := by decide +kernel
theorem dX3_copyFrom_77 : decode cX3_copyFrom 77 = .ok (.putfield 39, 3) := by decide +kernel
theorem dX3_copyFrom_80 : decode cX3_copyFrom 80 = .ok (.aload_n 0, 1) := by decide +kernel
theorem dX3_copyFrom_81 : decode cX3_copyFrom 81 = .ok (.aload_n 1, 1) := by decide +kernel
theorem dX3_copyFrom_82 : decode cX3_copyFrom 82 = .ok (.getfield 42, 3) := by decide +kernel
theorem dX3_copyFrom_85 : decode cX3_copyFrom 85 = .ok (.putfield 42, 3) := by decide +kernel
theorem dX3_copyFrom_88 : decode cX3_copyFrom 88 = .ok (.aload_n 0, 1) := by decide +kernel
theorem dX3_copyFrom_89 : decode cX3_copyFrom 89 = .ok (.aload_n 1, 1) := by decide +kernel
theorem dX3_copyFrom_90 : decode cX3_copyFrom 90 = .ok (.getfield 45, 3) := by decide +kernel
theorem dX3_copyFrom_93 : decode cX3_copyFrom 93 = .ok (.putfield 45, 3) := by decide +kernel
theorem dX3_copyFrom_96 : decode cX3_copyFrom 96 = .ok (.aload_n 0, 1) := by decide +kernel
theorem dX3_copyFrom_97 : decode cX3_copyFrom 97 = .ok (.aload_n 1, 1) := by decide +kernel
theorem dX3_copyFrom_98 : decode cX3_copyFrom 98 = .ok (.getfield 48, 3) := by decide +kernel
theorem dX3_copyFrom_101 : decode cX3_copyFrom 101 = .ok (.putfield 48, 3) := by decide +kernel
theorem dX3_copyFrom_104 : decode cX3_copyFrom 104 = .ok (.return_, 1) := by decide +kernel
theorem dX3_isOpen_0 : decode cX3_isOpen 0 = .ok (.aload_n 0, 1) := by decide +kernel
theorem dX3_isOpen_1 : decode cX3_isOpen 1 = .ok (.getfield 21, 3) := by decide +kernel
theorem dX3_isOpen_4 : decode cX3_isOpen 4 = .ok (.ifCond .eq 11, 3) := by decide +kernel
theorem dX3_isOpen_7 : decode cX3_isOpen 7 = .ok (.aload_n 0, 1) := by decide +kernel
theorem dX3_isOpen_8 : decode cX3_isOpen 8 = .ok (.getfield 21, 3) := by decide +kernel
theorem dX3_isOpen_11 : decode cX3_isOpen 11 = .ok (.iconst 1, 1) := by decide +kernel
theorem dX3_isOpen_12 : decode cX3_isOpen 12 = .ok (.if_icmp .ne 7, 3) := by decide +kernel
theorem dX3_isOpen_15 : decode cX3_isOpen 15 = .ok (.iconst 1, 1) := by decide +kernel
theorem dX3_isOpen_16 : decode cX3_isOpen 16 = .ok (.goto 4, 3) := by decide +kernel
theorem dX3_isOpen_19 : decode cX3_isOpen 19 = .ok (.iconst 0, 1) := by decide +kernel
theorem dX3_isOpen_20 : decode cX3_isOpen 20 = .ok (.ireturn, 1) := by decide +kernel
theorem dX3_carriedItem_0 : decode cX3_carriedItem 0 = .ok (.aload_n 0, 1) := by decide +kernel
theorem dX3_carriedItem_1 : decode cX3_carriedItem 1 = .ok (.getfield 9, 3) := by decide +kernel
theorem dX3_carriedItem_4 : decode cX3_carriedItem 4 = .ok (.iconst 1, 1) := by decide +kernel
theorem dX3_carriedItem_5 : decode cX3_carriedItem 5 = .ok (.if_icmp .ne 10, 3) := by decide +kernel
theorem dX3_carriedItem_8 : decode cX3_carriedItem 8 = .ok (.aload_n 0, 1) := by decide +kernel
theorem dX3_carriedItem_9 : decode cX3_carriedItem 9 = .ok (.getfield 36, 3) := by decide +kernel
theorem dX3_carriedItem_12 : decode cX3_carriedItem 12 = .ok (.goto 7, 3) := by decide +kernel
theorem dX3_carriedItem_15 : decode cX3_carriedItem 15 = .ok (.aload_n 0, 1) := by decide +kernel
theorem dX3_carriedItem_16 : decode cX3_carriedItem 16 = .ok (.getfield 15, 3) := by decide +kernel
theorem dX3_carriedItem_19 : decode cX3_carriedItem 19 = .ok (.ireturn, 1) := by decide +kernel
theorem dX3_steps_0 : decode cX3_steps 0 = .ok (.aload_n 0, 1) := by decide +kernel
theorem dX3_steps_1 : decode cX3_steps 1 = .ok (.getfield 9, 3) := by decide +kernel
theorem dX3_steps_4 : decode cX3_steps 4 = .ok (.iconst 2, 1) := by decide +kernel
theorem dX3_steps_5 : decode cX3_steps 5 = .ok (.if_icmp .ne 7, 3) := by decide +kernel
theorem dX3_steps_8 : decode cX3_steps 8 = .ok (.iconst 4, 1) := by decide +kernel
theorem dX3_steps_9 : decode cX3_steps 9 = .ok (.goto 5, 3) := by decide +kernel
theorem dX3_steps_12 : decode cX3_steps 12 = .ok (.bipush 8, 2) := by decide +kernel
theorem dX3_steps_14 : decode cX3_steps 14 = .ok (.ireturn, 1) := by decide +kernel
theorem dX3_tell_0 : decode cX3_tell 0 = .ok (.iload_n 1, 1) := by decide +kernel
theorem dX3_tell_1 : decode cX3_tell 1 = .ok (.tableswitch 127 0 10 #[59, 64, 69, 74, 79, 84, 89, 107, 112, 117, 122], 59) := by decide +kernel
theorem dX3_tell_60 : decode cX3_tell 60 = .ok (.aload_n 0, 1) := by decide +kernel
theorem dX3_tell_61 : decode cX3_tell 61 = .ok (.getfield 9, 3) := by decide +kernel
theorem dX3_tell_64 : decode cX3_tell 64 = .ok (.ireturn, 1) := by decide +kernel
theorem dX3_tell_65 : decode cX3_tell 65 = .ok (.aload_n 0, 1) := by decide +kernel
theorem dX3_tell_66 : decode cX3_tell 66 = .ok (.getfield 15, 3) := by decide +kernel
theorem dX3_tell_69 : decode cX3_tell 69 = .ok (.ireturn, 1) := by decide +kernel
theorem dX3_tell_70 : decode cX3_tell 70 = .ok (.aload_n 0, 1) := by decide +kernel
theorem dX3_tell_71 : decode cX3_tell 71 = .ok (.getfield 18, 3) := by decide +kernel
theorem dX3_tell_74 : decode cX3_tell 74 = .ok (.ireturn, 1) := by decide +kernel
theorem dX3_tell_75 : decode cX3_tell 75 = .ok (.aload_n 0, 1) := by decide +kernel
theorem dX3_tell_76 : decode cX3_tell 76 = .ok (.getfield 21, 3) := by decide +kernel
theorem dX3_tell_79 : decode cX3_tell 79 = .ok (.ireturn, 1) := by decide +kernel
theorem dX3_tell_80 : decode cX3_tell 80 = .ok (.aload_n 0, 1) := by decide +kernel
theorem dX3_tell_81 : decode cX3_tell 81 = .ok (.getfield 24, 3) := by decide +kernel
theorem dX3_tell_84 : decode cX3_tell 84 = .ok (.ireturn, 1) := by decide +kernel
theorem dX3_tell_85 : decode cX3_tell 85 = .ok (.aload_n 0, 1) := by decide +kernel
theorem dX3_tell_86 : decode cX3_tell 86 = .ok (.getfield 27, 3) := by decide +kernel
theorem dX3_tell_89 : decode cX3_tell 89 = .ok (.ireturn, 1) := by decide +kernel
theorem dX3_tell_90 : decode cX3_tell 90 = .ok (.aload_n 0, 1) := by decide +kernel
theorem dX3_tell_91 : decode cX3_tell 91 = .ok (.getfield 21, 3) := by decide +kernel
theorem dX3_tell_94 : decode cX3_tell 94 = .ok (.iconst 1, 1) := by decide +kernel
theorem dX3_tell_95 : decode cX3_tell 95 = .ok (.if_icmp .ne 10, 3) := by decide +kernel
theorem dX3_tell_98 : decode cX3_tell 98 = .ok (.aload_n 0, 1) := by decide +kernel
theorem dX3_tell_99 : decode cX3_tell 99 = .ok (.getfield 30, 3) := by decide +kernel
theorem dX3_tell_102 : decode cX3_tell 102 = .ok (.goto 5, 3) := by decide +kernel
theorem dX3_tell_105 : decode cX3_tell 105 = .ok (.bipush (-5), 2) := by decide +kernel
theorem dX3_tell_107 : decode cX3_tell 107 = .ok (.ireturn, 1) := by decide +kernel
theorem dX3_tell_108 : decode cX3_tell 108 = .ok (.aload_n 0, 1) := by decide +kernel
theorem dX3_tell_109 : decode cX3_tell 109 = .ok (.getfield 33, 3) := by decide +kernel
theorem dX3_tell_112 : decode cX3_tell 112 = .ok (.ireturn, 1) := by decide +kernel
theorem dX3_tell_113 : decode cX3_tell 113 = .ok (.aload_n 0, 1) := by decide +kernel
theorem dX3_tell_114 : decode cX3_tell 114 = .ok (.getfield 36, 3) := by decide +kernel
theorem dX3_tell_117 : decode cX3_tell 117 = .ok (.ireturn, 1) := by decide +kernel
theorem dX3_tell_118 : decode cX3_tell 118 = .ok (.aload_n 0, 1) := by decide +kernel
theorem dX3_tell_119 : decode cX3_tell 119 = .ok (.getfield 39, 3) := by decide +kernel
theorem dX3_tell_122 : decode cX3_tell 122 = .ok (.ireturn, 1) := by decide +kernel
theorem dX3_tell_123 : decode cX3_tell 123 = .ok (.aload_n 0, 1) := by decide +kernel
theorem dX3_tell_124 : decode cX3_tell 124 = .ok (.getfield 42, 3) := by decide +kernel
theorem dX3_tell_127 : decode cX3_tell 127 = .ok (.ireturn, 1) := by decide +kernel
theorem dX3_tell_128 : decode cX3_tell 128 = .ok (.aload_n 0, 1) := by decide +kernel
theorem dX3_tell_129 : decode cX3_tell 129 = .ok (.getfield 45, 3) := by decide +kernel
theorem dX3_tell_132 : decode cX3_tell 132 = .ok (.ireturn, 1) := by decide +kernel
theorem dX4_init_0 : decode cX4_init 0 = .ok (.aload_n 0, 1) := by decide +kernel
theorem dX4_init_1 : decode cX4_init 1 = .ok (.invokespecial 3, 3) := by decide +kernel
theorem dX4_init_4 : decode cX4_init 4 = .ok (.aload_n 0, 1) := by decide +kernel
theorem dX4_init_5 : decode cX4_init 5 = .ok (.bipush 10, 2) := by decide +kernel
theorem dX4_init_7 : decode cX4_init 7 = .ok (.newarray .int, 2) := by decide +kernel
theorem dX4_init_9 : decode cX4_init 9 = .ok (.putfield 9, 3) := by decide +kernel
theorem dX4_init_12 : decode cX4_init 12 = .ok (.aload_n 0, 1) := by decide +kernel
theorem dX4_init_13 : decode cX4_init 13 = .ok (.bipush 10, 2) := by decide +kernel
theorem dX4_init_15 : decode cX4_init 15 = .ok (.newarray .int, 2) := by decide +kernel
theorem dX4_init_17 : decode cX4_init 17 = .ok (.putfield 15, 3) := by decide +kernel
theorem dX4_init_20 : decode cX4_init 20 = .ok (.aload_n 0, 1) := by decide +kernel
theorem dX4_init_21 : decode cX4_init 21 = .ok (.bipush 10, 2) := by decide +kernel
theorem dX4_init_23 : decode cX4_init 23 = .ok (.newarray .int, 2) := by decide +kernel
theorem dX4_init_25 : decode cX4_init 25 = .ok (.putfield 18, 3) := by decide +kernel
theorem dX4_init_28 : decode cX4_init 28 = .ok (.aload_n 0, 1) := by decide +kernel
theorem dX4_init_29 : decode cX4_init 29 = .ok (.bipush 10, 2) := by decide +kernel
theorem dX4_init_31 : decode cX4_init 31 = .ok (.newarray .int, 2) := by decide +kernel
theorem dX4_init_33 : decode cX4_init 33 = .ok (.putfield 21, 3) := by decide +kernel
theorem dX4_init_36 : decode cX4_init 36 = .ok (.aload_n 0, 1) := by decide +kernel
theorem dX4_init_37 : decode cX4_init 37 = .ok (.iconst 0, 1) := by decide +kernel
theorem dX4_init_38 : decode cX4_init 38 = .ok (.putfield 24, 3) := by decide +kernel
theorem dX4_init_41 : decode cX4_init 41 = .ok (.aload_n 0, 1) := by decide +kernel
theorem dX4_init_42 : decode cX4_init 42 = .ok (.bipush 9, 2) := by decide +kernel
theorem dX4_init_44 : decode cX4_init 44 = .ok (.putfield 28, 3) := by decide +kernel
theorem dX4_init_47 : decode cX4_init 47 = .ok (.return_, 1) := by decide +kernel
theorem dX4_copyFrom_0 : decode cX4_copyFrom 0 = .ok (.aload_n 1, 1) := by decide +kernel
theorem dX4_copyFrom_1 : decode cX4_copyFrom 1 = .ok (.getfield 9, 3) := by decide +kernel
theorem dX4_copyFrom_4 : decode cX4_copyFrom 4 = .ok (.iconst 0, 1) := by decide +kernel
theorem dX4_copyFrom_5 : decode cX4_copyFrom 5 = .ok (.aload_n 0, 1) := by decide +kernel
theorem dX4_copyFrom_6 : decode cX4_copyFrom 6 = .ok (.getfield 9, 3) := by decide +kernel
theorem dX4_copyFrom_9 : decode cX4_copyFrom 9 = .ok (.iconst 0, 1) := by decide +kernel
theorem dX4_copyFrom_10 : decode cX4_copyFrom 10 = .ok (.bipush 10, 2) := by decide +kernel
theorem dX4_copyFrom_12 : decode cX4_copyFrom 12 = .ok (.invokestatic 31, 3) := by decide +kernel
theorem dX4_copyFrom_15 : decode cX4_copyFrom 15 = .ok (.aload_n 1, 1) := by decide +kernel
theorem dX4_copyFrom_16 : decode cX4_copyFrom 16 = .ok (.getfield 15, 3) := by decide +kernel
theorem dX4_copyFrom_19 : decode cX4_copyFrom 19 = .ok (.iconst 0, 1) := by decide +kernel
theorem dX4_copyFrom_20 : decode cX4_copyFrom 20 = .ok (.aload_n 0, 1) := by decide +kernel
theorem dX4_copyFrom_21 : decode cX4_copyFrom 21 = .ok (.getfield 15, 3) := by decide +kernel
theorem dX4_copyFrom_24 : decode cX4_copyFrom 24 = .ok (.iconst 0, 1) := by decide +kernel
theorem dX4_copyFrom_25 : decode cX4_copyFrom 25 = .ok (.bipush 10, 2) := by decide +kernel
theorem dX4_copyFrom_27 : decode cX4_copyFrom 27 = .ok (.invokestatic 31, 3) := by decide +kernel
theorem dX4_copyFrom_30 : decode cX4_copyFrom 30 = .ok (.aload_n 1, 1) := by decide +kernel
theorem dX4_copyFrom_31 : decode cX4_copyFrom 31 = .ok (.getfield 18, 3) := by decide +kernel
theorem dX4_copyFrom_34 : decode cX4_copyFrom 34 = .ok (.iconst 0, 1) := by decide +kernel
theorem dX4_copyFrom_35 : decode cX4_copyFrom 35 = .ok (.aload_n 0, 1) := by decide +kernel
theorem dX4_copyFrom_36 : decode cX4_copyFrom 36 = .ok (.getfield 18, 3) := by decide +kernel
theorem dX4_copyFrom_39 : decode cX4_copyFrom 39 = .ok (.iconst 0, 1) := by decide +kernel
theorem dX4_copyFrom_40 : decode cX4_copyFrom 40 = .ok (.bipush 10, 2) := by decide +kernel
theorem dX4_copyFrom_42 : decode cX4_copyFrom 42 = .ok (.invokestatic 31, 3) := by decide +kernel
theorem dX4_copyFrom_45 : decode cX4_copyFrom 45 = .ok (.aload_n 1, 1) := by decide +kernel
theorem dX4_copyFrom_46 : decode cX4_copyFrom 46 = .ok (.getfield 21, 3) := by decide +kernel
theorem dX4_copyFrom_49 : decode cX4_copyFrom 49 = .ok (.iconst 0, 1) := by decide +kernel
theorem dX4_copyFrom_50 : decode cX4_copyFrom 50 = .ok (.aload_n 0, 1) := by decide +kernel
theorem dX4_copyFrom_51 : decode cX4_copyFrom 51 = .ok (.getfield 21, 3) := by decide +kernel
theorem dX4_copyFrom_54 : decode cX4_copyFrom 54 = .ok (.iconst 0, 1) := by decide +kernel
theorem dX4_copyFrom_55 : decode cX4_copyFrom 55 = .ok (.bipush 10, 2) := by decide +kernel
theorem dX4_copyFrom_57 : decode cX4_copyFrom 57 = .ok (.invokestatic 31, 3) := by decide +kernel
theorem dX4_copyFrom_60 : decode cX4_copyFrom 60 = .ok (.aload_n 0, 1) := by decide +kernel
theorem dX4_copyFrom_61 : decode cX4_copyFrom 61 = .ok (.aload_n 1, 1) := by decide +kernel
theorem dX4_copyFrom_62 : decode cX4_copyFrom 62 = .ok (.getfield 24, 3) := by decide +kernel
theorem dX4_copyFrom_65 : decode cX4_copyFrom 65 = .ok (.putfield 24, 3) := by decide +kernel
theorem dX4_copyFrom_68 : decode cX4_copyFrom 68 = .ok (.aload_n 0, 1) := by decide +kernel
theorem dX4_copyFrom_69 : decode cX4_copyFrom 69 = .ok (.aload_n 1, 1) := by decide +kernel
theorem dX4_copyFrom_70 : decode cX4_copyFrom 70 = .ok (.getfield 28, 3) := by decide +kernel
theorem dX4_copyFrom_73 : decode cX4_copyFrom 73 = .ok (.putfield 28, 3) := by decide +kernel
theorem dX4_copyFrom_76 : decode cX4_copyFrom 76 = .ok (.return_, 1) := by decide +kernel
theorem dX4_add_0 : decode cX4_add 0 = .ok (.aload_n 0, 1) := by decide +kernel
theorem dX4_add_1 : decode cX4_add 1 = .ok (.aload_n 0, 1) := by decide +kernel
theorem dX4_add_2 : decode cX4_add 2 = .ok (.getfield 28, 3) := by decide +kernel
theorem dX4_add_5 : decode cX4_add 5 = .ok (.iconst 1, 1) := by decide +kernel
theorem dX4_add_6 : decode cX4_add 6 = .ok (.iadd, 1) := by decide +kernel
theorem dX4_add_7 : decode cX4_add 7 = .ok (.bipush 10, 2) := by decide +kernel
theorem dX4_add_9 : decode cX4_add 9 = .ok (.if_icmp .ge 12, 3) := by decide +kernel
theorem dX4_add_12 : decode cX4_add 12 = .ok (.aload_n 0, 1) := by decide +kernel
theorem dX4_add_13 : decode cX4_add 13 = .ok (.getfield 28, 3) := by decide +kernel
theorem dX4_add_16 : decode cX4_add 16 = .ok (.iconst 1, 1) := by decide +kernel
theorem dX4_add_17 : decode cX4_add 17 = .ok (.iadd, 1) := by decide +kernel
theorem dX4_add_18 : decode cX4_add 18 = .ok (.goto 4, 3) := by decide +kernel
theorem dX4_add_21 : decode cX4_add 21 = .ok (.iconst 0, 1) := by decide +kernel
theorem dX4_add_22 : decode cX4_add 22 = .ok (.putfield 28, 3) := by decide +kernel
theorem dX4_add_25 : decode cX4_add 25 = .ok (.aload_n 0, 1) := by decide +kernel
theorem dX4_add_26 : decode cX4_add 26 = .ok (.getfield 9, 3) := by decide +kernel
theorem dX4_add_29 : decode cX4_add 29 = .ok (.aload_n 0, 1) := by decide +kernel
theorem dX4_add_30 : decode cX4_add 30 = .ok (.getfield 28, 3) := by decide +kernel
theorem dX4_add_33 : decode cX4_add 33 = .ok (.iload_n 1, 1) := by decide +kernel
theorem dX4_add_34 : decode cX4_add 34 = .ok (.iastore, 1) := by decide +kernel
theorem dX4_add_35 : decode cX4_add 35 = .ok (.aload_n 0, 1) := by decide +kernel
theorem dX4_add_36 : decode cX4_add 36 = .ok (.getfield 15, 3) := by decide +kernel
theorem dX4_add_39 : decode cX4_add 39 = .ok (.aload_n 0, 1) := by decide +kernel
theorem dX4_add_40 : decode cX4_add 40 = .ok (.getfield 28, 3) := by decide +kernel
theorem dX4_add_43 : decode cX4_add 43 = .ok (.iload_n 2, 1) := by decide +kernel
theorem dX4_add_44 : decode cX4_add 44 = .ok (.iastore, 1) := by decide +kernel
theorem dX4_add_45 : decode cX4_add 45 = .ok (.aload_n 0, 1) := by decide +kernel
theorem dX4_add_46 : decode cX4_add 46 = .ok (.getfield 18, 3) := by decide +kernel
theorem dX4_add_49 : decode cX4_add 49 = .ok (.aload_n 0, 1) := by decide +kernel
theorem dX4_add_50 : decode cX4_add 50 = .ok (.getfield 28, 3) := by decide +kernel
theorem dX4_add_53 : decode cX4_add 53 = .ok (.iload_n 3, 1) := by decide +kernel
theorem dX4_add_54 : decode cX4_add 54 = .ok (.iastore, 1) := by decide +kernel
theorem dX4_add_55 : decode cX4_add 55 = .ok (.aload_n 0, 1) := by decide +kernel
theorem dX4_add_56 : decode cX4_add 56 = .ok (.getfield 21, 3) := by decide +kernel
theorem dX4_add_59 : decode cX4_add 59 = .ok (.aload_n 0, 1) := by decide +kernel
theorem dX4_add_60 : decode cX4_add 60 = .ok (.getfield 28, 3) := by decide +kernel
theorem dX4_add_63 : decode cX4_add 63 = .ok (.iload 4, 2) := by decide +kernel
theorem dX4_add_65 : decode cX4_add 65 = .ok (.iastore, 1) := by decide +kernel
theorem dX4_add_66 : decode cX4_add 66 = .ok (.aload_n 0, 1) := by decide +kernel
theorem dX4_add_67 : decode cX4_add 67 = .ok (.aload_n 0, 1) := by decide +kernel
theorem dX4_add_68 : decode cX4_add 68 = .ok (.getfield 24, 3) := by decide +kernel
theorem dX4_add_71 : decode cX4_add 71 = .ok (.iconst 1, 1) := by decide +kernel
theorem dX4_add_72 : decode cX4_add 72 = .ok (.iadd, 1) := by decide +kernel
theorem dX4_add_73 : decode cX4_add 73 = .ok (.bipush 10, 2) := by decide +kernel
theorem dX4_add_75 : decode cX4_add 75 = .ok (.invokestatic 37, 3) := by decide +kernel
theorem dX4_add_78 : decode cX4_add 78 = .ok (.putfield 24, 3) := by decide +kernel
theorem dX4_add_81 : decode cX4_add 81 = .ok (.return_, 1) := by decide +kernel
theorem dX5_init_0 : decode cX5_init 0 = .ok (.aload_n 0, 1) := by decide +kernel
theorem dX5_init_1 : decode cX5_init 1 = .ok (.invokespecial 3, 3) := by decide +kernel
theorem dX5_init_4 : decode cX5_init 4 = .ok (.aload_n 0, 1) := by decide +kernel
theorem dX5_init_5 : decode cX5_init 5 = .ok (.bipush 30, 2) := by decide +kernel
theorem dX5_init_7 : decode cX5_init 7 = .ok (.anewarray 9, 3) := by decide +kernel
theorem dX5_init_10 : decode cX5_init 10 = .ok (.putfield 11, 3) := by decide +kernel
theorem dX5_init_13 : decode cX5_init 13 = .ok (.iconst 0, 1) := by decide +kernel
theorem dX5_init_14 : decode cX5_init 14 = .ok (.istore_n 1, 1) := by decide +kernel
theorem dX5_init_15 : decode cX5_init 15 = .ok (.iload_n 1, 1) := by decide +kernel
theorem dX5_init_16 : decode cX5_init 16 = .ok (.aload_n 0, 1) := by decide +kernel
theorem dX5_init_17 : decode cX5_init 17 = .ok (.getfield 11, 3) := by decide +kernel
theorem dX5_init_20 : decode cX5_init 20 = .ok (.arraylength, 1) := by decide +kernel
theorem dX5_init_21 : decode cX5_init 21 = .ok (.if_icmp .ge 22, 3) := by decide +kernel
theorem dX5_init_24 : decode cX5_init 24 = .ok (.aload_n 0, 1) := by decide +kernel
theorem dX5_init_25 : decode cX5_init 25 = .ok (.getfield 11, 3) := by decide +kernel
theorem dX5_init_28 : decode cX5_init 28 = .ok (.iload_n 1, 1) := by decide +kernel
theorem dX5_init_29 : decode cX5_init 29 = .ok (.new 9, 3) := by decide +kernel
theorem dX5_init_32 : decode cX5_init 32 = .ok (.dup, 1) := by decide +kernel
theorem dX5_init_33 : decode cX5_init 33 = .ok (.invokespecial 17, 3) := by decide +kernel
theorem dX5_init_36 : decode cX5_init 36 = .ok (.aastore, 1) := by decide +kernel
theorem dX5_init_37 : decode cX5_init 37 = .ok (.iinc 1 1, 3) := by decide +kernel
theorem dX5_init_40 : decode cX5_init 40 = .ok (.goto (-25), 3) := by decide +kernel
theorem dX5_init_43 : decode cX5_init 43 = .ok (.aload_n 0, 1) := by decide +kernel
theorem dX5_init_44 : decode cX5_init 44 = .ok (.iconst 0, 1) := by decide +kernel
theorem dX5_init_45 : decode cX5_init 45 = .ok (.putfield 18, 3) := by decide +kernel
theorem dX5_init_48 : decode cX5_init 48 = .ok (.aload_n 0, 1) := by decide +kernel
theorem dX5_init_49 : decode cX5_init 49 = .ok (.iconst 0, 1) := by decide +kernel
theorem dX5_init_50 : decode cX5_init 50 = .ok (.putfield 22, 3) := by decide +kernel
theorem dX5_init_53 : decode cX5_init 53 = .ok (.aload_n 0, 1) := by decide +kernel
theorem dX5_init_54 : decode cX5_init 54 = .ok (.iconst 1, 1) := by decide +kernel
theorem dX5_init_55 : decode cX5_init 55 = .ok (.putfield 25, 3) := by decide +kernel
theorem dX5_init_58 : decode cX5_init 58 = .ok (.return_, 1) := by decide +kernel
theorem dX5_copyFrom_0 : decode cX5_copyFrom 0 = .ok (.aload_n 0, 1) := by decide +kernel
theorem dX5_copyFrom_1 : decode cX5_copyFrom 1 = .ok (.aload_n 1, 1) := by decide +kernel
theorem dX5_copyFrom_2 : decode cX5_copyFrom 2 = .ok (.getfield 18, 3) := by decide +kernel
theorem dX5_copyFrom_5 : decode cX5_copyFrom 5 = .ok (.putfield 18, 3) := by decide +kernel
theorem dX5_copyFrom_8 : decode cX5_copyFrom 8 = .ok (.iconst 0, 1) := by decide +kernel
theorem dX5_copyFrom_9 : decode cX5_copyFrom 9 = .ok (.istore_n 2, 1) := by decide +kernel
theorem dX5_copyFrom_10 : decode cX5_copyFrom 10 = .ok (.iload_n 2, 1) := by decide +kernel
theorem dX5_copyFrom_11 : decode cX5_copyFrom 11 = .ok (.aload_n 0, 1) := by decide +kernel
theorem dX5_copyFrom_12 : decode cX5_copyFrom 12 = .ok (.getfield 18, 3) := by decide +kernel
theorem dX5_copyFrom_15 : decode cX5_copyFrom 15 = .ok (.if_icmp .ge 24, 3) := by decide +kernel
theorem dX5_copyFrom_18 : decode cX5_copyFrom 18 = .ok (.aload_n 0, 1) := by decide +kernel
theorem dX5_copyFrom_19 : decode cX5_copyFrom 19 = .ok (.getfield 11, 3) := by decide +kernel
theorem dX5_copyFrom_22 : decode cX5_copyFrom 22 = .ok (.iload_n 2, 1) := by decide +kernel
theorem dX5_copyFrom_23 : decode cX5_copyFrom 23 = .ok (.aaload, 1) := by decide +kernel
theorem dX5_copyFrom_24 : decode cX5_copyFrom 24 = .ok (.aload_n 1, 1) := by decide +kernel
theorem dX5_copyFrom_25 : decode cX5_copyFrom 25 = .ok (.getfield 11, 3) := by decide +kernel
theorem dX5_copyFrom_28 : decode cX5_copyFrom 28 = .ok (.iload_n 2, 1) := by decide +kernel
theorem dX5_copyFrom_29 : decode cX5_copyFrom 29 = .ok (.aaload, 1) := by decide +kernel
theorem dX5_copyFrom_30 : decode cX5_copyFrom 30 = .ok (.invokevirtual 28, 3) := by decide +kernel
theorem dX5_copyFrom_33 : decode cX5_copyFrom 33 = .ok (.iinc 2 1, 3) := by decide +kernel
theorem dX5_copyFrom_36 : decode cX5_copyFrom 36 = .ok (.goto (-26), 3) := by decide +kernel
theorem dX5_copyFrom_39 : decode cX5_copyFrom 39 = .ok (.aload_n 0, 1) := by decide +kernel
theorem dX5_copyFrom_40 : decode cX5_copyFrom 40 = .ok (.aload_n 1, 1) := by decide +kernel
theorem dX5_copyFrom_41 : decode cX5_copyFrom 41 = .ok (.getfield 22, 3) := by decide +kernel
theorem dX5_copyFrom_44 : decode cX5_copyFrom 44 = .ok (.putfield 22, 3) := by decide +kernel
theorem dX5_copyFrom_47 : decode cX5_copyFrom 47 = .ok (.aload_n 0, 1) := by decide +kernel
theorem dX5_copyFrom_48 : decode cX5_copyFrom 48 = .ok (.aload_n 1, 1) := by decide +kernel
theorem dX5_copyFrom_49 : decode cX5_copyFrom 49 = .ok (.getfield 25, 3) := by decide +kernel
theorem dX5_copyFrom_52 : decode cX5_copyFrom 52 = .ok (.putfield 25, 3) := by decide +kernel
theorem dX5_copyFrom_55 : decode cX5_copyFrom 55 = .ok (.return_, 1) := by decide +kernel
theorem dX5_jobAt_0 : decode cX5_jobAt 0 = .ok (.iload_n 1, 1) := by decide +kernel
theorem dX5_jobAt_1 : decode cX5_jobAt 1 = .ok (.ifCond .lt 20, 3) := by decide +kernel
theorem dX5_jobAt_4 : decode cX5_jobAt 4 = .ok (.iload_n 1, 1) := by decide +kernel
theorem dX5_jobAt_5 : decode cX5_jobAt 5 = .ok (.aload_n 0, 1) := by decide +kernel
theorem dX5_jobAt_6 : decode cX5_jobAt 6 = .ok (.getfield 18, 3) := by decide +kernel
theorem dX5_jobAt_9 : decode cX5_jobAt 9 = .ok (.if_icmp .ge 12, 3) := by decide +kernel
theorem dX5_jobAt_12 : decode cX5_jobAt 12 = .ok (.aload_n 0, 1) := by decide +kernel
theorem dX5_jobAt_13 : decode cX5_jobAt 13 = .ok (.getfield 11, 3) := by decide +kernel
theorem dX5_jobAt_16 : decode cX5_jobAt 16 = .ok (.iload_n 1, 1) := by decide +kernel
theorem dX5_jobAt_17 : decode cX5_jobAt 17 = .ok (.aaload, 1) := by decide +kernel
theorem dX5_jobAt_18 : decode cX5_jobAt 18 = .ok (.goto 4, 3) := by decide +kernel
theorem dX5_jobAt_21 : decode cX5_jobAt 21 = .ok (.aconst_null, 1) := by decide +kernel
theorem dX5_jobAt_22 : decode cX5_jobAt 22 = .ok (.areturn, 1) := by decide +kernel
theorem dX5_enter_0 : decode cX5_enter 0 = .ok (.aload_n 0, 1) := by decide +kernel
theorem dX5_enter_1 : decode cX5_enter 1 = .ok (.getfield 18, 3) := by decide +kernel
theorem dX5_enter_4 : decode cX5_enter 4 = .ok (.aload_n 0, 1) := by decide +kernel
theorem dX5_enter_5 : decode cX5_enter 5 = .ok (.getfield 11, 3) := by decide +kernel
theorem dX5_enter_8 : decode cX5_enter 8 = .ok (.arraylength, 1) := by decide +kernel
theorem dX5_enter_9 : decode cX5_enter 9 = .ok (.if_icmp .lt 6, 3) := by decide +kernel
theorem dX5_enter_12 : decode cX5_enter 12 = .ok (.bipush (-3), 2) := by decide +kernel
theorem dX5_enter_14 : decode cX5_enter 14 = .ok (.ireturn, 1) := by decide +kernel
theorem dX5_enter_15 : decode cX5_enter 15 = .ok (.aload_n 0, 1) := by decide +kernel
theorem dX5_enter_16 : decode cX5_enter 16 = .ok (.getfield 11, 3) := by decide +kernel
theorem dX5_enter_19 : decode cX5_enter 19 = .ok (.aload_n 0, 1) := by decide +kernel
theorem dX5_enter_20 : decode cX5_enter 20 = .ok (.getfield 18, 3) := by decide +kernel
theorem dX5_enter_23 : decode cX5_enter 23 = .ok (.aaload, 1) := by decide +kernel
theorem dX5_enter_24 : decode cX5_enter 24 = .ok (.iload_n 1, 1) := by decide +kernel
theorem dX5_enter_25 : decode cX5_enter 25 = .ok (.iload_n 2, 1) := by decide +kernel
theorem dX5_enter_26 : decode cX5_enter 26 = .ok (.iload_n 3, 1) := by decide +kernel
theorem dX5_enter_27 : decode cX5_enter 27 = .ok (.invokevirtual 32, 3) := by decide +kernel
theorem dX5_enter_30 : decode cX5_enter 30 = .ok (.aload_n 0, 1) := by decide +kernel
theorem dX5_enter_31 : decode cX5_enter 31 = .ok (.dup, 1) := by decide +kernel
theorem dX5_enter_32 : decode cX5_enter 32 = .ok (.getfield 18, 3) := by decide +kernel
theorem dX5_enter_35 : decode cX5_enter 35 = .ok (.dup_x1, 1) := by decide +kernel
theorem dX5_enter_36 : decode cX5_enter 36 = .ok (.iconst 1, 1) := by decide +kernel
theorem dX5_enter_37 : decode cX5_enter 37 = .ok (.iadd, 1) := by decide +kernel
theorem dX5_enter_38 : decode cX5_enter 38 = .ok (.putfield 18, 3) := by decide +kernel
theorem dX5_enter_41 : decode cX5_enter 41 = .ok (.ireturn, 1) := by decide +kernel
theorem dX5_rankKinds_0 : decode cX5_rankKinds 0 = .ok (.aload_n 0, 1) := by decide +kernel
theorem dX5_rankKinds_1 : decode cX5_rankKinds 1 = .ok (.iload_n 1, 1) := by decide +kernel
theorem dX5_rankKinds_2 : decode cX5_rankKinds 2 = .ok (.putfield 22, 3) := by decide +kernel
theorem dX5_rankKinds_5 : decode cX5_rankKinds 5 = .ok (.aload_n 0, 1) := by decide +kernel
theorem dX5_rankKinds_6 : decode cX5_rankKinds 6 = .ok (.iload_n 2, 1) := by decide +kernel
theorem dX5_rankKinds_7 : decode cX5_rankKinds 7 = .ok (.putfield 25, 3) := by decide +kernel
theorem dX5_rankKinds_10 : decode cX5_rankKinds 10 = .ok (.iconst 3, 1) := by decide +kernel
theorem dX5_rankKinds_11 : decode cX5_rankKinds 11 = .ok (.iload_n 1, 1) := by decide +kernel
theorem dX5_rankKinds_12 : decode cX5_rankKinds 12 = .ok (.isub, 1) := by decide +kernel
theorem dX5_rankKinds_13 : decode cX5_rankKinds 13 = .ok (.iload_n 2, 1) := by decide +kernel
theorem dX5_rankKinds_14 : decode cX5_rankKinds 14 = .ok (.isub, 1) := by decide +kernel
theorem dX5_rankKinds_15 : decode cX5_rankKinds 15 = .ok (.ireturn, 1) := by decide +kernel
theorem dX5_rankOf_0 : decode cX5_rankOf 0 = .ok (.iload_n 1, 1) := by decide +kernel
theorem dX5_rankOf_1 : decode cX5_rankOf 1 = .ok (.aload_n 0, 1) := by decide +kernel
theorem dX5_rankOf_2 : decode cX5_rankOf 2 = .ok (.getfield 22, 3) := by decide +kernel
theorem dX5_rankOf_5 : decode cX5_rankOf 5 = .ok (.if_icmp .ne 7, 3) := by decide +kernel
theorem dX5_rankOf_8 : decode cX5_rankOf 8 = .ok (.iconst 0, 1) := by decide +kernel
theorem dX5_rankOf_9 : decode cX5_rankOf 9 = .ok (.goto 16, 3) := by decide +kernel
theorem dX5_rankOf_12 : decode cX5_rankOf 12 = .ok (.iload_n 1, 1) := by decide +kernel
theorem dX5_rankOf_13 : decode cX5_rankOf 13 = .ok (.aload_n 0, 1) := by decide +kernel
theorem dX5_rankOf_14 : decode cX5_rankOf 14 = .ok (.getfield 25, 3) := by decide +kernel
theorem dX5_rankOf_17 : decode cX5_rankOf 17 = .ok (.if_icmp .ne 7, 3) := by decide +kernel
theorem dX5_rankOf_20 : decode cX5_rankOf 20 = .ok (.iconst 1, 1) := by decide +kernel
theorem dX5_rankOf_21 : decode cX5_rankOf 21 = .ok (.goto 4, 3) := by decide +kernel
theorem dX5_rankOf_24 : decode cX5_rankOf 24 = .ok (.iconst 2, 1) := by decide +kernel
theorem dX5_rankOf_25 : decode cX5_rankOf 25 = .ok (.ireturn, 1) := by decide +kernel
theorem dX5_jobsInState_0 : decode cX5_jobsInState 0 = .ok (.iconst 0, 1) := by decide +kernel
theorem dX5_jobsInState_1 : decode cX5_jobsInState 1 = .ok (.istore_n 2, 1) := by decide +kernel
theorem dX5_jobsInState_2 : decode cX5_jobsInState 2 = .ok (.iconst 0, 1) := by decide +kernel
theorem dX5_jobsInState_3 : decode cX5_jobsInState 3 = .ok (.istore_n 3, 1) := by decide +kernel
theorem dX5_jobsInState_4 : decode cX5_jobsInState 4 = .ok (.iload_n 3, 1) := by decide +kernel
theorem dX5_jobsInState_5 : decode cX5_jobsInState 5 = .ok (.aload_n 0, 1) := by decide +kernel
theorem dX5_jobsInState_6 : decode cX5_jobsInState 6 = .ok (.getfield 18, 3) := by decide +kernel
theorem dX5_jobsInState_9 : decode cX5_jobsInState 9 = .ok (.if_icmp .ge 30, 3) := by decide +kernel
theorem dX5_jobsInState_12 : decode cX5_jobsInState 12 = .ok (.iload_n 2, 1) := by decide +kernel
theorem dX5_jobsInState_13 : decode cX5_jobsInState 13 = .ok (.aload_n 0, 1) := by decide +kernel
theorem dX5_jobsInState_14 : decode cX5_jobsInState 14 = .ok (.getfield 11, 3) := by decide +kernel
theorem dX5_jobsInState_17 : decode cX5_jobsInState 17 = .ok (.iload_n 3, 1) := by decide +kernel
theorem dX5_jobsInState_18 : decode cX5_jobsInState 18 = .ok (.aaload, 1) := by decide +kernel
theorem dX5_jobsInState_19 : decode cX5_jobsInState 19 = .ok (.getfield 36, 3) := by decide +kernel
theorem dX5_jobsInState_22 : decode cX5_jobsInState 22 = .ok (.iload_n 1, 1) := by decide +kernel
theorem dX5_jobsInState_23 : decode cX5_jobsInState 23 = .ok (.if_icmp .ne 7, 3) := by decide +kernel
theorem dX5_jobsInState_26 : decode cX5_jobsInState 26 = .ok (.iconst 1, 1) := by decide +kernel
theorem dX5_jobsInState_27 : decode cX5_jobsInState 27 = .ok (.goto 4, 3) := by decide +kernel
theorem dX5_jobsInState_30 : decode cX5_jobsInState 30 = .ok (.iconst 0, 1) := by decide +kernel
theorem dX5_jobsInState_31 : decode cX5_jobsInState 31 = .ok (.iadd, 1) := by decide +kernel
theorem dX5_jobsInState_32 : decode cX5_jobsInState 32 = .ok (.istore_n 2, 1) := by decide +kernel
theorem dX5_jobsInState_33 : decode cX5_jobsInState 33 = .ok (.iinc 3 1, 3) := by decide +kernel
theorem dX5_jobsInState_36 : decode cX5_jobsInState 36 = .ok (.goto (-32), 3) := by decide +kernel
theorem dX5_jobsInState_39 : decode cX5_jobsInState 39 = .ok (.iload_n 2, 1) := by decide +kernel
theorem dX5_jobsInState_40 : decode cX5_jobsInState 40 = .ok (.ireturn, 1) := by decide +kernel
theorem dX5_jobsWith_0 : decode cX5_jobsWith 0 = .ok (.iconst 0, 1) := by decide +kernel
theorem dX5_jobsWith_1 : decode cX5_jobsWith 1 = .ok (.istore_n 2, 1) := by decide +kernel
theorem dX5_jobsWith_2 : decode cX5_jobsWith 2 = .ok (.iconst 0, 1) := by decide +kernel
theorem dX5_jobsWith_3 : decode cX5_jobsWith 3 = .ok (.istore_n 3, 1) := by decide +kernel
theorem dX5_jobsWith_4 : decode cX5_jobsWith 4 = .ok (.iload_n 3, 1) := by decide +kernel
theorem dX5_jobsWith_5 : decode cX5_jobsWith 5 = .ok (.aload_n 0, 1) := by decide +kernel
theorem dX5_jobsWith_6 : decode cX5_jobsWith 6 = .ok (.getfield 18, 3) := by decide +kernel
theorem dX5_jobsWith_9 : decode cX5_jobsWith 9 = .ok (.if_icmp .ge 42, 3) := by decide +kernel
theorem dX5_jobsWith_12 : decode cX5_jobsWith 12 = .ok (.aload_n 0, 1) := by decide +kernel
theorem dX5_jobsWith_13 : decode cX5_jobsWith 13 = .ok (.getfield 11, 3) := by decide +kernel
theorem dX5_jobsWith_16 : decode cX5_jobsWith 16 = .ok (.iload_n 3, 1) := by decide +kernel
theorem dX5_jobsWith_17 : decode cX5_jobsWith 17 = .ok (.aaload, 1) := by decide +kernel
theorem dX5_jobsWith_18 : decode cX5_jobsWith 18 = .ok (.astore 4, 2) := by decide +kernel
theorem dX5_jobsWith_20 : decode cX5_jobsWith 20 = .ok (.iload_n 2, 1) := by decide +kernel
theorem dX5_jobsWith_21 : decode cX5_jobsWith 21 = .ok (.aload 4, 2) := by decide +kernel
theorem dX5_jobsWith_23 : decode cX5_jobsWith 23 = .ok (.invokevirtual 39, 3) := by decide +kernel
theorem dX5_jobsWith_26 : decode cX5_jobsWith 26 = .ok (.ifCond .eq 16, 3) := by decide +kernel
theorem dX5_jobsWith_29 : decode cX5_jobsWith 29 = .ok (.aload 4, 2) := by decide +kernel
theorem dX5_jobsWith_31 : decode cX5_jobsWith 31 = .ok (.invokevirtual 43, 3) := by decide +kernel
theorem dX5_jobsWith_34 : decode cX5_jobsWith 34 = .ok (.iload_n 1, 1) := by decide +kernel
theorem dX5_jobsWith_35 : decode cX5_jobsWith 35 = .ok (.if_icmp .ne 7, 3) := by decide +kernel
theorem dX5_jobsWith_38 : decode cX5_jobsWith 38 = .ok (.iconst 1, 1) := by decide +kernel
theorem dX5_jobsWith_39 : decode cX5_jobsWith 39 = .ok (.goto 4, 3) := by decide +kernel
theorem dX5_jobsWith_42 : decode cX5_jobsWith 42 = .ok (.iconst 0, 1) := by decide +kernel
theorem dX5_jobsWith_43 : decode cX5_jobsWith 43 = .ok (.iadd, 1) := by decide +kernel
theorem dX5_jobsWith_44 : decode cX5_jobsWith 44 = .ok (.istore_n 2, 1) := by decide +kernel
theorem dX5_jobsWith_45 : decode cX5_jobsWith 45 = .ok (.iinc 3 1, 3) := by decide +kernel
theorem dX5_jobsWith_48 : decode cX5_jobsWith 48 = .ok (.goto (-44), 3) := by decide +kernel
theorem dX5_jobsWith_51 : decode cX5_jobsWith 51 = .ok (.iload_n 2, 1) := by decide +kernel
theorem dX5_jobsWith_52 : decode cX5_jobsWith 52 = .ok (.ireturn, 1) := by decide +kernel
theorem dX6_init_0 : decode cX6_init 0 = .ok (.aload_n 0, 1) := by decide +kernel
theorem dX6_init_1 : decode cX6_init 1 = .ok (.invokespecial 3, 3) := by decide +kernel
theorem dX6_init_4 : decode cX6_init 4 = .ok (.aload_n 0, 1) := by decide +kernel
theorem dX6_init_5 : decode cX6_init 5 = .ok (.new 9, 3) := by decide +kernel
theorem dX6_init_8 : decode cX6_init 8 = .ok (.dup, 1) := by decide +kernel
theorem dX6_init_9 : decode cX6_init 9 = .ok (.invokespecial 11, 3) := by decide +kernel
theorem dX6_init_12 : decode cX6_init 12 = .ok (.putfield 12, 3) := by decide +kernel
theorem dX6_init_15 : decode cX6_init 15 = .ok (.aload_n 0, 1) := by decide +kernel
theorem dX6_init_16 : decode cX6_init 16 = .ok (.new 18, 3) := by decide +kernel
theorem dX6_init_19 : decode cX6_init 19 = .ok (.dup, 1) := by decide +kernel
theorem dX6_init_20 : decode cX6_init 20 = .ok (.invokespecial 20, 3) := by decide +kernel
theorem dX6_init_23 : decode cX6_init 23 = .ok (.putfield 21, 3) := by decide +kernel
theorem dX6_init_26 : decode cX6_init 26 = .ok (.aload_n 0, 1) := by decide +kernel
theorem dX6_init_27 : decode cX6_init 27 = .ok (.new 25, 3) := by decide +kernel
theorem dX6_init_30 : decode cX6_init 30 = .ok (.dup, 1) := by decide +kernel
theorem dX6_init_31 : decode cX6_init 31 = .ok (.invokespecial 27, 3) := by decide +kernel
theorem dX6_init_34 : decode cX6_init 34 = .ok (.putfield 28, 3) := by decide +kernel
theorem dX6_init_37 : decode cX6_init 37 = .ok (.aload_n 0, 1) := by decide +kernel
theorem dX6_init_38 : decode cX6_init 38 = .ok (.fconst 0, 1) := by decide +kernel
theorem dX6_init_39 : decode cX6_init 39 = .ok (.putfield 32, 3) := by decide +kernel
theorem dX6_init_42 : decode cX6_init 42 = .ok (.aload_n 0, 1) := by decide +kernel
theorem dX6_init_43 : decode cX6_init 43 = .ok (.ldc 36, 2) := by decide +kernel
theorem dX6_init_45 : decode cX6_init 45 = .ok (.putfield 37, 3) := by decide +kernel
theorem dX6_init_48 : decode cX6_init 48 = .ok (.aload_n 0, 1) := by decide +kernel
theorem dX6_init_49 : decode cX6_init 49 = .ok (.iconst 0, 1) := by decide +kernel
theorem dX6_init_50 : decode cX6_init 50 = .ok (.putfield 40, 3) := by decide +kernel
theorem dX6_init_53 : decode cX6_init 53 = .ok (.aload_n 0, 1) := by decide +kernel
theorem dX6_init_54 : decode cX6_init 54 = .ok (.iconst 0, 1) := by decide +kernel
theorem dX6_init_55 : decode cX6_init 55 = .ok (.putfield 44, 3) := by decide +kernel
theorem dX6_init_58 : decode cX6_init 58 = .ok (.aload_n 0, 1) := by decide +kernel
theorem dX6_init_59 : decode cX6_init 59 = .ok (.bipush (-5), 2) := by decide +kernel
theorem dX6_init_61 : decode cX6_init 61 = .ok (.putfield 47, 3) := by decide +kernel
theorem dX6_init_64 : decode cX6_init 64 = .ok (.aload_n 0, 1) := by decide +kernel
theorem dX6_init_65 : decode cX6_init 65 = .ok (.bipush (-5), 2) := by decide +kernel
theorem dX6_init_67 : decode cX6_init 67 = .ok (.putfield 50, 3) := by decide +kernel
theorem dX6_init_70 : decode cX6_init 70 = .ok (.aload_n 0, 1) := by decide +kernel
theorem dX6_init_71 : decode cX6_init 71 = .ok (.iconst 0, 1) := by decide +kernel
theorem dX6_init_72 : decode cX6_init 72 = .ok (.putfield 53, 3) := by decide +kernel
theorem dX6_init_75 : decode cX6_init 75 = .ok (.aload_n 0, 1) := by decide +kernel
theorem dX6_init_76 : decode cX6_init 76 = .ok (.iconst 0, 1) := by decide +kernel
theorem dX6_init_77 : decode cX6_init 77 = .ok (.putfield 56, 3) := by decide +kernel
theorem dX6_init_80 : decode cX6_init 80 = .ok (.aload_n 0, 1) := by decide +kernel
theorem dX6_init_81 : decode cX6_init 81 = .ok (.iconst 0, 1) := by decide +kernel
theorem dX6_init_82 : decode cX6_init 82 = .ok (.putfield 59, 3) := by decide +kernel
theorem dX6_init_85 : decode cX6_init 85 = .ok (.return_, 1) := by decide +kernel
theorem dX6_copyFrom_0 : decode cX6_copyFrom 0 = .ok (.aload_n 0, 1) := by decide +kernel
theorem dX6_copyFrom_1 : decode cX6_copyFrom 1 = .ok (.getfield 12, 3) := by decide +kernel
theorem dX6_copyFrom_4 : decode cX6_copyFrom 4 = .ok (.aload_n 1, 1) := by decide +kernel
theorem dX6_copyFrom_5 : decode cX6_copyFrom 5 = .ok (.getfield 12, 3) := by decide +kernel
theorem dX6_copyFrom_8 : decode cX6_copyFrom 8 = .ok (.invokevirtual 62, 3) := by decide +kernel
theorem dX6_copyFrom_11 : decode cX6_copyFrom 11 = .ok (.aload_n 0, 1) := by decide +kernel
theorem dX6_copyFrom_12 : decode cX6_copyFrom 12 = .ok (.getfield 21, 3) := by decide +kernel
theorem dX6_copyFrom_15 : decode cX6_copyFrom 15 = .ok (.aload_n 1, 1) := by decide +kernel
theorem dX6_copyFrom_16 : decode cX6_copyFrom 16 = .ok (.getfield 21, 3) := by decide +kernel
theorem dX6_copyFrom_19 : decode cX6_copyFrom 19 = .ok (.invokevirtual 66, 3) := by decide +kernel
theorem dX6_copyFrom_22 : decode cX6_copyFrom 22 = .ok (.aload_n 0, 1) := by decide +kernel
theorem dX6_copyFrom_23 : decode cX6_copyFrom 23 = .ok (.getfield 28, 3) := by decide +kernel
theorem dX6_copyFrom_26 : decode cX6_copyFrom 26 = .ok (.aload_n 1, 1) := by decide +kernel
theorem dX6_copyFrom_27 : decode cX6_copyFrom 27 = .ok (.getfield 28, 3) := by decide +kernel
theorem dX6_copyFrom_30 : decode cX6_copyFrom 30 = .ok (.invokevirtual 69, 3) := by decide +kernel
theorem dX6_copyFrom_33 : decode cX6_copyFrom 33 = .ok (.aload_n 0, 1) := by decide +kernel
theorem dX6_copyFrom_34 : decode cX6_copyFrom 34 = .ok (.aload_n 1, 1) := by decide +kernel
theorem dX6_copyFrom_35 : decode cX6_copyFrom 35 = .ok (.getfield 32, 3) := by decide +kernel
theorem dX6_copyFrom_38 : decode cX6_copyFrom 38 = .ok (.putfield 32, 3) := by decide +kernel
theorem dX6_copyFrom_41 : decode cX6_copyFrom 41 = .ok (.aload_n 0, 1) := by decide +kernel
theorem dX6_copyFrom_42 : decode cX6_copyFrom 42 = .ok (.aload_n 1, 1) := by decide +kernel
theorem dX6_copyFrom_43 : decode cX6_copyFrom 43 = .ok (.getfield 37, 3) := by decide +kernel
theorem dX6_copyFrom_46 : decode cX6_copyFrom 46 = .ok (.putfield 37, 3) := by decide +kernel
theorem dX6_copyFrom_49 : decode cX6_copyFrom 49 = .ok (.aload_n 0, 1) := by decide +kernel
theorem dX6_copyFrom_50 : decode cX6_copyFrom 50 = .ok (.aload_n 1, 1) := by decide +kernel
theorem dX6_copyFrom_51 : decode cX6_copyFrom 51 = .ok (.getfield 40, 3) := by decide +kernel
theorem dX6_copyFrom_54 : decode cX6_copyFrom 54 = .ok (.putfield 40, 3) := by decide +kernel
theorem dX6_copyFrom_57 : decode cX6_copyFrom 57 = .ok (.aload_n 0, 1) := by decide +kernel
theorem dX6_copyFrom_58 : decode cX6_copyFrom 58 = .ok (.aload_n 1, 1) := by decide +kernel
theorem dX6_copyFrom_59 : decode cX6_copyFrom 59 = .ok (.getfield 44, 3) := by decide +kernel
theorem dX6_copyFrom_62 : decode cX6_copyFrom 62 = .ok (.putfield 44, 3) := by decide +kernel
theorem dX6_copyFrom_65 : decode cX6_copyFrom 65 = .ok (.aload_n 0, 1) := by decide +kernel
theorem dX6_copyFrom_66 : decode cX6_copyFrom 66 = .ok (.aload_n 1, 1) := by decide +kernel
theorem dX6_copyFrom_67 : decode cX6_copyFrom 67 = .ok (.getfield 47, 3) := by decide +kernel
theorem dX6_copyFrom_70 : decode cX6_copyFrom 70 = .ok (.putfield 47, 3) := by decide +kernel
theorem dX6_copyFrom_73 : decode cX6_copyFrom 73 = .ok (.aload_n 0, 1) := by decide +kernel
end
section
theorem dX6_copyFrom_74 : decode cX6_copyFrom 74 = .ok (.aload_n 1, 1) := by decide +kernel
theorem dX6_copyFrom_75 : decode cX6_copyFrom 75 = .ok (.getfield 50, 3) := by decide +kernel
theorem dX6_copyFrom_78 : decode cX6_copyFrom 78 = .ok (.putfield 50, 3) := by decide +kernel
theorem dX6_copyFrom_81 : decode cX6_copyFrom 81 = .ok (.aload_n 0, 1) := by decide +kernel
theorem dX6_copyFrom_82 : decode cX6_copyFrom 82 = .ok (.aload_n 1, 1) := by decide +kernel
theorem dX6_copyFrom_83 : decode cX6_copyFrom 83 = .ok (.getfield 53, 3) := by decide +kernel
theorem dX6_copyFrom_86 : decode cX6_copyFrom 86 = .ok (.putfield 53, 3) := by decide +kernel
theorem dX6_copyFrom_89 : decode cX6_copyFrom 89 = .ok (.aload_n 0, 1) := by decide +kernel
theorem dX6_copyFrom_90 : decode cX6_copyFrom 90 = .ok (.aload_n 1, 1) := by decide +kernel
theorem dX6_copyFrom_91 : decode cX6_copyFrom 91 = .ok (.getfield 56, 3) := by decide +kernel
theorem dX6_copyFrom_94 : decode cX6_copyFrom 94 = .ok (.putfield 56, 3) := by decide +kernel
theorem dX6_copyFrom_97 : decode cX6_copyFrom 97 = .ok (.aload_n 0, 1) := by decide +kernel
theorem dX6_copyFrom_98 : decode cX6_copyFrom 98 = .ok (.aload_n 1, 1) := by decide +kernel
theorem dX6_copyFrom_99 : decode cX6_copyFrom 99 = .ok (.getfield 59, 3) := by decide +kernel
theorem dX6_copyFrom_102 : decode cX6_copyFrom 102 = .ok (.putfield 59, 3) := by decide +kernel
theorem dX6_copyFrom_105 : decode cX6_copyFrom 105 = .ok (.return_, 1) := by decide +kernel
theorem dX6_isTakenOrAimedAt_0 : decode cX6_isTakenOrAimedAt 0 = .ok (.aload_n 0, 1) := by decide +kernel
theorem dX6_isTakenOrAimedAt_1 : decode cX6_isTakenOrAimedAt 1 = .ok (.getfield 21, 3) := by decide +kernel
theorem dX6_isTakenOrAimedAt_4 : decode cX6_isTakenOrAimedAt 4 = .ok (.aload_n 0, 1) := by decide +kernel
theorem dX6_isTakenOrAimedAt_5 : decode cX6_isTakenOrAimedAt 5 = .ok (.getfield 50, 3) := by decide +kernel
theorem dX6_isTakenOrAimedAt_8 : decode cX6_isTakenOrAimedAt 8 = .ok (.invokevirtual 72, 3) := by decide +kernel
theorem dX6_isTakenOrAimedAt_11 : decode cX6_isTakenOrAimedAt 11 = .ok (.astore_n 2, 1) := by decide +kernel
theorem dX6_isTakenOrAimedAt_12 : decode cX6_isTakenOrAimedAt 12 = .ok (.aload_n 2, 1) := by decide +kernel
theorem dX6_isTakenOrAimedAt_13 : decode cX6_isTakenOrAimedAt 13 = .ok (.ifnull 23, 3) := by decide +kernel
theorem dX6_isTakenOrAimedAt_16 : decode cX6_isTakenOrAimedAt 16 = .ok (.aload_n 2, 1) := by decide +kernel
theorem dX6_isTakenOrAimedAt_17 : decode cX6_isTakenOrAimedAt 17 = .ok (.getfield 76, 3) := by decide +kernel
theorem dX6_isTakenOrAimedAt_20 : decode cX6_isTakenOrAimedAt 20 = .ok (.iconst 2, 1) := by decide +kernel
theorem dX6_isTakenOrAimedAt_21 : decode cX6_isTakenOrAimedAt 21 = .ok (.if_icmp .ne 15, 3) := by decide +kernel
theorem dX6_isTakenOrAimedAt_24 : decode cX6_isTakenOrAimedAt 24 = .ok (.aload_n 2, 1) := by decide +kernel
theorem dX6_isTakenOrAimedAt_25 : decode cX6_isTakenOrAimedAt 25 = .ok (.getfield 81, 3) := by decide +kernel
theorem dX6_isTakenOrAimedAt_28 : decode cX6_isTakenOrAimedAt 28 = .ok (.iload_n 1, 1) := by decide +kernel
theorem dX6_isTakenOrAimedAt_29 : decode cX6_isTakenOrAimedAt 29 = .ok (.if_icmp .ne 7, 3) := by decide +kernel
theorem dX6_isTakenOrAimedAt_32 : decode cX6_isTakenOrAimedAt 32 = .ok (.iconst 1, 1) := by decide +kernel
theorem dX6_isTakenOrAimedAt_33 : decode cX6_isTakenOrAimedAt 33 = .ok (.goto 4, 3) := by decide +kernel
theorem dX6_isTakenOrAimedAt_36 : decode cX6_isTakenOrAimedAt 36 = .ok (.iconst 0, 1) := by decide +kernel
theorem dX6_isTakenOrAimedAt_37 : decode cX6_isTakenOrAimedAt 37 = .ok (.istore_n 3, 1) := by decide +kernel
theorem dX6_isTakenOrAimedAt_38 : decode cX6_isTakenOrAimedAt 38 = .ok (.iload_n 3, 1) := by decide +kernel
theorem dX6_isTakenOrAimedAt_39 : decode cX6_isTakenOrAimedAt 39 = .ok (.ifCond .ne 16, 3) := by decide +kernel
theorem dX6_isTakenOrAimedAt_42 : decode cX6_isTakenOrAimedAt 42 = .ok (.aload_n 0, 1) := by decide +kernel
theorem dX6_isTakenOrAimedAt_43 : decode cX6_isTakenOrAimedAt 43 = .ok (.getfield 12, 3) := by decide +kernel
theorem dX6_isTakenOrAimedAt_46 : decode cX6_isTakenOrAimedAt 46 = .ok (.iload_n 1, 1) := by decide +kernel
theorem dX6_isTakenOrAimedAt_47 : decode cX6_isTakenOrAimedAt 47 = .ok (.invokevirtual 84, 3) := by decide +kernel
theorem dX6_isTakenOrAimedAt_50 : decode cX6_isTakenOrAimedAt 50 = .ok (.bipush (-5), 2) := by decide +kernel
theorem dX6_isTakenOrAimedAt_52 : decode cX6_isTakenOrAimedAt 52 = .ok (.if_icmp .eq 7, 3) := by decide +kernel
theorem dX6_isTakenOrAimedAt_55 : decode cX6_isTakenOrAimedAt 55 = .ok (.iconst 1, 1) := by decide +kernel
theorem dX6_isTakenOrAimedAt_56 : decode cX6_isTakenOrAimedAt 56 = .ok (.goto 4, 3) := by decide +kernel
theorem dX6_isTakenOrAimedAt_59 : decode cX6_isTakenOrAimedAt 59 = .ok (.iconst 0, 1) := by decide +kernel
theorem dX6_isTakenOrAimedAt_60 : decode cX6_isTakenOrAimedAt 60 = .ok (.ireturn, 1) := by decide +kernel
theorem dX6_faultOfJob_0 : decode cX6_faultOfJob 0 = .ok (.iload_n 1, 1) := by decide +kernel
theorem dX6_faultOfJob_1 : decode cX6_faultOfJob 1 = .ok (.iconst 1, 1) := by decide +kernel
theorem dX6_faultOfJob_2 : decode cX6_faultOfJob 2 = .ok (.if_icmp .ne 21, 3) := by decide +kernel
theorem dX6_faultOfJob_5 : decode cX6_faultOfJob 5 = .ok (.aload_n 0, 1) := by decide +kernel
theorem dX6_faultOfJob_6 : decode cX6_faultOfJob 6 = .ok (.getfield 12, 3) := by decide +kernel
theorem dX6_faultOfJob_9 : decode cX6_faultOfJob 9 = .ok (.iload_n 2, 1) := by decide +kernel
theorem dX6_faultOfJob_10 : decode cX6_faultOfJob 10 = .ok (.invokevirtual 88, 3) := by decide +kernel
theorem dX6_faultOfJob_13 : decode cX6_faultOfJob 13 = .ok (.ifnonnull 7, 3) := by decide +kernel
theorem dX6_faultOfJob_16 : decode cX6_faultOfJob 16 = .ok (.iconst (-1), 1) := by decide +kernel
theorem dX6_faultOfJob_17 : decode cX6_faultOfJob 17 = .ok (.goto 5, 3) := by decide +kernel
theorem dX6_faultOfJob_20 : decode cX6_faultOfJob 20 = .ok (.bipush (-5), 2) := by decide +kernel
theorem dX6_faultOfJob_22 : decode cX6_faultOfJob 22 = .ok (.ireturn, 1) := by decide +kernel
theorem dX6_faultOfJob_23 : decode cX6_faultOfJob 23 = .ok (.aload_n 0, 1) := by decide +kernel
theorem dX6_faultOfJob_24 : decode cX6_faultOfJob 24 = .ok (.getfield 12, 3) := by decide +kernel
theorem dX6_faultOfJob_27 : decode cX6_faultOfJob 27 = .ok (.iload_n 2, 1) := by decide +kernel
theorem dX6_faultOfJob_28 : decode cX6_faultOfJob 28 = .ok (.invokevirtual 92, 3) := by decide +kernel
theorem dX6_faultOfJob_31 : decode cX6_faultOfJob 31 = .ok (.astore 4, 2) := by decide +kernel
theorem dX6_faultOfJob_33 : decode cX6_faultOfJob 33 = .ok (.aload 4, 2) := by decide +kernel
theorem dX6_faultOfJob_35 : decode cX6_faultOfJob 35 = .ok (.ifnull 15, 3) := by decide +kernel
theorem dX6_faultOfJob_38 : decode cX6_faultOfJob 38 = .ok (.iload_n 1, 1) := by decide +kernel
theorem dX6_faultOfJob_39 : decode cX6_faultOfJob 39 = .ok (.iconst 2, 1) := by decide +kernel
theorem dX6_faultOfJob_40 : decode cX6_faultOfJob 40 = .ok (.if_icmp .ne 12, 3) := by decide +kernel
theorem dX6_faultOfJob_43 : decode cX6_faultOfJob 43 = .ok (.iload_n 3, 1) := by decide +kernel
theorem dX6_faultOfJob_44 : decode cX6_faultOfJob 44 = .ok (.invokestatic 96, 3) := by decide +kernel
theorem dX6_faultOfJob_47 : decode cX6_faultOfJob 47 = .ok (.ifCond .ne 5, 3) := by decide +kernel
theorem dX6_faultOfJob_50 : decode cX6_faultOfJob 50 = .ok (.iconst (-1), 1) := by decide +kernel
theorem dX6_faultOfJob_51 : decode cX6_faultOfJob 51 = .ok (.ireturn, 1) := by decide +kernel
theorem dX6_faultOfJob_52 : decode cX6_faultOfJob 52 = .ok (.iload_n 1, 1) := by decide +kernel
theorem dX6_faultOfJob_53 : decode cX6_faultOfJob 53 = .ok (.ifCond .ne 16, 3) := by decide +kernel
theorem dX6_faultOfJob_56 : decode cX6_faultOfJob 56 = .ok (.aload 4, 2) := by decide +kernel
theorem dX6_faultOfJob_58 : decode cX6_faultOfJob 58 = .ok (.getfield 100, 3) := by decide +kernel
theorem dX6_faultOfJob_61 : decode cX6_faultOfJob 61 = .ok (.ifCond .eq 8, 3) := by decide +kernel
theorem dX6_faultOfJob_64 : decode cX6_faultOfJob 64 = .ok (.bipush (-4), 2) := by decide +kernel
theorem dX6_faultOfJob_66 : decode cX6_faultOfJob 66 = .ok (.goto 5, 3) := by decide +kernel
theorem dX6_faultOfJob_69 : decode cX6_faultOfJob 69 = .ok (.bipush (-5), 2) := by decide +kernel
theorem dX6_faultOfJob_71 : decode cX6_faultOfJob 71 = .ok (.ireturn, 1) := by decide +kernel
theorem dX6_jobToBegin_0 : decode cX6_jobToBegin 0 = .ok (.bipush (-5), 2) := by decide +kernel
theorem dX6_jobToBegin_2 : decode cX6_jobToBegin 2 = .ok (.istore_n 1, 1) := by decide +kernel
theorem dX6_jobToBegin_3 : decode cX6_jobToBegin 3 = .ok (.iconst 4, 1) := by decide +kernel
theorem dX6_jobToBegin_4 : decode cX6_jobToBegin 4 = .ok (.istore_n 2, 1) := by decide +kernel
theorem dX6_jobToBegin_5 : decode cX6_jobToBegin 5 = .ok (.iconst 0, 1) := by decide +kernel
theorem dX6_jobToBegin_6 : decode cX6_jobToBegin 6 = .ok (.istore_n 3, 1) := by decide +kernel
theorem dX6_jobToBegin_7 : decode cX6_jobToBegin 7 = .ok (.iload_n 3, 1) := by decide +kernel
theorem dX6_jobToBegin_8 : decode cX6_jobToBegin 8 = .ok (.aload_n 0, 1) := by decide +kernel
theorem dX6_jobToBegin_9 : decode cX6_jobToBegin 9 = .ok (.getfield 21, 3) := by decide +kernel
theorem dX6_jobToBegin_12 : decode cX6_jobToBegin 12 = .ok (.getfield 106, 3) := by decide +kernel
theorem dX6_jobToBegin_15 : decode cX6_jobToBegin 15 = .ok (.if_icmp .ge 68, 3) := by decide +kernel
theorem dX6_jobToBegin_18 : decode cX6_jobToBegin 18 = .ok (.aload_n 0, 1) := by decide +kernel
theorem dX6_jobToBegin_19 : decode cX6_jobToBegin 19 = .ok (.getfield 21, 3) := by decide +kernel
theorem dX6_jobToBegin_22 : decode cX6_jobToBegin 22 = .ok (.getfield 109, 3) := by decide +kernel
theorem dX6_jobToBegin_25 : decode cX6_jobToBegin 25 = .ok (.iload_n 3, 1) := by decide +kernel
theorem dX6_jobToBegin_26 : decode cX6_jobToBegin 26 = .ok (.aaload, 1) := by decide +kernel
theorem dX6_jobToBegin_27 : decode cX6_jobToBegin 27 = .ok (.astore 4, 2) := by decide +kernel
theorem dX6_jobToBegin_29 : decode cX6_jobToBegin 29 = .ok (.aload 4, 2) := by decide +kernel
theorem dX6_jobToBegin_31 : decode cX6_jobToBegin 31 = .ok (.getfield 113, 3) := by decide +kernel
theorem dX6_jobToBegin_34 : decode cX6_jobToBegin 34 = .ok (.ifCond .ne 43, 3) := by decide +kernel
theorem dX6_jobToBegin_37 : decode cX6_jobToBegin 37 = .ok (.aload 4, 2) := by decide +kernel
theorem dX6_jobToBegin_39 : decode cX6_jobToBegin 39 = .ok (.getfield 120, 3) := by decide +kernel
theorem dX6_jobToBegin_42 : decode cX6_jobToBegin 42 = .ok (.aload_n 0, 1) := by decide +kernel
theorem dX6_jobToBegin_43 : decode cX6_jobToBegin 43 = .ok (.getfield 40, 3) := by decide +kernel
theorem dX6_jobToBegin_46 : decode cX6_jobToBegin 46 = .ok (.if_icmp .gt 31, 3) := by decide +kernel
theorem dX6_jobToBegin_49 : decode cX6_jobToBegin 49 = .ok (.aload_n 0, 1) := by decide +kernel
theorem dX6_jobToBegin_50 : decode cX6_jobToBegin 50 = .ok (.aload 4, 2) := by decide +kernel
theorem dX6_jobToBegin_52 : decode cX6_jobToBegin 52 = .ok (.invokevirtual 116, 3) := by decide +kernel
theorem dX6_jobToBegin_55 : decode cX6_jobToBegin 55 = .ok (.istore 5, 2) := by decide +kernel
theorem dX6_jobToBegin_57 : decode cX6_jobToBegin 57 = .ok (.iload 5, 2) := by decide +kernel
theorem dX6_jobToBegin_59 : decode cX6_jobToBegin 59 = .ok (.iload_n 2, 1) := by decide +kernel
theorem dX6_jobToBegin_60 : decode cX6_jobToBegin 60 = .ok (.if_icmp .ge 17, 3) := by decide +kernel
theorem dX6_jobToBegin_63 : decode cX6_jobToBegin 63 = .ok (.aload_n 0, 1) := by decide +kernel
theorem dX6_jobToBegin_64 : decode cX6_jobToBegin 64 = .ok (.aload 4, 2) := by decide +kernel
theorem dX6_jobToBegin_66 : decode cX6_jobToBegin 66 = .ok (.invokevirtual 123, 3) := by decide +kernel
theorem dX6_jobToBegin_69 : decode cX6_jobToBegin 69 = .ok (.ifCond .eq 8, 3) := by decide +kernel
theorem dX6_jobToBegin_72 : decode cX6_jobToBegin 72 = .ok (.iload_n 3, 1) := by decide +kernel
theorem dX6_jobToBegin_73 : decode cX6_jobToBegin 73 = .ok (.istore_n 1, 1) := by decide +kernel
theorem dX6_jobToBegin_74 : decode cX6_jobToBegin 74 = .ok (.iload 5, 2) := by decide +kernel
theorem dX6_jobToBegin_76 : decode cX6_jobToBegin 76 = .ok (.istore_n 2, 1) := by decide +kernel
theorem dX6_jobToBegin_77 : decode cX6_jobToBegin 77 = .ok (.iinc 3 1, 3) := by decide +kernel
theorem dX6_jobToBegin_80 : decode cX6_jobToBegin 80 = .ok (.goto (-73), 3) := by decide +kernel
theorem dX6_jobToBegin_83 : decode cX6_jobToBegin 83 = .ok (.iload_n 1, 1) := by decide +kernel
theorem dX6_jobToBegin_84 : decode cX6_jobToBegin 84 = .ok (.ireturn, 1) := by decide +kernel
theorem dX6_groupOf_0 : decode cX6_groupOf 0 = .ok (.aload_n 1, 1) := by decide +kernel
theorem dX6_groupOf_1 : decode cX6_groupOf 1 = .ok (.getfield 76, 3) := by decide +kernel
theorem dX6_groupOf_4 : decode cX6_groupOf 4 = .ok (.iconst 1, 1) := by decide +kernel
theorem dX6_groupOf_5 : decode cX6_groupOf 5 = .ok (.if_icmp .ne 17, 3) := by decide +kernel
theorem dX6_groupOf_8 : decode cX6_groupOf 8 = .ok (.aload_n 0, 1) := by decide +kernel
theorem dX6_groupOf_9 : decode cX6_groupOf 9 = .ok (.getfield 12, 3) := by decide +kernel
theorem dX6_groupOf_12 : decode cX6_groupOf 12 = .ok (.aload_n 1, 1) := by decide +kernel
theorem dX6_groupOf_13 : decode cX6_groupOf 13 = .ok (.getfield 127, 3) := by decide +kernel
theorem dX6_groupOf_16 : decode cX6_groupOf 16 = .ok (.invokevirtual 88, 3) := by decide +kernel
theorem dX6_groupOf_19 : decode cX6_groupOf 19 = .ok (.goto 4, 3) := by decide +kernel
theorem dX6_groupOf_22 : decode cX6_groupOf 22 = .ok (.aconst_null, 1) := by decide +kernel
theorem dX6_groupOf_23 : decode cX6_groupOf 23 = .ok (.astore_n 2, 1) := by decide +kernel
theorem dX6_groupOf_24 : decode cX6_groupOf 24 = .ok (.aload_n 2, 1) := by decide +kernel
theorem dX6_groupOf_25 : decode cX6_groupOf 25 = .ok (.ifnull 14, 3) := by decide +kernel
theorem dX6_groupOf_28 : decode cX6_groupOf 28 = .ok (.aload_n 2, 1) := by decide +kernel
theorem dX6_groupOf_29 : decode cX6_groupOf 29 = .ok (.invokevirtual 130, 3) := by decide +kernel
theorem dX6_groupOf_32 : decode cX6_groupOf 32 = .ok (.ifCond .eq 7, 3) := by decide +kernel
theorem dX6_groupOf_35 : decode cX6_groupOf 35 = .ok (.iconst 0, 1) := by decide +kernel
theorem dX6_groupOf_36 : decode cX6_groupOf 36 = .ok (.goto 16, 3) := by decide +kernel
theorem dX6_groupOf_39 : decode cX6_groupOf 39 = .ok (.iconst 1, 1) := by decide +kernel
theorem dX6_groupOf_40 : decode cX6_groupOf 40 = .ok (.aload_n 0, 1) := by decide +kernel
theorem dX6_groupOf_41 : decode cX6_groupOf 41 = .ok (.getfield 21, 3) := by decide +kernel
theorem dX6_groupOf_44 : decode cX6_groupOf 44 = .ok (.aload_n 1, 1) := by decide +kernel
theorem dX6_groupOf_45 : decode cX6_groupOf 45 = .ok (.getfield 76, 3) := by decide +kernel
theorem dX6_groupOf_48 : decode cX6_groupOf 48 = .ok (.invokevirtual 136, 3) := by decide +kernel
theorem dX6_groupOf_51 : decode cX6_groupOf 51 = .ok (.iadd, 1) := by decide +kernel
theorem dX6_groupOf_52 : decode cX6_groupOf 52 = .ok (.ireturn, 1) := by decide +kernel
theorem dX6_canBegin_0 : decode cX6_canBegin 0 = .ok (.aload_n 1, 1) := by decide +kernel
theorem dX6_canBegin_1 : decode cX6_canBegin 1 = .ok (.getfield 76, 3) := by decide +kernel
theorem dX6_canBegin_4 : decode cX6_canBegin 4 = .ok (.lookupswitch 68 #[(0, 28), (1, 46)], 28) := by decide +kernel
theorem dX6_canBegin_32 : decode cX6_canBegin 32 = .ok (.aload_n 0, 1) := by decide +kernel
theorem dX6_canBegin_33 : decode cX6_canBegin 33 = .ok (.getfield 12, 3) := by decide +kernel
theorem dX6_canBegin_36 : decode cX6_canBegin 36 = .ok (.invokevirtual 139, 3) := by decide +kernel
theorem dX6_canBegin_39 : decode cX6_canBegin 39 = .ok (.bipush (-5), 2) := by decide +kernel
theorem dX6_canBegin_41 : decode cX6_canBegin 41 = .ok (.if_icmp .eq 7, 3) := by decide +kernel
theorem dX6_canBegin_44 : decode cX6_canBegin 44 = .ok (.iconst 1, 1) := by decide +kernel
theorem dX6_canBegin_45 : decode cX6_canBegin 45 = .ok (.goto 4, 3) := by decide +kernel
theorem dX6_canBegin_48 : decode cX6_canBegin 48 = .ok (.iconst 0, 1) := by decide +kernel
theorem dX6_canBegin_49 : decode cX6_canBegin 49 = .ok (.ireturn, 1) := by decide +kernel
theorem dX6_canBegin_50 : decode cX6_canBegin 50 = .ok (.aload_n 0, 1) := by decide +kernel
theorem dX6_canBegin_51 : decode cX6_canBegin 51 = .ok (.getfield 12, 3) := by decide +kernel
theorem dX6_canBegin_54 : decode cX6_canBegin 54 = .ok (.aload_n 0, 1) := by decide +kernel
theorem dX6_canBegin_55 : decode cX6_canBegin 55 = .ok (.getfield 44, 3) := by decide +kernel
theorem dX6_canBegin_58 : decode cX6_canBegin 58 = .ok (.invokevirtual 143, 3) := by decide +kernel
theorem dX6_canBegin_61 : decode cX6_canBegin 61 = .ok (.bipush (-5), 2) := by decide +kernel
theorem dX6_canBegin_63 : decode cX6_canBegin 63 = .ok (.if_icmp .eq 7, 3) := by decide +kernel
theorem dX6_canBegin_66 : decode cX6_canBegin 66 = .ok (.iconst 1, 1) := by decide +kernel
theorem dX6_canBegin_67 : decode cX6_canBegin 67 = .ok (.goto 4, 3) := by decide +kernel
theorem dX6_canBegin_70 : decode cX6_canBegin 70 = .ok (.iconst 0, 1) := by decide +kernel
theorem dX6_canBegin_71 : decode cX6_canBegin 71 = .ok (.ireturn, 1) := by decide +kernel
theorem dX6_canBegin_72 : decode cX6_canBegin 72 = .ok (.aload_n 0, 1) := by decide +kernel
theorem dX6_canBegin_73 : decode cX6_canBegin 73 = .ok (.getfield 12, 3) := by decide +kernel
theorem dX6_canBegin_76 : decode cX6_canBegin 76 = .ok (.aload_n 1, 1) := by decide +kernel
theorem dX6_canBegin_77 : decode cX6_canBegin 77 = .ok (.getfield 81, 3) := by decide +kernel
theorem dX6_canBegin_80 : decode cX6_canBegin 80 = .ok (.invokevirtual 84, 3) := by decide +kernel
theorem dX6_canBegin_83 : decode cX6_canBegin 83 = .ok (.istore_n 2, 1) := by decide +kernel
theorem dX6_canBegin_84 : decode cX6_canBegin 84 = .ok (.iload_n 2, 1) := by decide +kernel
theorem dX6_canBegin_85 : decode cX6_canBegin 85 = .ok (.bipush (-5), 2) := by decide +kernel
theorem dX6_canBegin_87 : decode cX6_canBegin 87 = .ok (.if_icmp .eq 11, 3) := by decide +kernel
theorem dX6_canBegin_90 : decode cX6_canBegin 90 = .ok (.iload_n 2, 1) := by decide +kernel
theorem dX6_canBegin_91 : decode cX6_canBegin 91 = .ok (.aload_n 1, 1) := by decide +kernel
theorem dX6_canBegin_92 : decode cX6_canBegin 92 = .ok (.getfield 127, 3) := by decide +kernel
theorem dX6_canBegin_95 : decode cX6_canBegin 95 = .ok (.if_icmp .ne 7, 3) := by decide +kernel
theorem dX6_canBegin_98 : decode cX6_canBegin 98 = .ok (.iconst 1, 1) := by decide +kernel
theorem dX6_canBegin_99 : decode cX6_canBegin 99 = .ok (.goto 4, 3) := by decide +kernel
theorem dX6_canBegin_102 : decode cX6_canBegin 102 = .ok (.iconst 0, 1) := by decide +kernel
theorem dX6_canBegin_103 : decode cX6_canBegin 103 = .ok (.ireturn, 1) := by decide +kernel
theorem dX6_isAllowed_0 : decode cX6_isAllowed 0 = .ok (.fload_n 2, 1) := by decide +kernel
theorem dX6_isAllowed_1 : decode cX6_isAllowed 1 = .ok (.fconst 0, 1) := by decide +kernel
theorem dX6_isAllowed_2 : decode cX6_isAllowed 2 = .ok (.fcmp .l, 1) := by decide +kernel
theorem dX6_isAllowed_3 : decode cX6_isAllowed 3 = .ok (.ifCond .eq 14, 3) := by decide +kernel
theorem dX6_isAllowed_6 : decode cX6_isAllowed 6 = .ok (.fload_n 1, 1) := by decide +kernel
theorem dX6_isAllowed_7 : decode cX6_isAllowed 7 = .ok (.fload_n 2, 1) := by decide +kernel
theorem dX6_isAllowed_8 : decode cX6_isAllowed 8 = .ok (.fadd, 1) := by decide +kernel
theorem dX6_isAllowed_9 : decode cX6_isAllowed 9 = .ok (.aload_n 0, 1) := by decide +kernel
theorem dX6_isAllowed_10 : decode cX6_isAllowed 10 = .ok (.getfield 37, 3) := by decide +kernel
theorem dX6_isAllowed_13 : decode cX6_isAllowed 13 = .ok (.fcmp .g, 1) := by decide +kernel
theorem dX6_isAllowed_14 : decode cX6_isAllowed 14 = .ok (.ifCond .gt 7, 3) := by decide +kernel
theorem dX6_isAllowed_17 : decode cX6_isAllowed 17 = .ok (.iconst 1, 1) := by decide +kernel
theorem dX6_isAllowed_18 : decode cX6_isAllowed 18 = .ok (.goto 4, 3) := by decide +kernel
theorem dX6_isAllowed_21 : decode cX6_isAllowed 21 = .ok (.iconst 0, 1) := by decide +kernel
theorem dX6_isAllowed_22 : decode cX6_isAllowed 22 = .ok (.ireturn, 1) := by decide +kernel
theorem dX6_costTo_0 : decode cX6_costTo 0 = .ok (.aload_n 0, 1) := by decide +kernel
theorem dX6_costTo_1 : decode cX6_costTo 1 = .ok (.getfield 12, 3) := by decide +kernel
theorem dX6_costTo_4 : decode cX6_costTo 4 = .ok (.aload_n 0, 1) := by decide +kernel
theorem dX6_costTo_5 : decode cX6_costTo 5 = .ok (.getfield 47, 3) := by decide +kernel
theorem dX6_costTo_8 : decode cX6_costTo 8 = .ok (.invokevirtual 92, 3) := by decide +kernel
theorem dX6_costTo_11 : decode cX6_costTo 11 = .ok (.astore_n 2, 1) := by decide +kernel
theorem dX6_costTo_12 : decode cX6_costTo 12 = .ok (.aload_n 2, 1) := by decide +kernel
theorem dX6_costTo_13 : decode cX6_costTo 13 = .ok (.ifnonnull 8, 3) := by decide +kernel
theorem dX6_costTo_16 : decode cX6_costTo 16 = .ok (.ldc 155, 2) := by decide +kernel
theorem dX6_costTo_18 : decode cX6_costTo 18 = .ok (.goto 16, 3) := by decide +kernel
theorem dX6_costTo_21 : decode cX6_costTo 21 = .ok (.aload_n 2, 1) := by decide +kernel
theorem dX6_costTo_22 : decode cX6_costTo 22 = .ok (.getfield 100, 3) := by decide +kernel
theorem dX6_costTo_25 : decode cX6_costTo 25 = .ok (.ifCond .eq 8, 3) := by decide +kernel
theorem dX6_costTo_28 : decode cX6_costTo 28 = .ok (.ldc 156, 2) := by decide +kernel
theorem dX6_costTo_30 : decode cX6_costTo 30 = .ok (.goto 4, 3) := by decide +kernel
theorem dX6_costTo_33 : decode cX6_costTo 33 = .ok (.fconst 1, 1) := by decide +kernel
theorem dX6_costTo_34 : decode cX6_costTo 34 = .ok (.fstore_n 3, 1) := by decide +kernel
theorem dX6_costTo_35 : decode cX6_costTo 35 = .ok (.iload_n 1, 1) := by decide +kernel
theorem dX6_costTo_36 : decode cX6_costTo 36 = .ok (.aload_n 0, 1) := by decide +kernel
theorem dX6_costTo_37 : decode cX6_costTo 37 = .ok (.getfield 44, 3) := by decide +kernel
theorem dX6_costTo_40 : decode cX6_costTo 40 = .ok (.isub, 1) := by decide +kernel
theorem dX6_costTo_41 : decode cX6_costTo 41 = .ok (.invokestatic 157, 3) := by decide +kernel
theorem dX6_costTo_44 : decode cX6_costTo 44 = .ok (.i2f, 1) := by decide +kernel
theorem dX6_costTo_45 : decode cX6_costTo 45 = .ok (.fload_n 3, 1) := by decide +kernel
theorem dX6_costTo_46 : decode cX6_costTo 46 = .ok (.fmul, 1) := by decide +kernel
theorem dX6_costTo_47 : decode cX6_costTo 47 = .ok (.freturn, 1) := by decide +kernel
theorem dX6_passOneTick_0 : decode cX6_passOneTick 0 = .ok (.aload_n 0, 1) := by decide +kernel
theorem dX6_passOneTick_1 : decode cX6_passOneTick 1 = .ok (.getfield 50, 3) := by decide +kernel
theorem dX6_passOneTick_4 : decode cX6_passOneTick 4 = .ok (.bipush (-5), 2) := by decide +kernel
theorem dX6_passOneTick_6 : decode cX6_passOneTick 6 = .ok (.if_icmp .ne 7, 3) := by decide +kernel
theorem dX6_passOneTick_9 : decode cX6_passOneTick 9 = .ok (.aload_n 0, 1) := by decide +kernel
theorem dX6_passOneTick_10 : decode cX6_passOneTick 10 = .ok (.invokevirtual 162, 3) := by decide +kernel
theorem dX6_passOneTick_13 : decode cX6_passOneTick 13 = .ok (.iconst 0, 1) := by decide +kernel
theorem dX6_passOneTick_14 : decode cX6_passOneTick 14 = .ok (.istore_n 1, 1) := by decide +kernel
theorem dX6_passOneTick_15 : decode cX6_passOneTick 15 = .ok (.aload_n 0, 1) := by decide +kernel
theorem dX6_passOneTick_16 : decode cX6_passOneTick 16 = .ok (.getfield 21, 3) := by decide +kernel
theorem dX6_passOneTick_19 : decode cX6_passOneTick 19 = .ok (.aload_n 0, 1) := by decide +kernel
theorem dX6_passOneTick_20 : decode cX6_passOneTick 20 = .ok (.getfield 50, 3) := by decide +kernel
theorem dX6_passOneTick_23 : decode cX6_passOneTick 23 = .ok (.invokevirtual 72, 3) := by decide +kernel
theorem dX6_passOneTick_26 : decode cX6_passOneTick 26 = .ok (.astore_n 2, 1) := by decide +kernel
theorem dX6_passOneTick_27 : decode cX6_passOneTick 27 = .ok (.aload_n 2, 1) := by decide +kernel
theorem dX6_passOneTick_28 : decode cX6_passOneTick 28 = .ok (.ifnonnull 16, 3) := by decide +kernel
theorem dX6_passOneTick_31 : decode cX6_passOneTick 31 = .ok (.aload_n 0, 1) := by decide +kernel
theorem dX6_passOneTick_32 : decode cX6_passOneTick 32 = .ok (.dup, 1) := by decide +kernel
theorem dX6_passOneTick_33 : decode cX6_passOneTick 33 = .ok (.getfield 59, 3) := by decide +kernel
theorem dX6_passOneTick_36 : decode cX6_passOneTick 36 = .ok (.iconst 1, 1) := by decide +kernel
theorem dX6_passOneTick_37 : decode cX6_passOneTick 37 = .ok (.iadd, 1) := by decide +kernel
theorem dX6_passOneTick_38 : decode cX6_passOneTick 38 = .ok (.putfield 59, 3) := by decide +kernel
theorem dX6_passOneTick_41 : decode cX6_passOneTick 41 = .ok (.goto 17, 3) := by decide +kernel
theorem dX6_passOneTick_44 : decode cX6_passOneTick 44 = .ok (.aload_n 0, 1) := by decide +kernel
theorem dX6_passOneTick_45 : decode cX6_passOneTick 45 = .ok (.aload_n 2, 1) := by decide +kernel
theorem dX6_passOneTick_46 : decode cX6_passOneTick 46 = .ok (.invokevirtual 165, 3) := by decide +kernel
theorem dX6_passOneTick_49 : decode cX6_passOneTick 49 = .ok (.ifCond .eq 9, 3) := by decide +kernel
theorem dX6_passOneTick_52 : decode cX6_passOneTick 52 = .ok (.aload_n 0, 1) := by decide +kernel
theorem dX6_passOneTick_53 : decode cX6_passOneTick 53 = .ok (.aload_n 2, 1) := by decide +kernel
theorem dX6_passOneTick_54 : decode cX6_passOneTick 54 = .ok (.invokevirtual 168, 3) := by decide +kernel
theorem dX6_passOneTick_57 : decode cX6_passOneTick 57 = .ok (.istore_n 1, 1) := by decide +kernel
theorem dX6_passOneTick_58 : decode cX6_passOneTick 58 = .ok (.aload_n 0, 1) := by decide +kernel
theorem dX6_passOneTick_59 : decode cX6_passOneTick 59 = .ok (.aload_n 0, 1) := by decide +kernel
theorem dX6_passOneTick_60 : decode cX6_passOneTick 60 = .ok (.getfield 32, 3) := by decide +kernel
theorem dX6_passOneTick_63 : decode cX6_passOneTick 63 = .ok (.ldc 154, 2) := by decide +kernel
theorem dX6_passOneTick_65 : decode cX6_passOneTick 65 = .ok (.fmul, 1) := by decide +kernel
theorem dX6_passOneTick_66 : decode cX6_passOneTick 66 = .ok (.putfield 32, 3) := by decide +kernel
theorem dX6_passOneTick_69 : decode cX6_passOneTick 69 = .ok (.aload_n 0, 1) := by decide +kernel
theorem dX6_passOneTick_70 : decode cX6_passOneTick 70 = .ok (.dup, 1) := by decide +kernel
theorem dX6_passOneTick_71 : decode cX6_passOneTick 71 = .ok (.getfield 40, 3) := by decide +kernel
theorem dX6_passOneTick_74 : decode cX6_passOneTick 74 = .ok (.iconst 1, 1) := by decide +kernel
theorem dX6_passOneTick_75 : decode cX6_passOneTick 75 = .ok (.iadd, 1) := by decide +kernel
theorem dX6_passOneTick_76 : decode cX6_passOneTick 76 = .ok (.putfield 40, 3) := by decide +kernel
theorem dX6_passOneTick_79 : decode cX6_passOneTick 79 = .ok (.iload_n 1, 1) := by decide +kernel
theorem dX6_passOneTick_80 : decode cX6_passOneTick 80 = .ok (.ireturn, 1) := by decide +kernel
theorem dX6_beginJob_0 : decode cX6_beginJob 0 = .ok (.aload_n 0, 1) := by decide +kernel
theorem dX6_beginJob_1 : decode cX6_beginJob 1 = .ok (.invokevirtual 171, 3) := by decide +kernel
theorem dX6_beginJob_4 : decode cX6_beginJob 4 = .ok (.istore_n 1, 1) := by decide +kernel
theorem dX6_beginJob_5 : decode cX6_beginJob 5 = .ok (.aload_n 0, 1) := by decide +kernel
theorem dX6_beginJob_6 : decode cX6_beginJob 6 = .ok (.getfield 21, 3) := by decide +kernel
theorem dX6_beginJob_9 : decode cX6_beginJob 9 = .ok (.iload_n 1, 1) := by decide +kernel
theorem dX6_beginJob_10 : decode cX6_beginJob 10 = .ok (.invokevirtual 72, 3) := by decide +kernel
theorem dX6_beginJob_13 : decode cX6_beginJob 13 = .ok (.astore_n 2, 1) := by decide +kernel
theorem dX6_beginJob_14 : decode cX6_beginJob 14 = .ok (.aload_n 2, 1) := by decide +kernel
theorem dX6_beginJob_15 : decode cX6_beginJob 15 = .ok (.ifnonnull 4, 3) := by decide +kernel
theorem dX6_beginJob_18 : decode cX6_beginJob 18 = .ok (.return_, 1) := by decide +kernel
theorem dX6_beginJob_19 : decode cX6_beginJob 19 = .ok (.aload_n 2, 1) := by decide +kernel
theorem dX6_beginJob_20 : decode cX6_beginJob 20 = .ok (.iconst 1, 1) := by decide +kernel
theorem dX6_beginJob_21 : decode cX6_beginJob 21 = .ok (.putfield 113, 3) := by decide +kernel
theorem dX6_beginJob_24 : decode cX6_beginJob 24 = .ok (.aload_n 2, 1) := by decide +kernel
theorem dX6_beginJob_25 : decode cX6_beginJob 25 = .ok (.aload_n 0, 1) := by decide +kernel
theorem dX6_beginJob_26 : decode cX6_beginJob 26 = .ok (.getfield 40, 3) := by decide +kernel
theorem dX6_beginJob_29 : decode cX6_beginJob 29 = .ok (.putfield 174, 3) := by decide +kernel
theorem dX6_beginJob_32 : decode cX6_beginJob 32 = .ok (.aload_n 2, 1) := by decide +kernel
theorem dX6_beginJob_33 : decode cX6_beginJob 33 = .ok (.getfield 76, 3) := by decide +kernel
theorem dX6_beginJob_36 : decode cX6_beginJob 36 = .ok (.ifCond .ne 17, 3) := by decide +kernel
theorem dX6_beginJob_39 : decode cX6_beginJob 39 = .ok (.aload_n 2, 1) := by decide +kernel
theorem dX6_beginJob_40 : decode cX6_beginJob 40 = .ok (.aload_n 0, 1) := by decide +kernel
theorem dX6_beginJob_41 : decode cX6_beginJob 41 = .ok (.getfield 12, 3) := by decide +kernel
theorem dX6_beginJob_44 : decode cX6_beginJob 44 = .ok (.invokevirtual 139, 3) := by decide +kernel
theorem dX6_beginJob_47 : decode cX6_beginJob 47 = .ok (.putfield 177, 3) := by decide +kernel
theorem dX6_beginJob_50 : decode cX6_beginJob 50 = .ok (.goto 34, 3) := by decide +kernel
theorem dX6_beginJob_53 : decode cX6_beginJob 53 = .ok (.aload_n 2, 1) := by decide +kernel
theorem dX6_beginJob_54 : decode cX6_beginJob 54 = .ok (.getfield 76, 3) := by decide +kernel
theorem dX6_beginJob_57 : decode cX6_beginJob 57 = .ok (.iconst 1, 1) := by decide +kernel
theorem dX6_beginJob_58 : decode cX6_beginJob 58 = .ok (.if_icmp .ne 26, 3) := by decide +kernel
theorem dX6_beginJob_61 : decode cX6_beginJob 61 = .ok (.aload_n 2, 1) := by decide +kernel
theorem dX6_beginJob_62 : decode cX6_beginJob 62 = .ok (.aload_n 2, 1) := by decide +kernel
theorem dX6_beginJob_63 : decode cX6_beginJob 63 = .ok (.getfield 127, 3) := by decide +kernel
theorem dX6_beginJob_66 : decode cX6_beginJob 66 = .ok (.putfield 177, 3) := by decide +kernel
theorem dX6_beginJob_69 : decode cX6_beginJob 69 = .ok (.aload_n 2, 1) := by decide +kernel
theorem dX6_beginJob_70 : decode cX6_beginJob 70 = .ok (.aload_n 0, 1) := by decide +kernel
theorem dX6_beginJob_71 : decode cX6_beginJob 71 = .ok (.getfield 12, 3) := by decide +kernel
theorem dX6_beginJob_74 : decode cX6_beginJob 74 = .ok (.aload_n 0, 1) := by decide +kernel
theorem dX6_beginJob_75 : decode cX6_beginJob 75 = .ok (.getfield 44, 3) := by decide +kernel
theorem dX6_beginJob_78 : decode cX6_beginJob 78 = .ok (.invokevirtual 143, 3) := by decide +kernel
theorem dX6_beginJob_81 : decode cX6_beginJob 81 = .ok (.putfield 180, 3) := by decide +kernel
theorem dX6_beginJob_84 : decode cX6_beginJob 84 = .ok (.aload_n 0, 1) := by decide +kernel
theorem dX6_beginJob_85 : decode cX6_beginJob 85 = .ok (.iload_n 1, 1) := by decide +kernel
theorem dX6_beginJob_86 : decode cX6_beginJob 86 = .ok (.putfield 50, 3) := by decide +kernel
theorem dX6_beginJob_89 : decode cX6_beginJob 89 = .ok (.aload_n 0, 1) := by decide +kernel
theorem dX6_beginJob_90 : decode cX6_beginJob 90 = .ok (.getfield 28, 3) := by decide +kernel
theorem dX6_beginJob_93 : decode cX6_beginJob 93 = .ok (.iconst 0, 1) := by decide +kernel
theorem dX6_beginJob_94 : decode cX6_beginJob 94 = .ok (.iload_n 1, 1) := by decide +kernel
theorem dX6_beginJob_95 : decode cX6_beginJob 95 = .ok (.bipush (-5), 2) := by decide +kernel
theorem dX6_beginJob_97 : decode cX6_beginJob 97 = .ok (.aload_n 0, 1) := by decide +kernel
theorem dX6_beginJob_98 : decode cX6_beginJob 98 = .ok (.getfield 40, 3) := by decide +kernel
theorem dX6_beginJob_101 : decode cX6_beginJob 101 = .ok (.invokevirtual 183, 3) := by decide +kernel
theorem dX6_beginJob_104 : decode cX6_beginJob 104 = .ok (.return_, 1) := by decide +kernel
theorem dX6_doStep_0 : decode cX6_doStep 0 = .ok (.aload_n 1, 1) := by decide +kernel
theorem dX6_doStep_1 : decode cX6_doStep 1 = .ok (.invokevirtual 187, 3) := by decide +kernel
theorem dX6_doStep_4 : decode cX6_doStep 4 = .ok (.istore_n 2, 1) := by decide +kernel
theorem dX6_doStep_5 : decode cX6_doStep 5 = .ok (.aload_n 0, 1) := by decide +kernel
theorem dX6_doStep_6 : decode cX6_doStep 6 = .ok (.getfield 12, 3) := by decide +kernel
theorem dX6_doStep_9 : decode cX6_doStep 9 = .ok (.iload_n 2, 1) := by decide +kernel
theorem dX6_doStep_10 : decode cX6_doStep 10 = .ok (.invokevirtual 92, 3) := by decide +kernel
theorem dX6_doStep_13 : decode cX6_doStep 13 = .ok (.astore_n 3, 1) := by decide +kernel
theorem dX6_doStep_14 : decode cX6_doStep 14 = .ok (.aload_n 3, 1) := by decide +kernel
theorem dX6_doStep_15 : decode cX6_doStep 15 = .ok (.ifnonnull 5, 3) := by decide +kernel
theorem dX6_doStep_18 : decode cX6_doStep 18 = .ok (.iconst 0, 1) := by decide +kernel
theorem dX6_doStep_19 : decode cX6_doStep 19 = .ok (.ireturn, 1) := by decide +kernel
theorem dX6_doStep_20 : decode cX6_doStep 20 = .ok (.aload_n 1, 1) := by decide +kernel
theorem dX6_doStep_21 : decode cX6_doStep 21 = .ok (.getfield 76, 3) := by decide +kernel
theorem dX6_doStep_24 : decode cX6_doStep 24 = .ok (.iconst 2, 1) := by decide +kernel
theorem dX6_doStep_25 : decode cX6_doStep 25 = .ok (.if_icmp .ne 11, 3) := by decide +kernel
theorem dX6_doStep_28 : decode cX6_doStep 28 = .ok (.aload_n 0, 1) := by decide +kernel
theorem dX6_doStep_29 : decode cX6_doStep 29 = .ok (.aload_n 1, 1) := by decide +kernel
theorem dX6_doStep_30 : decode cX6_doStep 30 = .ok (.aload_n 3, 1) := by decide +kernel
theorem dX6_doStep_31 : decode cX6_doStep 31 = .ok (.iload_n 2, 1) := by decide +kernel
theorem dX6_doStep_32 : decode cX6_doStep 32 = .ok (.invokevirtual 190, 3) := by decide +kernel
theorem dX6_doStep_35 : decode cX6_doStep 35 = .ok (.ireturn, 1) := by decide +kernel
theorem dX6_doStep_36 : decode cX6_doStep 36 = .ok (.aload_n 0, 1) := by decide +kernel
theorem dX6_doStep_37 : decode cX6_doStep 37 = .ok (.getfield 12, 3) := by decide +kernel
theorem dX6_doStep_40 : decode cX6_doStep 40 = .ok (.aload_n 1, 1) := by decide +kernel
theorem dX6_doStep_41 : decode cX6_doStep 41 = .ok (.getfield 177, 3) := by decide +kernel
theorem dX6_doStep_44 : decode cX6_doStep 44 = .ok (.invokevirtual 88, 3) := by decide +kernel
theorem dX6_doStep_47 : decode cX6_doStep 47 = .ok (.astore 4, 2) := by decide +kernel
theorem dX6_doStep_49 : decode cX6_doStep 49 = .ok (.aload 4, 2) := by decide +kernel
theorem dX6_doStep_51 : decode cX6_doStep 51 = .ok (.ifnull 18, 3) := by decide +kernel
theorem dX6_doStep_54 : decode cX6_doStep 54 = .ok (.aload_n 0, 1) := by decide +kernel
theorem dX6_doStep_55 : decode cX6_doStep 55 = .ok (.aload_n 1, 1) := by decide +kernel
theorem dX6_doStep_56 : decode cX6_doStep 56 = .ok (.aload_n 3, 1) := by decide +kernel
theorem dX6_doStep_57 : decode cX6_doStep 57 = .ok (.aload 4, 2) := by decide +kernel
theorem dX6_doStep_59 : decode cX6_doStep 59 = .ok (.invokevirtual 194, 3) := by decide +kernel
theorem dX6_doStep_62 : decode cX6_doStep 62 = .ok (.ifCond .eq 7, 3) := by decide +kernel
theorem dX6_doStep_65 : decode cX6_doStep 65 = .ok (.iconst 1, 1) := by decide +kernel
theorem dX6_doStep_66 : decode cX6_doStep 66 = .ok (.goto 4, 3) := by decide +kernel
theorem dX6_doStep_69 : decode cX6_doStep 69 = .ok (.iconst 0, 1) := by decide +kernel
theorem dX6_doStep_70 : decode cX6_doStep 70 = .ok (.ireturn, 1) := by decide +kernel
theorem dX6_doMoveStep_0 : decode cX6_doMoveStep 0 = .ok (.aload_n 1, 1) := by decide +kernel
theorem dX6_doMoveStep_1 : decode cX6_doMoveStep 1 = .ok (.getfield 198, 3) := by decide +kernel
theorem dX6_doMoveStep_4 : decode cX6_doMoveStep 4 = .ok (.tableswitch 55 0 2 #[28, 38, 45], 28) := by decide +kernel
theorem dX6_doMoveStep_32 : decode cX6_doMoveStep 32 = .ok (.aload_n 0, 1) := by decide +kernel
theorem dX6_doMoveStep_33 : decode cX6_doMoveStep 33 = .ok (.aload_n 1, 1) := by decide +kernel
theorem dX6_doMoveStep_34 : decode cX6_doMoveStep 34 = .ok (.aload_n 2, 1) := by decide +kernel
theorem dX6_doMoveStep_35 : decode cX6_doMoveStep 35 = .ok (.getfield 201, 3) := by decide +kernel
theorem dX6_doMoveStep_38 : decode cX6_doMoveStep 38 = .ok (.invokevirtual 204, 3) := by decide +kernel
theorem dX6_doMoveStep_41 : decode cX6_doMoveStep 41 = .ok (.ireturn, 1) := by decide +kernel
theorem dX6_doMoveStep_42 : decode cX6_doMoveStep 42 = .ok (.aload_n 0, 1) := by decide +kernel
theorem dX6_doMoveStep_43 : decode cX6_doMoveStep 43 = .ok (.aload_n 2, 1) := by decide +kernel
theorem dX6_doMoveStep_44 : decode cX6_doMoveStep 44 = .ok (.iload_n 3, 1) := by decide +kernel
theorem dX6_doMoveStep_45 : decode cX6_doMoveStep 45 = .ok (.invokevirtual 208, 3) := by decide +kernel
theorem dX6_doMoveStep_48 : decode cX6_doMoveStep 48 = .ok (.ireturn, 1) := by decide +kernel
theorem dX6_doMoveStep_49 : decode cX6_doMoveStep 49 = .ok (.aload_n 0, 1) := by decide +kernel
theorem dX6_doMoveStep_50 : decode cX6_doMoveStep 50 = .ok (.aload_n 1, 1) := by decide +kernel
theorem dX6_doMoveStep_51 : decode cX6_doMoveStep 51 = .ok (.aload_n 1, 1) := by decide +kernel
theorem dX6_doMoveStep_52 : decode cX6_doMoveStep 52 = .ok (.getfield 81, 3) := by decide +kernel
theorem dX6_doMoveStep_55 : decode cX6_doMoveStep 55 = .ok (.invokevirtual 204, 3) := by decide +kernel
theorem dX6_doMoveStep_58 : decode cX6_doMoveStep 58 = .ok (.ireturn, 1) := by decide +kernel
theorem dX6_doMoveStep_59 : decode cX6_doMoveStep 59 = .ok (.aload_n 2, 1) := by decide +kernel
theorem dX6_doMoveStep_60 : decode cX6_doMoveStep 60 = .ok (.aload_n 1, 1) := by decide +kernel
theorem dX6_doMoveStep_61 : decode cX6_doMoveStep 61 = .ok (.getfield 81, 3) := by decide +kernel
theorem dX6_doMoveStep_64 : decode cX6_doMoveStep 64 = .ok (.putfield 201, 3) := by decide +kernel
theorem dX6_doMoveStep_67 : decode cX6_doMoveStep 67 = .ok (.aload_n 0, 1) := by decide +kernel
theorem dX6_doMoveStep_68 : decode cX6_doMoveStep 68 = .ok (.aload_n 2, 1) := by decide +kernel
theorem dX6_doMoveStep_69 : decode cX6_doMoveStep 69 = .ok (.invokevirtual 212, 3) := by decide +kernel
theorem dX6_doMoveStep_72 : decode cX6_doMoveStep 72 = .ok (.ireturn, 1) := by decide +kernel
theorem dX6_doDriveStep_0 : decode cX6_doDriveStep 0 = .ok (.aload_n 1, 1) := by decide +kernel
theorem dX6_doDriveStep_1 : decode cX6_doDriveStep 1 = .ok (.getfield 198, 3) := by decide +kernel
theorem dX6_doDriveStep_4 : decode cX6_doDriveStep 4 = .ok (.tableswitch 125 0 6 #[44, 54, 64, 74, 82, 107, 115], 44) := by decide +kernel
theorem dX6_doDriveStep_48 : decode cX6_doDriveStep 48 = .ok (.aload_n 0, 1) := by decide +kernel
theorem dX6_doDriveStep_49 : decode cX6_doDriveStep 49 = .ok (.aload_n 1, 1) := by decide +kernel
theorem dX6_doDriveStep_50 : decode cX6_doDriveStep 50 = .ok (.aload_n 2, 1) := by decide +kernel
theorem dX6_doDriveStep_51 : decode cX6_doDriveStep 51 = .ok (.getfield 201, 3) := by decide +kernel
theorem dX6_doDriveStep_54 : decode cX6_doDriveStep 54 = .ok (.invokevirtual 204, 3) := by decide +kernel
theorem dX6_doDriveStep_57 : decode cX6_doDriveStep 57 = .ok (.ireturn, 1) := by decide +kernel
theorem dX6_doDriveStep_58 : decode cX6_doDriveStep 58 = .ok (.aload_n 0, 1) := by decide +kernel
theorem dX6_doDriveStep_59 : decode cX6_doDriveStep 59 = .ok (.aload_n 2, 1) := by decide +kernel
theorem dX6_doDriveStep_60 : decode cX6_doDriveStep 60 = .ok (.aload_n 1, 1) := by decide +kernel
theorem dX6_doDriveStep_61 : decode cX6_doDriveStep 61 = .ok (.invokevirtual 187, 3) := by decide +kernel
theorem dX6_doDriveStep_64 : decode cX6_doDriveStep 64 = .ok (.invokevirtual 208, 3) := by decide +kernel
theorem dX6_doDriveStep_67 : decode cX6_doDriveStep 67 = .ok (.ireturn, 1) := by decide +kernel
theorem dX6_doDriveStep_68 : decode cX6_doDriveStep 68 = .ok (.aload_n 0, 1) := by decide +kernel
theorem dX6_doDriveStep_69 : decode cX6_doDriveStep 69 = .ok (.aload_n 1, 1) := by decide +kernel
theorem dX6_doDriveStep_70 : decode cX6_doDriveStep 70 = .ok (.aload_n 3, 1) := by decide +kernel
theorem dX6_doDriveStep_71 : decode cX6_doDriveStep 71 = .ok (.getfield 216, 3) := by decide +kernel
theorem dX6_doDriveStep_74 : decode cX6_doDriveStep 74 = .ok (.invokevirtual 204, 3) := by decide +kernel
theorem dX6_doDriveStep_77 : decode cX6_doDriveStep 77 = .ok (.ireturn, 1) := by decide +kernel
theorem dX6_doDriveStep_78 : decode cX6_doDriveStep 78 = .ok (.aload_n 0, 1) := by decide +kernel
theorem dX6_doDriveStep_79 : decode cX6_doDriveStep 79 = .ok (.aload_n 1, 1) := by decide +kernel
theorem dX6_doDriveStep_80 : decode cX6_doDriveStep 80 = .ok (.aload_n 2, 1) := by decide +kernel
theorem dX6_doDriveStep_81 : decode cX6_doDriveStep 81 = .ok (.aload_n 3, 1) := by decide +kernel
theorem dX6_doDriveStep_82 : decode cX6_doDriveStep 82 = .ok (.invokevirtual 217, 3) := by decide +kernel
theorem dX6_doDriveStep_85 : decode cX6_doDriveStep 85 = .ok (.ireturn, 1) := by decide +kernel
theorem dX6_doDriveStep_86 : decode cX6_doDriveStep 86 = .ok (.aload_n 1, 1) := by decide +kernel
theorem dX6_doDriveStep_87 : decode cX6_doDriveStep 87 = .ok (.getfield 76, 3) := by decide +kernel
theorem dX6_doDriveStep_90 : decode cX6_doDriveStep 90 = .ok (.ifCond .ne 13, 3) := by decide +kernel
theorem dX6_doDriveStep_93 : decode cX6_doDriveStep 93 = .ok (.aload_n 0, 1) := by decide +kernel
theorem dX6_doDriveStep_94 : decode cX6_doDriveStep 94 = .ok (.aload_n 1, 1) := by decide +kernel
theorem dX6_doDriveStep_95 : decode cX6_doDriveStep 95 = .ok (.aload_n 2, 1) := by decide +kernel
theorem dX6_doDriveStep_96 : decode cX6_doDriveStep 96 = .ok (.aload_n 3, 1) := by decide +kernel
theorem dX6_doDriveStep_97 : decode cX6_doDriveStep 97 = .ok (.invokevirtual 220, 3) := by decide +kernel
theorem dX6_doDriveStep_100 : decode cX6_doDriveStep 100 = .ok (.goto 10, 3) := by decide +kernel
theorem dX6_doDriveStep_103 : decode cX6_doDriveStep 103 = .ok (.aload_n 0, 1) := by decide +kernel
theorem dX6_doDriveStep_104 : decode cX6_doDriveStep 104 = .ok (.aload_n 1, 1) := by decide +kernel
theorem dX6_doDriveStep_105 : decode cX6_doDriveStep 105 = .ok (.aload_n 2, 1) := by decide +kernel
theorem dX6_doDriveStep_106 : decode cX6_doDriveStep 106 = .ok (.aload_n 3, 1) := by decide +kernel
theorem dX6_doDriveStep_107 : decode cX6_doDriveStep 107 = .ok (.invokevirtual 223, 3) := by decide +kernel
theorem dX6_doDriveStep_110 : decode cX6_doDriveStep 110 = .ok (.ireturn, 1) := by decide +kernel
theorem dX6_doDriveStep_111 : decode cX6_doDriveStep 111 = .ok (.aload_n 0, 1) := by decide +kernel
theorem dX6_doDriveStep_112 : decode cX6_doDriveStep 112 = .ok (.aload_n 1, 1) := by decide +kernel
theorem dX6_doDriveStep_113 : decode cX6_doDriveStep 113 = .ok (.aload_n 2, 1) := by decide +kernel
theorem dX6_doDriveStep_114 : decode cX6_doDriveStep 114 = .ok (.aload_n 3, 1) := by decide +kernel
theorem dX6_doDriveStep_115 : decode cX6_doDriveStep 115 = .ok (.invokevirtual 226, 3) := by decide +kernel
theorem dX6_doDriveStep_118 : decode cX6_doDriveStep 118 = .ok (.ireturn, 1) := by decide +kernel
theorem dX6_doDriveStep_119 : decode cX6_doDriveStep 119 = .ok (.aload_n 0, 1) := by decide +kernel
theorem dX6_doDriveStep_120 : decode cX6_doDriveStep 120 = .ok (.aload_n 1, 1) := by decide +kernel
theorem dX6_doDriveStep_121 : decode cX6_doDriveStep 121 = .ok (.aload_n 2, 1) := by decide +kernel
theorem dX6_doDriveStep_122 : decode cX6_doDriveStep 122 = .ok (.getfield 201, 3) := by decide +kernel
theorem dX6_doDriveStep_125 : decode cX6_doDriveStep 125 = .ok (.invokevirtual 204, 3) := by decide +kernel
theorem dX6_doDriveStep_128 : decode cX6_doDriveStep 128 = .ok (.ireturn, 1) := by decide +kernel
theorem dX6_doDriveStep_129 : decode cX6_doDriveStep 129 = .ok (.aload_n 0, 1) := by decide +kernel
theorem dX6_doDriveStep_130 : decode cX6_doDriveStep 130 = .ok (.aload_n 2, 1) := by decide +kernel
theorem dX6_doDriveStep_131 : decode cX6_doDriveStep 131 = .ok (.invokevirtual 212, 3) := by decide +kernel
theorem dX6_doDriveStep_134 : decode cX6_doDriveStep 134 = .ok (.ireturn, 1) := by decide +kernel
theorem dX6_goTo_0 : decode cX6_goTo 0 = .ok (.aload_n 0, 1) := by decide +kernel
theorem dX6_goTo_1 : decode cX6_goTo 1 = .ok (.iload_n 2, 1) := by decide +kernel
theorem dX6_goTo_2 : decode cX6_goTo 2 = .ok (.invokevirtual 146, 3) := by decide +kernel
theorem dX6_goTo_5 : decode cX6_goTo 5 = .ok (.fstore_n 3, 1) := by decide +kernel
theorem dX6_goTo_6 : decode cX6_goTo 6 = .ok (.aload_n 0, 1) := by decide +kernel
theorem dX6_goTo_7 : decode cX6_goTo 7 = .ok (.aload_n 0, 1) := by decide +kernel
theorem dX6_goTo_8 : decode cX6_goTo 8 = .ok (.getfield 32, 3) := by decide +kernel
theorem dX6_goTo_11 : decode cX6_goTo 11 = .ok (.fload_n 3, 1) := by decide +kernel
theorem dX6_goTo_12 : decode cX6_goTo 12 = .ok (.invokevirtual 150, 3) := by decide +kernel
theorem dX6_goTo_15 : decode cX6_goTo 15 = .ok (.ifCond .ne 43, 3) := by decide +kernel
theorem dX6_goTo_18 : decode cX6_goTo 18 = .ok (.aload_n 1, 1) := by decide +kernel
theorem dX6_goTo_19 : decode cX6_goTo 19 = .ok (.dup, 1) := by decide +kernel
theorem dX6_goTo_20 : decode cX6_goTo 20 = .ok (.getfield 229, 3) := by decide +kernel
theorem dX6_goTo_23 : decode cX6_goTo 23 = .ok (.iconst 1, 1) := by decide +kernel
theorem dX6_goTo_24 : decode cX6_goTo 24 = .ok (.iadd, 1) := by decide +kernel
theorem dX6_goTo_25 : decode cX6_goTo 25 = .ok (.putfield 229, 3) := by decide +kernel
theorem dX6_goTo_28 : decode cX6_goTo 28 = .ok (.aload_n 0, 1) := by decide +kernel
theorem dX6_goTo_29 : decode cX6_goTo 29 = .ok (.dup, 1) := by decide +kernel
theorem dX6_goTo_30 : decode cX6_goTo 30 = .ok (.getfield 53, 3) := by decide +kernel
theorem dX6_goTo_33 : decode cX6_goTo 33 = .ok (.iconst 1, 1) := by decide +kernel
theorem dX6_goTo_34 : decode cX6_goTo 34 = .ok (.iadd, 1) := by decide +kernel
theorem dX6_goTo_35 : decode cX6_goTo 35 = .ok (.putfield 53, 3) := by decide +kernel
theorem dX6_goTo_38 : decode cX6_goTo 38 = .ok (.aload_n 0, 1) := by decide +kernel
theorem dX6_goTo_39 : decode cX6_goTo 39 = .ok (.getfield 28, 3) := by decide +kernel
theorem dX6_goTo_42 : decode cX6_goTo 42 = .ok (.iconst 4, 1) := by decide +kernel
theorem dX6_goTo_43 : decode cX6_goTo 43 = .ok (.aload_n 0, 1) := by decide +kernel
theorem dX6_goTo_44 : decode cX6_goTo 44 = .ok (.getfield 50, 3) := by decide +kernel
theorem dX6_goTo_47 : decode cX6_goTo 47 = .ok (.bipush (-5), 2) := by decide +kernel
theorem dX6_goTo_49 : decode cX6_goTo 49 = .ok (.aload_n 0, 1) := by decide +kernel
theorem dX6_goTo_50 : decode cX6_goTo 50 = .ok (.getfield 40, 3) := by decide +kernel
theorem dX6_goTo_53 : decode cX6_goTo 53 = .ok (.invokevirtual 183, 3) := by decide +kernel
theorem dX6_goTo_56 : decode cX6_goTo 56 = .ok (.iconst 0, 1) := by decide +kernel
theorem dX6_goTo_57 : decode cX6_goTo 57 = .ok (.ireturn, 1) := by decide +kernel
theorem dX6_goTo_58 : decode cX6_goTo 58 = .ok (.aload_n 0, 1) := by decide +kernel
theorem dX6_goTo_59 : decode cX6_goTo 59 = .ok (.aload_n 0, 1) := by decide +kernel
theorem dX6_goTo_60 : decode cX6_goTo 60 = .ok (.getfield 32, 3) := by decide +kernel
theorem dX6_goTo_63 : decode cX6_goTo 63 = .ok (.fload_n 3, 1) := by decide +kernel
theorem dX6_goTo_64 : decode cX6_goTo 64 = .ok (.fadd, 1) := by decide +kernel
theorem dX6_goTo_65 : decode cX6_goTo 65 = .ok (.putfield 32, 3) := by decide +kernel
theorem dX6_goTo_68 : decode cX6_goTo 68 = .ok (.aload_n 0, 1) := by decide +kernel
theorem dX6_goTo_69 : decode cX6_goTo 69 = .ok (.dup, 1) := by decide +kernel
theorem dX6_goTo_70 : decode cX6_goTo 70 = .ok (.getfield 56, 3) := by decide +kernel
theorem dX6_goTo_73 : decode cX6_goTo 73 = .ok (.iload_n 2, 1) := by decide +kernel
theorem dX6_goTo_74 : decode cX6_goTo 74 = .ok (.aload_n 0, 1) := by decide +kernel
theorem dX6_goTo_75 : decode cX6_goTo 75 = .ok (.getfield 44, 3) := by decide +kernel
theorem dX6_goTo_78 : decode cX6_goTo 78 = .ok (.isub, 1) := by decide +kernel
theorem dX6_goTo_79 : decode cX6_goTo 79 = .ok (.invokestatic 157, 3) := by decide +kernel
theorem dX6_goTo_82 : decode cX6_goTo 82 = .ok (.iadd, 1) := by decide +kernel
theorem dX6_goTo_83 : decode cX6_goTo 83 = .ok (.putfield 56, 3) := by decide +kernel
theorem dX6_goTo_86 : decode cX6_goTo 86 = .ok (.aload_n 0, 1) := by decide +kernel
theorem dX6_goTo_87 : decode cX6_goTo 87 = .ok (.iload_n 2, 1) := by decide +kernel
theorem dX6_goTo_88 : decode cX6_goTo 88 = .ok (.putfield 44, 3) := by decide +kernel
theorem dX6_goTo_91 : decode cX6_goTo 91 = .ok (.iconst 1, 1) := by decide +kernel
theorem dX6_goTo_92 : decode cX6_goTo 92 = .ok (.ireturn, 1) := by decide +kernel
theorem dX6_takeInHand_0 : decode cX6_takeInHand 0 = .ok (.aload_n 1, 1) := by decide +kernel
theorem dX6_takeInHand_1 : decode cX6_takeInHand 1 = .ok (.iconst 1, 1) := by decide +kernel
theorem dX6_takeInHand_2 : decode cX6_takeInHand 2 = .ok (.putfield 230, 3) := by decide +kernel
theorem dX6_takeInHand_5 : decode cX6_takeInHand 5 = .ok (.aload_n 1, 1) := by decide +kernel
theorem dX6_takeInHand_6 : decode cX6_takeInHand 6 = .ok (.bipush (-5), 2) := by decide +kernel
theorem dX6_takeInHand_8 : decode cX6_takeInHand 8 = .ok (.putfield 233, 3) := by decide +kernel
theorem dX6_takeInHand_11 : decode cX6_takeInHand 11 = .ok (.aload_n 0, 1) := by decide +kernel
theorem dX6_takeInHand_12 : decode cX6_takeInHand 12 = .ok (.iload_n 2, 1) := by decide +kernel
theorem dX6_takeInHand_13 : decode cX6_takeInHand 13 = .ok (.putfield 47, 3) := by decide +kernel
theorem dX6_takeInHand_16 : decode cX6_takeInHand 16 = .ok (.iconst 1, 1) := by decide +kernel
theorem dX6_takeInHand_17 : decode cX6_takeInHand 17 = .ok (.ireturn, 1) := by decide +kernel
theorem dX6_putHome_0 : decode cX6_putHome 0 = .ok (.aload_n 1, 1) := by decide +kernel
theorem dX6_putHome_1 : decode cX6_putHome 1 = .ok (.iconst 0, 1) := by decide +kernel
theorem dX6_putHome_2 : decode cX6_putHome 2 = .ok (.putfield 230, 3) := by decide +kernel
theorem dX6_putHome_5 : decode cX6_putHome 5 = .ok (.aload_n 0, 1) := by decide +kernel
theorem dX6_putHome_6 : decode cX6_putHome 6 = .ok (.bipush (-5), 2) := by decide +kernel
theorem dX6_putHome_8 : decode cX6_putHome 8 = .ok (.putfield 47, 3) := by decide +kernel
theorem dX6_putHome_11 : decode cX6_putHome 11 = .ok (.iconst 1, 1) := by decide +kernel
theorem dX6_putHome_12 : decode cX6_putHome 12 = .ok (.ireturn, 1) := by decide +kernel
theorem dX6_loadDrive_0 : decode cX6_loadDrive 0 = .ok (.aload_n 2, 1) := by decide +kernel
theorem dX6_loadDrive_1 : decode cX6_loadDrive 1 = .ok (.iconst 2, 1) := by decide +kernel
theorem dX6_loadDrive_2 : decode cX6_loadDrive 2 = .ok (.putfield 230, 3) := by decide +kernel
theorem dX6_loadDrive_5 : decode cX6_loadDrive 5 = .ok (.aload_n 2, 1) := by decide +kernel
theorem dX6_loadDrive_6 : decode cX6_loadDrive 6 = .ok (.aload_n 1, 1) := by decide +kernel
theorem dX6_loadDrive_7 : decode cX6_loadDrive 7 = .ok (.getfield 177, 3) := by decide +kernel
theorem dX6_loadDrive_10 : decode cX6_loadDrive 10 = .ok (.putfield 233, 3) := by decide +kernel
theorem dX6_loadDrive_13 : decode cX6_loadDrive 13 = .ok (.aload_n 3, 1) := by decide +kernel
theorem dX6_loadDrive_14 : decode cX6_loadDrive 14 = .ok (.aload_n 0, 1) := by decide +kernel
theorem dX6_loadDrive_15 : decode cX6_loadDrive 15 = .ok (.getfield 47, 3) := by decide +kernel
theorem dX6_loadDrive_18 : decode cX6_loadDrive 18 = .ok (.putfield 234, 3) := by decide +kernel
theorem dX6_loadDrive_21 : decode cX6_loadDrive 21 = .ok (.aload_n 0, 1) := by decide +kernel
theorem dX6_loadDrive_22 : decode cX6_loadDrive 22 = .ok (.bipush (-5), 2) := by decide +kernel
theorem dX6_loadDrive_24 : decode cX6_loadDrive 24 = .ok (.putfield 47, 3) := by decide +kernel
theorem dX6_loadDrive_27 : decode cX6_loadDrive 27 = .ok (.iconst 1, 1) := by decide +kernel
theorem dX6_loadDrive_28 : decode cX6_loadDrive 28 = .ok (.ireturn, 1) := by decide +kernel
theorem dX6_unloadDrive_0 : decode cX6_unloadDrive 0 = .ok (.aload_n 3, 1) := by decide +kernel
theorem dX6_unloadDrive_1 : decode cX6_unloadDrive 1 = .ok (.bipush (-5), 2) := by decide +kernel
theorem dX6_unloadDrive_3 : decode cX6_unloadDrive 3 = .ok (.putfield 234, 3) := by decide +kernel
theorem dX6_unloadDrive_6 : decode cX6_unloadDrive 6 = .ok (.aload_n 0, 1) := by decide +kernel
theorem dX6_unloadDrive_7 : decode cX6_unloadDrive 7 = .ok (.aload_n 2, 1) := by decide +kernel
theorem dX6_unloadDrive_8 : decode cX6_unloadDrive 8 = .ok (.aload_n 1, 1) := by decide +kernel
theorem dX6_unloadDrive_9 : decode cX6_unloadDrive 9 = .ok (.invokevirtual 187, 3) := by decide +kernel
theorem dX6_unloadDrive_12 : decode cX6_unloadDrive 12 = .ok (.invokevirtual 208, 3) := by decide +kernel
theorem dX6_unloadDrive_15 : decode cX6_unloadDrive 15 = .ok (.ireturn, 1) := by decide +kernel
theorem dX6_readInDrive_0 : decode cX6_readInDrive 0 = .ok (.aload_n 3, 1) := by decide +kernel
theorem dX6_readInDrive_1 : decode cX6_readInDrive 1 = .ok (.invokevirtual 130, 3) := by decide +kernel
theorem dX6_readInDrive_4 : decode cX6_readInDrive 4 = .ok (.ifCond .eq 10, 3) := by decide +kernel
theorem dX6_readInDrive_7 : decode cX6_readInDrive 7 = .ok (.aload_n 1, 1) := by decide +kernel
theorem dX6_readInDrive_8 : decode cX6_readInDrive 8 = .ok (.iconst 1, 1) := by decide +kernel
theorem dX6_readInDrive_9 : decode cX6_readInDrive 9 = .ok (.putfield 237, 3) := by decide +kernel
theorem dX6_readInDrive_12 : decode cX6_readInDrive 12 = .ok (.iconst 1, 1) := by decide +kernel
theorem dX6_readInDrive_13 : decode cX6_readInDrive 13 = .ok (.ireturn, 1) := by decide +kernel
theorem dX6_readInDrive_14 : decode cX6_readInDrive 14 = .ok (.aload_n 3, 1) := by decide +kernel
theorem dX6_readInDrive_15 : decode cX6_readInDrive 15 = .ok (.aload_n 2, 1) := by decide +kernel
theorem dX6_readInDrive_16 : decode cX6_readInDrive 16 = .ok (.invokevirtual 240, 3) := by decide +kernel
theorem dX6_readInDrive_19 : decode cX6_readInDrive 19 = .ok (.ifCond .eq 25, 3) := by decide +kernel
theorem dX6_readInDrive_22 : decode cX6_readInDrive 22 = .ok (.aload_n 0, 1) := by decide +kernel
theorem dX6_readInDrive_23 : decode cX6_readInDrive 23 = .ok (.getfield 28, 3) := by decide +kernel
theorem dX6_readInDrive_26 : decode cX6_readInDrive 26 = .ok (.iconst 1, 1) := by decide +kernel
theorem dX6_readInDrive_27 : decode cX6_readInDrive 27 = .ok (.aload_n 0, 1) := by decide +kernel
theorem dX6_readInDrive_28 : decode cX6_readInDrive 28 = .ok (.getfield 50, 3) := by decide +kernel
theorem dX6_readInDrive_31 : decode cX6_readInDrive 31 = .ok (.aload_n 1, 1) := by decide +kernel
theorem dX6_readInDrive_32 : decode cX6_readInDrive 32 = .ok (.getfield 177, 3) := by decide +kernel
theorem dX6_readInDrive_35 : decode cX6_readInDrive 35 = .ok (.aload_n 0, 1) := by decide +kernel
theorem dX6_readInDrive_36 : decode cX6_readInDrive 36 = .ok (.getfield 40, 3) := by decide +kernel
theorem dX6_readInDrive_39 : decode cX6_readInDrive 39 = .ok (.invokevirtual 183, 3) := by decide +kernel
theorem dX6_readInDrive_42 : decode cX6_readInDrive 42 = .ok (.iconst 1, 1) := by decide +kernel
theorem dX6_readInDrive_43 : decode cX6_readInDrive 43 = .ok (.ireturn, 1) := by decide +kernel
theorem dX6_readInDrive_44 : decode cX6_readInDrive 44 = .ok (.aload_n 0, 1) := by decide +kernel
theorem dX6_readInDrive_45 : decode cX6_readInDrive 45 = .ok (.getfield 28, 3) := by decide +kernel
theorem dX6_readInDrive_48 : decode cX6_readInDrive 48 = .ok (.iconst 2, 1) := by decide +kernel
theorem dX6_readInDrive_49 : decode cX6_readInDrive 49 = .ok (.aload_n 0, 1) := by decide +kernel
theorem dX6_readInDrive_50 : decode cX6_readInDrive 50 = .ok (.getfield 50, 3) := by decide +kernel
theorem dX6_readInDrive_53 : decode cX6_readInDrive 53 = .ok (.aload_n 1, 1) := by decide +kernel
theorem dX6_readInDrive_54 : decode cX6_readInDrive 54 = .ok (.getfield 177, 3) := by decide +kernel
theorem dX6_readInDrive_57 : decode cX6_readInDrive 57 = .ok (.aload_n 0, 1) := by decide +kernel
theorem dX6_readInDrive_58 : decode cX6_readInDrive 58 = .ok (.getfield 40, 3) := by decide +kernel
theorem dX6_readInDrive_61 : decode cX6_readInDrive 61 = .ok (.invokevirtual 183, 3) := by decide +kernel
theorem dX6_readInDrive_64 : decode cX6_readInDrive 64 = .ok (.aload_n 1, 1) := by decide +kernel
theorem dX6_readInDrive_65 : decode cX6_readInDrive 65 = .ok (.dup, 1) := by decide +kernel
theorem dX6_readInDrive_66 : decode cX6_readInDrive 66 = .ok (.getfield 243, 3) := by decide +kernel
theorem dX6_readInDrive_69 : decode cX6_readInDrive 69 = .ok (.iconst 1, 1) := by decide +kernel
theorem dX6_readInDrive_70 : decode cX6_readInDrive 70 = .ok (.iadd, 1) := by decide +kernel
theorem dX6_readInDrive_71 : decode cX6_readInDrive 71 = .ok (.putfield 243, 3) := by decide +kernel
theorem dX6_readInDrive_74 : decode cX6_readInDrive 74 = .ok (.aload_n 1, 1) := by decide +kernel
theorem dX6_readInDrive_75 : decode cX6_readInDrive 75 = .ok (.getfield 243, 3) := by decide +kernel
theorem dX6_readInDrive_78 : decode cX6_readInDrive 78 = .ok (.iconst 3, 1) := by decide +kernel
theorem dX6_readInDrive_79 : decode cX6_readInDrive 79 = .ok (.if_icmp .ge 5, 3) := by decide +kernel
theorem dX6_readInDrive_82 : decode cX6_readInDrive 82 = .ok (.iconst 0, 1) := by decide +kernel
theorem dX6_readInDrive_83 : decode cX6_readInDrive 83 = .ok (.ireturn, 1) := by decide +kernel
theorem dX6_readInDrive_84 : decode cX6_readInDrive 84 = .ok (.aload_n 1, 1) := by decide +kernel
theorem dX6_readInDrive_85 : decode cX6_readInDrive 85 = .ok (.iconst 2, 1) := by decide +kernel
theorem dX6_readInDrive_86 : decode cX6_readInDrive 86 = .ok (.putfield 237, 3) := by decide +kernel
theorem dX6_readInDrive_89 : decode cX6_readInDrive 89 = .ok (.iconst 1, 1) := by decide +kernel
theorem dX6_readInDrive_90 : decode cX6_readInDrive 90 = .ok (.ireturn, 1) := by decide +kernel
theorem dX6_cleanDrive_0 : decode cX6_cleanDrive 0 = .ok (.aload_n 3, 1) := by decide +kernel
theorem dX6_cleanDrive_1 : decode cX6_cleanDrive 1 = .ok (.aload_n 2, 1) := by decide +kernel
theorem dX6_cleanDrive_2 : decode cX6_cleanDrive 2 = .ok (.invokevirtual 246, 3) := by decide +kernel
theorem dX6_cleanDrive_5 : decode cX6_cleanDrive 5 = .ok (.aload_n 0, 1) := by decide +kernel
theorem dX6_cleanDrive_6 : decode cX6_cleanDrive 6 = .ok (.getfield 28, 3) := by decide +kernel
theorem dX6_cleanDrive_9 : decode cX6_cleanDrive 9 = .ok (.iconst 3, 1) := by decide +kernel
theorem dX6_cleanDrive_10 : decode cX6_cleanDrive 10 = .ok (.aload_n 0, 1) := by decide +kernel
theorem dX6_cleanDrive_11 : decode cX6_cleanDrive 11 = .ok (.getfield 50, 3) := by decide +kernel
theorem dX6_cleanDrive_14 : decode cX6_cleanDrive 14 = .ok (.aload_n 1, 1) := by decide +kernel
theorem dX6_cleanDrive_15 : decode cX6_cleanDrive 15 = .ok (.getfield 177, 3) := by decide +kernel
theorem dX6_cleanDrive_18 : decode cX6_cleanDrive 18 = .ok (.aload_n 0, 1) := by decide +kernel
theorem dX6_cleanDrive_19 : decode cX6_cleanDrive 19 = .ok (.getfield 40, 3) := by decide +kernel
theorem dX6_cleanDrive_22 : decode cX6_cleanDrive 22 = .ok (.invokevirtual 183, 3) := by decide +kernel
theorem dX6_cleanDrive_25 : decode cX6_cleanDrive 25 = .ok (.iconst 1, 1) := by decide +kernel
theorem dX6_cleanDrive_26 : decode cX6_cleanDrive 26 = .ok (.ireturn, 1) := by decide +kernel
theorem dX6_goOn_0 : decode cX6_goOn 0 = .ok (.aload_n 1, 1) := by decide +kernel
theorem dX6_goOn_1 : decode cX6_goOn 1 = .ok (.dup, 1) := by decide +kernel
theorem dX6_goOn_2 : decode cX6_goOn 2 = .ok (.getfield 198, 3) := by decide +kernel
theorem dX6_goOn_5 : decode cX6_goOn 5 = .ok (.iconst 1, 1) := by decide +kernel
theorem dX6_goOn_6 : decode cX6_goOn 6 = .ok (.iadd, 1) := by decide +kernel
theorem dX6_goOn_7 : decode cX6_goOn 7 = .ok (.putfield 198, 3) := by decide +kernel
theorem dX6_goOn_10 : decode cX6_goOn 10 = .ok (.aload_n 1, 1) := by decide +kernel
theorem dX6_goOn_11 : decode cX6_goOn 11 = .ok (.getfield 198, 3) := by decide +kernel
theorem dX6_goOn_14 : decode cX6_goOn 14 = .ok (.aload_n 1, 1) := by decide +kernel
theorem dX6_goOn_15 : decode cX6_goOn 15 = .ok (.invokevirtual 250, 3) := by decide +kernel
theorem dX6_goOn_18 : decode cX6_goOn 18 = .ok (.if_icmp .ge 5, 3) := by decide +kernel
theorem dX6_goOn_21 : decode cX6_goOn 21 = .ok (.iconst 0, 1) := by decide +kernel
theorem dX6_goOn_22 : decode cX6_goOn 22 = .ok (.ireturn, 1) := by decide +kernel
theorem dX6_goOn_23 : decode cX6_goOn 23 = .ok (.aload_n 1, 1) := by decide +kernel
theorem dX6_goOn_24 : decode cX6_goOn 24 = .ok (.getfield 237, 3) := by decide +kernel
theorem dX6_goOn_27 : decode cX6_goOn 27 = .ok (.bipush (-5), 2) := by decide +kernel
theorem dX6_goOn_29 : decode cX6_goOn 29 = .ok (.if_icmp .eq 7, 3) := by decide +kernel
theorem dX6_goOn_32 : decode cX6_goOn 32 = .ok (.iconst 1, 1) := by decide +kernel
theorem dX6_goOn_33 : decode cX6_goOn 33 = .ok (.goto 4, 3) := by decide +kernel
theorem dX6_goOn_36 : decode cX6_goOn 36 = .ok (.iconst 0, 1) := by decide +kernel
theorem dX6_goOn_37 : decode cX6_goOn 37 = .ok (.istore_n 2, 1) := by decide +kernel
theorem dX6_goOn_38 : decode cX6_goOn 38 = .ok (.aload_n 1, 1) := by decide +kernel
theorem dX6_goOn_39 : decode cX6_goOn 39 = .ok (.iload_n 2, 1) := by decide +kernel
theorem dX6_goOn_40 : decode cX6_goOn 40 = .ok (.ifCond .eq 7, 3) := by decide +kernel
theorem dX6_goOn_43 : decode cX6_goOn 43 = .ok (.iconst 3, 1) := by decide +kernel
theorem dX6_goOn_44 : decode cX6_goOn 44 = .ok (.goto 4, 3) := by decide +kernel
theorem dX6_goOn_47 : decode cX6_goOn 47 = .ok (.iconst 2, 1) := by decide +kernel
theorem dX6_goOn_48 : decode cX6_goOn 48 = .ok (.putfield 113, 3) := by decide +kernel
theorem dX6_goOn_51 : decode cX6_goOn 51 = .ok (.aload_n 1, 1) := by decide +kernel
theorem dX6_goOn_52 : decode cX6_goOn 52 = .ok (.aload_n 0, 1) := by decide +kernel
theorem dX6_goOn_53 : decode cX6_goOn 53 = .ok (.getfield 40, 3) := by decide +kernel
theorem dX6_goOn_56 : decode cX6_goOn 56 = .ok (.putfield 253, 3) := by decide +kernel
theorem dX6_goOn_59 : decode cX6_goOn 59 = .ok (.aload_n 0, 1) := by decide +kernel
theorem dX6_goOn_60 : decode cX6_goOn 60 = .ok (.getfield 28, 3) := by decide +kernel
theorem dX6_goOn_63 : decode cX6_goOn 63 = .ok (.iload_n 2, 1) := by decide +kernel
theorem dX6_goOn_64 : decode cX6_goOn 64 = .ok (.ifCond .eq 8, 3) := by decide +kernel
theorem dX6_goOn_67 : decode cX6_goOn 67 = .ok (.bipush 6, 2) := by decide +kernel
theorem dX6_goOn_69 : decode cX6_goOn 69 = .ok (.goto 4, 3) := by decide +kernel
theorem dX6_goOn_72 : decode cX6_goOn 72 = .ok (.iconst 5, 1) := by decide +kernel
theorem dX6_goOn_73 : decode cX6_goOn 73 = .ok (.aload_n 0, 1) := by decide +kernel
theorem dX6_goOn_74 : decode cX6_goOn 74 = .ok (.getfield 50, 3) := by decide +kernel
theorem dX6_goOn_77 : decode cX6_goOn 77 = .ok (.bipush (-5), 2) := by decide +kernel
theorem dX6_goOn_79 : decode cX6_goOn 79 = .ok (.aload_n 0, 1) := by decide +kernel
theorem dX6_goOn_80 : decode cX6_goOn 80 = .ok (.getfield 40, 3) := by decide +kernel
theorem dX6_goOn_83 : decode cX6_goOn 83 = .ok (.invokevirtual 183, 3) := by decide +kernel
theorem dX6_goOn_86 : decode cX6_goOn 86 = .ok (.aload_n 0, 1) := by decide +kernel
theorem dX6_goOn_87 : decode cX6_goOn 87 = .ok (.bipush (-5), 2) := by decide +kernel
theorem dX6_goOn_89 : decode cX6_goOn 89 = .ok (.putfield 50, 3) := by decide +kernel
theorem dX6_goOn_92 : decode cX6_goOn 92 = .ok (.iload_n 2, 1) := by decide +kernel
theorem dX6_goOn_93 : decode cX6_goOn 93 = .ok (.ifCond .eq 7, 3) := by decide +kernel
theorem dX6_goOn_96 : decode cX6_goOn 96 = .ok (.iconst 0, 1) := by decide +kernel
theorem dX6_goOn_97 : decode cX6_goOn 97 = .ok (.goto 4, 3) := by decide +kernel
theorem dX6_goOn_100 : decode cX6_goOn 100 = .ok (.iconst 1, 1) := by decide +kernel
theorem dX6_goOn_101 : decode cX6_goOn 101 = .ok (.ireturn, 1) := by decide +kernel
theorem dX7_init_0 : decode cX7_init 0 = .ok (.aload_n 0, 1) := by decide +kernel
theorem dX7_init_1 : decode cX7_init 1 = .ok (.invokespecial 3, 3) := by decide +kernel
theorem dX7_init_4 : decode cX7_init 4 = .ok (.aload_n 0, 1) := by decide +kernel
theorem dX7_init_5 : decode cX7_init 5 = .ok (.bipush 18, 2) := by decide +kernel
theorem dX7_init_7 : decode cX7_init 7 = .ok (.anewarray 9, 3) := by decide +kernel
theorem dX7_init_10 : decode cX7_init 10 = .ok (.putfield 11, 3) := by decide +kernel
theorem dX7_init_13 : decode cX7_init 13 = .ok (.iconst 0, 1) := by decide +kernel
theorem dX7_init_14 : decode cX7_init 14 = .ok (.istore_n 1, 1) := by decide +kernel
theorem dX7_init_15 : decode cX7_init 15 = .ok (.iload_n 1, 1) := by decide +kernel
theorem dX7_init_16 : decode cX7_init 16 = .ok (.aload_n 0, 1) := by decide +kernel
theorem dX7_init_17 : decode cX7_init 17 = .ok (.getfield 11, 3) := by decide +kernel
theorem dX7_init_20 : decode cX7_init 20 = .ok (.arraylength, 1) := by decide +kernel
theorem dX7_init_21 : decode cX7_init 21 = .ok (.if_icmp .ge 22, 3) := by decide +kernel
theorem dX7_init_24 : decode cX7_init 24 = .ok (.aload_n 0, 1) := by decide +kernel
theorem dX7_init_25 : decode cX7_init 25 = .ok (.getfield 11, 3) := by decide +kernel
theorem dX7_init_28 : decode cX7_init 28 = .ok (.iload_n 1, 1) := by decide +kernel
theorem dX7_init_29 : decode cX7_init 29 = .ok (.new 9, 3) := by decide +kernel
theorem dX7_init_32 : decode cX7_init 32 = .ok (.dup, 1) := by decide +kernel
theorem dX7_init_33 : decode cX7_init 33 = .ok (.invokespecial 17, 3) := by decide +kernel
theorem dX7_init_36 : decode cX7_init 36 = .ok (.aastore, 1) := by decide +kernel
theorem dX7_init_37 : decode cX7_init 37 = .ok (.iinc 1 1, 3) := by decide +kernel
theorem dX7_init_40 : decode cX7_init 40 = .ok (.goto (-25), 3) := by decide +kernel
theorem dX7_init_43 : decode cX7_init 43 = .ok (.aload_n 0, 1) := by decide +kernel
theorem dX7_init_44 : decode cX7_init 44 = .ok (.iconst 0, 1) := by decide +kernel
theorem dX7_init_45 : decode cX7_init 45 = .ok (.putfield 18, 3) := by decide +kernel
theorem dX7_init_48 : decode cX7_init 48 = .ok (.aload_n 0, 1) := by decide +kernel
theorem dX7_init_49 : decode cX7_init 49 = .ok (.iconst 4, 1) := by decide +kernel
theorem dX7_init_50 : decode cX7_init 50 = .ok (.anewarray 22, 3) := by decide +kernel
theorem dX7_init_53 : decode cX7_init 53 = .ok (.putfield 24, 3) := by decide +kernel
theorem dX7_init_56 : decode cX7_init 56 = .ok (.iconst 0, 1) := by decide +kernel
theorem dX7_init_57 : decode cX7_init 57 = .ok (.istore_n 1, 1) := by decide +kernel
theorem dX7_init_58 : decode cX7_init 58 = .ok (.iload_n 1, 1) := by decide +kernel
theorem dX7_init_59 : decode cX7_init 59 = .ok (.aload_n 0, 1) := by decide +kernel
theorem dX7_init_60 : decode cX7_init 60 = .ok (.getfield 24, 3) := by decide +kernel
theorem dX7_init_63 : decode cX7_init 63 = .ok (.arraylength, 1) := by decide +kernel
theorem dX7_init_64 : decode cX7_init 64 = .ok (.if_icmp .ge 22, 3) := by decide +kernel
theorem dX7_init_67 : decode cX7_init 67 = .ok (.aload_n 0, 1) := by decide +kernel
theorem dX7_init_68 : decode cX7_init 68 = .ok (.getfield 24, 3) := by decide +kernel
theorem dX7_init_71 : decode cX7_init 71 = .ok (.iload_n 1, 1) := by decide +kernel
theorem dX7_init_72 : decode cX7_init 72 = .ok (.new 22, 3) := by decide +kernel
theorem dX7_init_75 : decode cX7_init 75 = .ok (.dup, 1) := by decide +kernel
theorem dX7_init_76 : decode cX7_init 76 = .ok (.invokespecial 28, 3) := by decide +kernel
theorem dX7_init_79 : decode cX7_init 79 = .ok (.aastore, 1) := by decide +kernel
theorem dX7_init_80 : decode cX7_init 80 = .ok (.iinc 1 1, 3) := by decide +kernel
theorem dX7_init_83 : decode cX7_init 83 = .ok (.goto (-25), 3) := by decide +kernel
theorem dX7_init_86 : decode cX7_init 86 = .ok (.aload_n 0, 1) := by decide +kernel
theorem dX7_init_87 : decode cX7_init 87 = .ok (.iconst 0, 1) := by decide +kernel
theorem dX7_init_88 : decode cX7_init 88 = .ok (.putfield 29, 3) := by decide +kernel
theorem dX7_init_91 : decode cX7_init 91 = .ok (.return_, 1) := by decide +kernel
theorem dX7_copyFrom_0 : decode cX7_copyFrom 0 = .ok (.aload_n 0, 1) := by decide +kernel
theorem dX7_copyFrom_1 : decode cX7_copyFrom 1 = .ok (.aload_n 1, 1) := by decide +kernel
theorem dX7_copyFrom_2 : decode cX7_copyFrom 2 = .ok (.getfield 18, 3) := by decide +kernel
theorem dX7_copyFrom_5 : decode cX7_copyFrom 5 = .ok (.putfield 18, 3) := by decide +kernel
theorem dX7_copyFrom_8 : decode cX7_copyFrom 8 = .ok (.iconst 0, 1) := by decide +kernel
theorem dX7_copyFrom_9 : decode cX7_copyFrom 9 = .ok (.istore_n 2, 1) := by decide +kernel
theorem dX7_copyFrom_10 : decode cX7_copyFrom 10 = .ok (.iload_n 2, 1) := by decide +kernel
theorem dX7_copyFrom_11 : decode cX7_copyFrom 11 = .ok (.aload_n 0, 1) := by decide +kernel
theorem dX7_copyFrom_12 : decode cX7_copyFrom 12 = .ok (.getfield 18, 3) := by decide +kernel
theorem dX7_copyFrom_15 : decode cX7_copyFrom 15 = .ok (.if_icmp .ge 24, 3) := by decide +kernel
theorem dX7_copyFrom_18 : decode cX7_copyFrom 18 = .ok (.aload_n 0, 1) := by decide +kernel
theorem dX7_copyFrom_19 : decode cX7_copyFrom 19 = .ok (.getfield 11, 3) := by decide +kernel
theorem dX7_copyFrom_22 : decode cX7_copyFrom 22 = .ok (.iload_n 2, 1) := by decide +kernel
theorem dX7_copyFrom_23 : decode cX7_copyFrom 23 = .ok (.aaload, 1) := by decide +kernel
theorem dX7_copyFrom_24 : decode cX7_copyFrom 24 = .ok (.aload_n 1, 1) := by decide +kernel
theorem dX7_copyFrom_25 : decode cX7_copyFrom 25 = .ok (.getfield 11, 3) := by decide +kernel
theorem dX7_copyFrom_28 : decode cX7_copyFrom 28 = .ok (.iload_n 2, 1) := by decide +kernel
theorem dX7_copyFrom_29 : decode cX7_copyFrom 29 = .ok (.aaload, 1) := by decide +kernel
theorem dX7_copyFrom_30 : decode cX7_copyFrom 30 = .ok (.invokevirtual 32, 3) := by decide +kernel
theorem dX7_copyFrom_33 : decode cX7_copyFrom 33 = .ok (.iinc 2 1, 3) := by decide +kernel
theorem dX7_copyFrom_36 : decode cX7_copyFrom 36 = .ok (.goto (-26), 3) := by decide +kernel
theorem dX7_copyFrom_39 : decode cX7_copyFrom 39 = .ok (.aload_n 0, 1) := by decide +kernel
theorem dX7_copyFrom_40 : decode cX7_copyFrom 40 = .ok (.aload_n 1, 1) := by decide +kernel
theorem dX7_copyFrom_41 : decode cX7_copyFrom 41 = .ok (.getfield 29, 3) := by decide +kernel
theorem dX7_copyFrom_44 : decode cX7_copyFrom 44 = .ok (.putfield 29, 3) := by decide +kernel
theorem dX7_copyFrom_47 : decode cX7_copyFrom 47 = .ok (.iconst 0, 1) := by decide +kernel
theorem dX7_copyFrom_48 : decode cX7_copyFrom 48 = .ok (.istore_n 2, 1) := by decide +kernel
theorem dX7_copyFrom_49 : decode cX7_copyFrom 49 = .ok (.iload_n 2, 1) := by decide +kernel
theorem dX7_copyFrom_50 : decode cX7_copyFrom 50 = .ok (.aload_n 0, 1) := by decide +kernel
theorem dX7_copyFrom_51 : decode cX7_copyFrom 51 = .ok (.getfield 29, 3) := by decide +kernel
theorem dX7_copyFrom_54 : decode cX7_copyFrom 54 = .ok (.if_icmp .ge 24, 3) := by decide +kernel
theorem dX7_copyFrom_57 : decode cX7_copyFrom 57 = .ok (.aload_n 0, 1) := by decide +kernel
theorem dX7_copyFrom_58 : decode cX7_copyFrom 58 = .ok (.getfield 24, 3) := by decide +kernel
theorem dX7_copyFrom_61 : decode cX7_copyFrom 61 = .ok (.iload_n 2, 1) := by decide +kernel
theorem dX7_copyFrom_62 : decode cX7_copyFrom 62 = .ok (.aaload, 1) := by decide +kernel
theorem dX7_copyFrom_63 : decode cX7_copyFrom 63 = .ok (.aload_n 1, 1) := by decide +kernel
theorem dX7_copyFrom_64 : decode cX7_copyFrom 64 = .ok (.getfield 24, 3) := by decide +kernel
theorem dX7_copyFrom_67 : decode cX7_copyFrom 67 = .ok (.iload_n 2, 1) := by decide +kernel
theorem dX7_copyFrom_68 : decode cX7_copyFrom 68 = .ok (.aaload, 1) := by decide +kernel
theorem dX7_copyFrom_69 : decode cX7_copyFrom 69 = .ok (.invokevirtual 36, 3) := by decide +kernel
theorem dX7_copyFrom_72 : decode cX7_copyFrom 72 = .ok (.iinc 2 1, 3) := by decide +kernel
theorem dX7_copyFrom_75 : decode cX7_copyFrom 75 = .ok (.goto (-26), 3) := by decide +kernel
theorem dX7_copyFrom_78 : decode cX7_copyFrom 78 = .ok (.return_, 1) := by decide +kernel
theorem dX7_hasSlot_0 : decode cX7_hasSlot 0 = .ok (.iload_n 0, 1) := by decide +kernel
theorem dX7_hasSlot_1 : decode cX7_hasSlot 1 = .ok (.ifCond .lt 13, 3) := by decide +kernel
theorem dX7_hasSlot_4 : decode cX7_hasSlot 4 = .ok (.iload_n 0, 1) := by decide +kernel
theorem dX7_hasSlot_5 : decode cX7_hasSlot 5 = .ok (.bipush 24, 2) := by decide +kernel
theorem dX7_hasSlot_7 : decode cX7_hasSlot 7 = .ok (.if_icmp .ge 7, 3) := by decide +kernel
theorem dX7_hasSlot_10 : decode cX7_hasSlot 10 = .ok (.iconst 1, 1) := by decide +kernel
theorem dX7_hasSlot_11 : decode cX7_hasSlot 11 = .ok (.goto 4, 3) := by decide +kernel
theorem dX7_hasSlot_14 : decode cX7_hasSlot 14 = .ok (.iconst 0, 1) := by decide +kernel
theorem dX7_hasSlot_15 : decode cX7_hasSlot 15 = .ok (.ireturn, 1) := by decide +kernel
theorem dX7_itemAt_0 : decode cX7_itemAt 0 = .ok (.iload_n 1, 1) := by decide +kernel
theorem dX7_itemAt_1 : decode cX7_itemAt 1 = .ok (.ifCond .lt 20, 3) := by decide +kernel
theorem dX7_itemAt_4 : decode cX7_itemAt 4 = .ok (.iload_n 1, 1) := by decide +kernel
theorem dX7_itemAt_5 : decode cX7_itemAt 5 = .ok (.aload_n 0, 1) := by decide +kernel
theorem dX7_itemAt_6 : decode cX7_itemAt 6 = .ok (.getfield 18, 3) := by decide +kernel
theorem dX7_itemAt_9 : decode cX7_itemAt 9 = .ok (.if_icmp .ge 12, 3) := by decide +kernel
theorem dX7_itemAt_12 : decode cX7_itemAt 12 = .ok (.aload_n 0, 1) := by decide +kernel
theorem dX7_itemAt_13 : decode cX7_itemAt 13 = .ok (.getfield 11, 3) := by decide +kernel
theorem dX7_itemAt_16 : decode cX7_itemAt 16 = .ok (.iload_n 1, 1) := by decide +kernel
theorem dX7_itemAt_17 : decode cX7_itemAt 17 = .ok (.aaload, 1) := by decide +kernel
theorem dX7_itemAt_18 : decode cX7_itemAt 18 = .ok (.goto 4, 3) := by decide +kernel
theorem dX7_itemAt_21 : decode cX7_itemAt 21 = .ok (.aconst_null, 1) := by decide +kernel
theorem dX7_itemAt_22 : decode cX7_itemAt 22 = .ok (.areturn, 1) := by decide +kernel
theorem dX7_driveAt_0 : decode cX7_driveAt 0 = .ok (.iload_n 1, 1) := by decide +kernel
theorem dX7_driveAt_1 : decode cX7_driveAt 1 = .ok (.ifCond .lt 20, 3) := by decide +kernel
theorem dX7_driveAt_4 : decode cX7_driveAt 4 = .ok (.iload_n 1, 1) := by decide +kernel
theorem dX7_driveAt_5 : decode cX7_driveAt 5 = .ok (.aload_n 0, 1) := by decide +kernel
theorem dX7_driveAt_6 : decode cX7_driveAt 6 = .ok (.getfield 29, 3) := by decide +kernel
theorem dX7_driveAt_9 : decode cX7_driveAt 9 = .ok (.if_icmp .ge 12, 3) := by decide +kernel
theorem dX7_driveAt_12 : decode cX7_driveAt 12 = .ok (.aload_n 0, 1) := by decide +kernel
theorem dX7_driveAt_13 : decode cX7_driveAt 13 = .ok (.getfield 24, 3) := by decide +kernel
theorem dX7_driveAt_16 : decode cX7_driveAt 16 = .ok (.iload_n 1, 1) := by decide +kernel
theorem dX7_driveAt_17 : decode cX7_driveAt 17 = .ok (.aaload, 1) := by decide +kernel
theorem dX7_driveAt_18 : decode cX7_driveAt 18 = .ok (.goto 4, 3) := by decide +kernel
theorem dX7_driveAt_21 : decode cX7_driveAt 21 = .ok (.aconst_null, 1) := by decide +kernel
theorem dX7_driveAt_22 : decode cX7_driveAt 22 = .ok (.areturn, 1) := by decide +kernel
theorem dX7_freeItem_0 : decode cX7_freeItem 0 = .ok (.aload_n 0, 1) := by decide +kernel
theorem dX7_freeItem_1 : decode cX7_freeItem 1 = .ok (.getfield 18, 3) := by decide +kernel
theorem dX7_freeItem_4 : decode cX7_freeItem 4 = .ok (.aload_n 0, 1) := by decide +kernel
theorem dX7_freeItem_5 : decode cX7_freeItem 5 = .ok (.getfield 11, 3) := by decide +kernel
theorem dX7_freeItem_8 : decode cX7_freeItem 8 = .ok (.arraylength, 1) := by decide +kernel
theorem dX7_freeItem_9 : decode cX7_freeItem 9 = .ok (.if_icmp .ge 15, 3) := by decide +kernel
theorem dX7_freeItem_12 : decode cX7_freeItem 12 = .ok (.aload_n 0, 1) := by decide +kernel
theorem dX7_freeItem_13 : decode cX7_freeItem 13 = .ok (.getfield 11, 3) := by decide +kernel
theorem dX7_freeItem_16 : decode cX7_freeItem 16 = .ok (.aload_n 0, 1) := by decide +kernel
theorem dX7_freeItem_17 : decode cX7_freeItem 17 = .ok (.getfield 18, 3) := by decide +kernel
theorem dX7_freeItem_20 : decode cX7_freeItem 20 = .ok (.aaload, 1) := by decide +kernel
theorem dX7_freeItem_21 : decode cX7_freeItem 21 = .ok (.goto 4, 3) := by decide +kernel
theorem dX7_freeItem_24 : decode cX7_freeItem 24 = .ok (.aconst_null, 1) := by decide +kernel
theorem dX7_freeItem_25 : decode cX7_freeItem 25 = .ok (.areturn, 1) := by decide +kernel
theorem dX7_freeDrive_0 : decode cX7_freeDrive 0 = .ok (.aload_n 0, 1) := by decide +kernel
theorem dX7_freeDrive_1 : decode cX7_freeDrive 1 = .ok (.getfield 29, 3) := by decide +kernel
theorem dX7_freeDrive_4 : decode cX7_freeDrive 4 = .ok (.aload_n 0, 1) := by decide +kernel
theorem dX7_freeDrive_5 : decode cX7_freeDrive 5 = .ok (.getfield 24, 3) := by decide +kernel
theorem dX7_freeDrive_8 : decode cX7_freeDrive 8 = .ok (.arraylength, 1) := by decide +kernel
theorem dX7_freeDrive_9 : decode cX7_freeDrive 9 = .ok (.if_icmp .ge 15, 3) := by decide +kernel
theorem dX7_freeDrive_12 : decode cX7_freeDrive 12 = .ok (.aload_n 0, 1) := by decide +kernel
theorem dX7_freeDrive_13 : decode cX7_freeDrive 13 = .ok (.getfield 24, 3) := by decide +kernel
theorem dX7_freeDrive_16 : decode cX7_freeDrive 16 = .ok (.aload_n 0, 1) := by decide +kernel
theorem dX7_freeDrive_17 : decode cX7_freeDrive 17 = .ok (.getfield 29, 3) := by decide +kernel
theorem dX7_freeDrive_20 : decode cX7_freeDrive 20 = .ok (.aaload, 1) := by decide +kernel
theorem dX7_freeDrive_21 : decode cX7_freeDrive 21 = .ok (.goto 4, 3) := by decide +kernel
theorem dX7_freeDrive_24 : decode cX7_freeDrive 24 = .ok (.aconst_null, 1) := by decide +kernel
theorem dX7_freeDrive_25 : decode cX7_freeDrive 25 = .ok (.areturn, 1) := by decide +kernel
theorem dX7_itemWithHome_0 : decode cX7_itemWithHome 0 = .ok (.iconst 0, 1) := by decide +kernel
theorem dX7_itemWithHome_1 : decode cX7_itemWithHome 1 = .ok (.istore_n 2, 1) := by decide +kernel
theorem dX7_itemWithHome_2 : decode cX7_itemWithHome 2 = .ok (.iload_n 2, 1) := by decide +kernel
theorem dX7_itemWithHome_3 : decode cX7_itemWithHome 3 = .ok (.aload_n 0, 1) := by decide +kernel
theorem dX7_itemWithHome_4 : decode cX7_itemWithHome 4 = .ok (.getfield 18, 3) := by decide +kernel
theorem dX7_itemWithHome_7 : decode cX7_itemWithHome 7 = .ok (.if_icmp .ge 24, 3) := by decide +kernel
theorem dX7_itemWithHome_10 : decode cX7_itemWithHome 10 = .ok (.aload_n 0, 1) := by decide +kernel
theorem dX7_itemWithHome_11 : decode cX7_itemWithHome 11 = .ok (.getfield 11, 3) := by decide +kernel
theorem dX7_itemWithHome_14 : decode cX7_itemWithHome 14 = .ok (.iload_n 2, 1) := by decide +kernel
theorem dX7_itemWithHome_15 : decode cX7_itemWithHome 15 = .ok (.aaload, 1) := by decide +kernel
theorem dX7_itemWithHome_16 : decode cX7_itemWithHome 16 = .ok (.getfield 39, 3) := by decide +kernel
theorem dX7_itemWithHome_19 : decode cX7_itemWithHome 19 = .ok (.iload_n 1, 1) := by decide +kernel
theorem dX7_itemWithHome_20 : decode cX7_itemWithHome 20 = .ok (.if_icmp .ne 5, 3) := by decide +kernel
theorem dX7_itemWithHome_23 : decode cX7_itemWithHome 23 = .ok (.iload_n 2, 1) := by decide +kernel
theorem dX7_itemWithHome_24 : decode cX7_itemWithHome 24 = .ok (.ireturn, 1) := by decide +kernel
theorem dX7_itemWithHome_25 : decode cX7_itemWithHome 25 = .ok (.iinc 2 1, 3) := by decide +kernel
theorem dX7_itemWithHome_28 : decode cX7_itemWithHome 28 = .ok (.goto (-26), 3) := by decide +kernel
theorem dX7_itemWithHome_31 : decode cX7_itemWithHome 31 = .ok (.bipush (-5), 2) := by decide +kernel
theorem dX7_itemWithHome_33 : decode cX7_itemWithHome 33 = .ok (.ireturn, 1) := by decide +kernel
theorem dX7_driveBeside_0 : decode cX7_driveBeside 0 = .ok (.iconst 0, 1) := by decide +kernel
theorem dX7_driveBeside_1 : decode cX7_driveBeside 1 = .ok (.istore_n 2, 1) := by decide +kernel
theorem dX7_driveBeside_2 : decode cX7_driveBeside 2 = .ok (.iload_n 2, 1) := by decide +kernel
theorem dX7_driveBeside_3 : decode cX7_driveBeside 3 = .ok (.aload_n 0, 1) := by decide +kernel
theorem dX7_driveBeside_4 : decode cX7_driveBeside 4 = .ok (.getfield 29, 3) := by decide +kernel
theorem dX7_driveBeside_7 : decode cX7_driveBeside 7 = .ok (.if_icmp .ge 24, 3) := by decide +kernel
theorem dX7_driveBeside_10 : decode cX7_driveBeside 10 = .ok (.aload_n 0, 1) := by decide +kernel
theorem dX7_driveBeside_11 : decode cX7_driveBeside 11 = .ok (.getfield 24, 3) := by decide +kernel
theorem dX7_driveBeside_14 : decode cX7_driveBeside 14 = .ok (.iload_n 2, 1) := by decide +kernel
theorem dX7_driveBeside_15 : decode cX7_driveBeside 15 = .ok (.aaload, 1) := by decide +kernel
theorem dX7_driveBeside_16 : decode cX7_driveBeside 16 = .ok (.getfield 42, 3) := by decide +kernel
theorem dX7_driveBeside_19 : decode cX7_driveBeside 19 = .ok (.iload_n 1, 1) := by decide +kernel
theorem dX7_driveBeside_20 : decode cX7_driveBeside 20 = .ok (.if_icmp .ne 5, 3) := by decide +kernel
theorem dX7_driveBeside_23 : decode cX7_driveBeside 23 = .ok (.iload_n 2, 1) := by decide +kernel
theorem dX7_driveBeside_24 : decode cX7_driveBeside 24 = .ok (.ireturn, 1) := by decide +kernel
theorem dX7_driveBeside_25 : decode cX7_driveBeside 25 = .ok (.iinc 2 1, 3) := by decide +kernel
theorem dX7_driveBeside_28 : decode cX7_driveBeside 28 = .ok (.goto (-26), 3) := by decide +kernel
theorem dX7_driveBeside_31 : decode cX7_driveBeside 31 = .ok (.bipush (-5), 2) := by decide +kernel
theorem dX7_driveBeside_33 : decode cX7_driveBeside 33 = .ok (.ireturn, 1) := by decide +kernel
theorem dX7_driveToRead_0 : decode cX7_driveToRead 0 = .ok (.bipush (-5), 2) := by decide +kernel
theorem dX7_driveToRead_2 : decode cX7_driveToRead 2 = .ok (.istore_n 1, 1) := by decide +kernel
theorem dX7_driveToRead_3 : decode cX7_driveToRead 3 = .ok (.fconst 0, 1) := by decide +kernel
theorem dX7_driveToRead_4 : decode cX7_driveToRead 4 = .ok (.fstore_n 2, 1) := by decide +kernel
theorem dX7_driveToRead_5 : decode cX7_driveToRead 5 = .ok (.iconst 0, 1) := by decide +kernel
theorem dX7_driveToRead_6 : decode cX7_driveToRead 6 = .ok (.istore_n 3, 1) := by decide +kernel
theorem dX7_driveToRead_7 : decode cX7_driveToRead 7 = .ok (.iload_n 3, 1) := by decide +kernel
theorem dX7_driveToRead_8 : decode cX7_driveToRead 8 = .ok (.aload_n 0, 1) := by decide +kernel
theorem dX7_driveToRead_9 : decode cX7_driveToRead 9 = .ok (.getfield 29, 3) := by decide +kernel
theorem dX7_driveToRead_12 : decode cX7_driveToRead 12 = .ok (.if_icmp .ge 49, 3) := by decide +kernel
theorem dX7_driveToRead_15 : decode cX7_driveToRead 15 = .ok (.aload_n 0, 1) := by decide +kernel
theorem dX7_driveToRead_16 : decode cX7_driveToRead 16 = .ok (.getfield 24, 3) := by decide +kernel
theorem dX7_driveToRead_19 : decode cX7_driveToRead 19 = .ok (.iload_n 3, 1) := by decide +kernel
theorem dX7_driveToRead_20 : decode cX7_driveToRead 20 = .ok (.aaload, 1) := by decide +kernel
theorem dX7_driveToRead_21 : decode cX7_driveToRead 21 = .ok (.astore 4, 2) := by decide +kernel
theorem dX7_driveToRead_23 : decode cX7_driveToRead 23 = .ok (.aload 4, 2) := by decide +kernel
theorem dX7_driveToRead_25 : decode cX7_driveToRead 25 = .ok (.invokevirtual 45, 3) := by decide +kernel
theorem dX7_driveToRead_28 : decode cX7_driveToRead 28 = .ok (.ifCond .ne 27, 3) := by decide +kernel
theorem dX7_driveToRead_31 : decode cX7_driveToRead 31 = .ok (.iload_n 1, 1) := by decide +kernel
theorem dX7_driveToRead_32 : decode cX7_driveToRead 32 = .ok (.bipush (-5), 2) := by decide +kernel
theorem dX7_driveToRead_34 : decode cX7_driveToRead 34 = .ok (.if_icmp .eq 13, 3) := by decide +kernel
theorem dX7_driveToRead_37 : decode cX7_driveToRead 37 = .ok (.aload 4, 2) := by decide +kernel
theorem dX7_driveToRead_39 : decode cX7_driveToRead 39 = .ok (.getfield 49, 3) := by decide +kernel
theorem dX7_driveToRead_42 : decode cX7_driveToRead 42 = .ok (.fload_n 2, 1) := by decide +kernel
theorem dX7_driveToRead_43 : decode cX7_driveToRead 43 = .ok (.fcmp .g, 1) := by decide +kernel
theorem dX7_driveToRead_44 : decode cX7_driveToRead 44 = .ok (.ifCond .ge 11, 3) := by decide +kernel
theorem dX7_driveToRead_47 : decode cX7_driveToRead 47 = .ok (.iload_n 3, 1) := by decide +kernel
theorem dX7_driveToRead_48 : decode cX7_driveToRead 48 = .ok (.istore_n 1, 1) := by decide +kernel
end
section
theorem dX7_driveToRead_49 : decode cX7_driveToRead 49 = .ok (.aload 4, 2) := by decide +kernel
theorem dX7_driveToRead_51 : decode cX7_driveToRead 51 = .ok (.getfield 49, 3) := by decide +kernel
theorem dX7_driveToRead_54 : decode cX7_driveToRead 54 = .ok (.fstore_n 2, 1) := by decide +kernel
theorem dX7_driveToRead_55 : decode cX7_driveToRead 55 = .ok (.iinc 3 1, 3) := by decide +kernel
theorem dX7_driveToRead_58 : decode cX7_driveToRead 58 = .ok (.goto (-51), 3) := by decide +kernel
theorem dX7_driveToRead_61 : decode cX7_driveToRead 61 = .ok (.iload_n 1, 1) := by decide +kernel
theorem dX7_driveToRead_62 : decode cX7_driveToRead 62 = .ok (.ireturn, 1) := by decide +kernel
theorem dX7_cleanerNearest_0 : decode cX7_cleanerNearest 0 = .ok (.bipush (-5), 2) := by decide +kernel
theorem dX7_cleanerNearest_2 : decode cX7_cleanerNearest 2 = .ok (.istore_n 2, 1) := by decide +kernel
theorem dX7_cleanerNearest_3 : decode cX7_cleanerNearest 3 = .ok (.bipush 24, 2) := by decide +kernel
theorem dX7_cleanerNearest_5 : decode cX7_cleanerNearest 5 = .ok (.istore_n 3, 1) := by decide +kernel
theorem dX7_cleanerNearest_6 : decode cX7_cleanerNearest 6 = .ok (.iconst 0, 1) := by decide +kernel
theorem dX7_cleanerNearest_7 : decode cX7_cleanerNearest 7 = .ok (.istore 4, 2) := by decide +kernel
theorem dX7_cleanerNearest_9 : decode cX7_cleanerNearest 9 = .ok (.iload 4, 2) := by decide +kernel
theorem dX7_cleanerNearest_11 : decode cX7_cleanerNearest 11 = .ok (.aload_n 0, 1) := by decide +kernel
theorem dX7_cleanerNearest_12 : decode cX7_cleanerNearest 12 = .ok (.getfield 18, 3) := by decide +kernel
theorem dX7_cleanerNearest_15 : decode cX7_cleanerNearest 15 = .ok (.if_icmp .ge 58, 3) := by decide +kernel
theorem dX7_cleanerNearest_18 : decode cX7_cleanerNearest 18 = .ok (.aload_n 0, 1) := by decide +kernel
theorem dX7_cleanerNearest_19 : decode cX7_cleanerNearest 19 = .ok (.getfield 11, 3) := by decide +kernel
theorem dX7_cleanerNearest_22 : decode cX7_cleanerNearest 22 = .ok (.iload 4, 2) := by decide +kernel
theorem dX7_cleanerNearest_24 : decode cX7_cleanerNearest 24 = .ok (.aaload, 1) := by decide +kernel
theorem dX7_cleanerNearest_25 : decode cX7_cleanerNearest 25 = .ok (.astore 5, 2) := by decide +kernel
theorem dX7_cleanerNearest_27 : decode cX7_cleanerNearest 27 = .ok (.aload 5, 2) := by decide +kernel
theorem dX7_cleanerNearest_29 : decode cX7_cleanerNearest 29 = .ok (.getfield 39, 3) := by decide +kernel
theorem dX7_cleanerNearest_32 : decode cX7_cleanerNearest 32 = .ok (.iload_n 1, 1) := by decide +kernel
theorem dX7_cleanerNearest_33 : decode cX7_cleanerNearest 33 = .ok (.isub, 1) := by decide +kernel
theorem dX7_cleanerNearest_34 : decode cX7_cleanerNearest 34 = .ok (.invokestatic 53, 3) := by decide +kernel
theorem dX7_cleanerNearest_37 : decode cX7_cleanerNearest 37 = .ok (.istore 6, 2) := by decide +kernel
theorem dX7_cleanerNearest_39 : decode cX7_cleanerNearest 39 = .ok (.aload 5, 2) := by decide +kernel
theorem dX7_cleanerNearest_41 : decode cX7_cleanerNearest 41 = .ok (.getfield 59, 3) := by decide +kernel
theorem dX7_cleanerNearest_44 : decode cX7_cleanerNearest 44 = .ok (.ifCond .eq 23, 3) := by decide +kernel
theorem dX7_cleanerNearest_47 : decode cX7_cleanerNearest 47 = .ok (.aload 5, 2) := by decide +kernel
theorem dX7_cleanerNearest_49 : decode cX7_cleanerNearest 49 = .ok (.getfield 63, 3) := by decide +kernel
theorem dX7_cleanerNearest_52 : decode cX7_cleanerNearest 52 = .ok (.ifCond .le 15, 3) := by decide +kernel
theorem dX7_cleanerNearest_55 : decode cX7_cleanerNearest 55 = .ok (.iload 6, 2) := by decide +kernel
theorem dX7_cleanerNearest_57 : decode cX7_cleanerNearest 57 = .ok (.iload_n 3, 1) := by decide +kernel
theorem dX7_cleanerNearest_58 : decode cX7_cleanerNearest 58 = .ok (.if_icmp .ge 9, 3) := by decide +kernel
theorem dX7_cleanerNearest_61 : decode cX7_cleanerNearest 61 = .ok (.iload 4, 2) := by decide +kernel
theorem dX7_cleanerNearest_63 : decode cX7_cleanerNearest 63 = .ok (.istore_n 2, 1) := by decide +kernel
theorem dX7_cleanerNearest_64 : decode cX7_cleanerNearest 64 = .ok (.iload 6, 2) := by decide +kernel
theorem dX7_cleanerNearest_66 : decode cX7_cleanerNearest 66 = .ok (.istore_n 3, 1) := by decide +kernel
theorem dX7_cleanerNearest_67 : decode cX7_cleanerNearest 67 = .ok (.iinc 4 1, 3) := by decide +kernel
theorem dX7_cleanerNearest_70 : decode cX7_cleanerNearest 70 = .ok (.goto (-61), 3) := by decide +kernel
theorem dX7_cleanerNearest_73 : decode cX7_cleanerNearest 73 = .ok (.iload_n 2, 1) := by decide +kernel
theorem dX7_cleanerNearest_74 : decode cX7_cleanerNearest 74 = .ok (.ireturn, 1) := by decide +kernel
theorem dX7_dustOfAll_0 : decode cX7_dustOfAll 0 = .ok (.fconst 0, 1) := by decide +kernel
theorem dX7_dustOfAll_1 : decode cX7_dustOfAll 1 = .ok (.fstore_n 1, 1) := by decide +kernel
theorem dX7_dustOfAll_2 : decode cX7_dustOfAll 2 = .ok (.iconst 0, 1) := by decide +kernel
theorem dX7_dustOfAll_3 : decode cX7_dustOfAll 3 = .ok (.istore_n 2, 1) := by decide +kernel
theorem dX7_dustOfAll_4 : decode cX7_dustOfAll 4 = .ok (.iload_n 2, 1) := by decide +kernel
theorem dX7_dustOfAll_5 : decode cX7_dustOfAll 5 = .ok (.aload_n 0, 1) := by decide +kernel
theorem dX7_dustOfAll_6 : decode cX7_dustOfAll 6 = .ok (.getfield 29, 3) := by decide +kernel
theorem dX7_dustOfAll_9 : decode cX7_dustOfAll 9 = .ok (.if_icmp .ge 21, 3) := by decide +kernel
theorem dX7_dustOfAll_12 : decode cX7_dustOfAll 12 = .ok (.fload_n 1, 1) := by decide +kernel
theorem dX7_dustOfAll_13 : decode cX7_dustOfAll 13 = .ok (.aload_n 0, 1) := by decide +kernel
theorem dX7_dustOfAll_14 : decode cX7_dustOfAll 14 = .ok (.getfield 24, 3) := by decide +kernel
theorem dX7_dustOfAll_17 : decode cX7_dustOfAll 17 = .ok (.iload_n 2, 1) := by decide +kernel
theorem dX7_dustOfAll_18 : decode cX7_dustOfAll 18 = .ok (.aaload, 1) := by decide +kernel
theorem dX7_dustOfAll_19 : decode cX7_dustOfAll 19 = .ok (.getfield 49, 3) := by decide +kernel
theorem dX7_dustOfAll_22 : decode cX7_dustOfAll 22 = .ok (.fadd, 1) := by decide +kernel
theorem dX7_dustOfAll_23 : decode cX7_dustOfAll 23 = .ok (.fstore_n 1, 1) := by decide +kernel
theorem dX7_dustOfAll_24 : decode cX7_dustOfAll 24 = .ok (.iinc 2 1, 3) := by decide +kernel
theorem dX7_dustOfAll_27 : decode cX7_dustOfAll 27 = .ok (.goto (-23), 3) := by decide +kernel
theorem dX7_dustOfAll_30 : decode cX7_dustOfAll 30 = .ok (.fload_n 1, 1) := by decide +kernel
theorem dX7_dustOfAll_31 : decode cX7_dustOfAll 31 = .ok (.freturn, 1) := by decide +kernel
theorem dX7_sumOverDrives_0 : decode cX7_sumOverDrives 0 = .ok (.iconst 0, 1) := by decide +kernel
theorem dX7_sumOverDrives_1 : decode cX7_sumOverDrives 1 = .ok (.istore_n 2, 1) := by decide +kernel
theorem dX7_sumOverDrives_2 : decode cX7_sumOverDrives 2 = .ok (.iconst 0, 1) := by decide +kernel
theorem dX7_sumOverDrives_3 : decode cX7_sumOverDrives 3 = .ok (.istore_n 3, 1) := by decide +kernel
theorem dX7_sumOverDrives_4 : decode cX7_sumOverDrives 4 = .ok (.iload_n 3, 1) := by decide +kernel
theorem dX7_sumOverDrives_5 : decode cX7_sumOverDrives 5 = .ok (.aload_n 0, 1) := by decide +kernel
theorem dX7_sumOverDrives_6 : decode cX7_sumOverDrives 6 = .ok (.getfield 29, 3) := by decide +kernel
theorem dX7_sumOverDrives_9 : decode cX7_sumOverDrives 9 = .ok (.if_icmp .ge 22, 3) := by decide +kernel
theorem dX7_sumOverDrives_12 : decode cX7_sumOverDrives 12 = .ok (.iload_n 2, 1) := by decide +kernel
theorem dX7_sumOverDrives_13 : decode cX7_sumOverDrives 13 = .ok (.aload_n 0, 1) := by decide +kernel
theorem dX7_sumOverDrives_14 : decode cX7_sumOverDrives 14 = .ok (.getfield 24, 3) := by decide +kernel
theorem dX7_sumOverDrives_17 : decode cX7_sumOverDrives 17 = .ok (.iload_n 3, 1) := by decide +kernel
theorem dX7_sumOverDrives_18 : decode cX7_sumOverDrives 18 = .ok (.aaload, 1) := by decide +kernel
theorem dX7_sumOverDrives_19 : decode cX7_sumOverDrives 19 = .ok (.iload_n 1, 1) := by decide +kernel
theorem dX7_sumOverDrives_20 : decode cX7_sumOverDrives 20 = .ok (.invokevirtual 66, 3) := by decide +kernel
theorem dX7_sumOverDrives_23 : decode cX7_sumOverDrives 23 = .ok (.iadd, 1) := by decide +kernel
theorem dX7_sumOverDrives_24 : decode cX7_sumOverDrives 24 = .ok (.istore_n 2, 1) := by decide +kernel
theorem dX7_sumOverDrives_25 : decode cX7_sumOverDrives 25 = .ok (.iinc 3 1, 3) := by decide +kernel
theorem dX7_sumOverDrives_28 : decode cX7_sumOverDrives 28 = .ok (.goto (-24), 3) := by decide +kernel
theorem dX7_sumOverDrives_31 : decode cX7_sumOverDrives 31 = .ok (.iload_n 2, 1) := by decide +kernel
theorem dX7_sumOverDrives_32 : decode cX7_sumOverDrives 32 = .ok (.ireturn, 1) := by decide +kernel
theorem dX7_usesOfAll_0 : decode cX7_usesOfAll 0 = .ok (.iconst 0, 1) := by decide +kernel
theorem dX7_usesOfAll_1 : decode cX7_usesOfAll 1 = .ok (.istore_n 1, 1) := by decide +kernel
theorem dX7_usesOfAll_2 : decode cX7_usesOfAll 2 = .ok (.iconst 0, 1) := by decide +kernel
theorem dX7_usesOfAll_3 : decode cX7_usesOfAll 3 = .ok (.istore_n 2, 1) := by decide +kernel
theorem dX7_usesOfAll_4 : decode cX7_usesOfAll 4 = .ok (.iload_n 2, 1) := by decide +kernel
theorem dX7_usesOfAll_5 : decode cX7_usesOfAll 5 = .ok (.aload_n 0, 1) := by decide +kernel
theorem dX7_usesOfAll_6 : decode cX7_usesOfAll 6 = .ok (.getfield 18, 3) := by decide +kernel
theorem dX7_usesOfAll_9 : decode cX7_usesOfAll 9 = .ok (.if_icmp .ge 37, 3) := by decide +kernel
theorem dX7_usesOfAll_12 : decode cX7_usesOfAll 12 = .ok (.iload_n 1, 1) := by decide +kernel
theorem dX7_usesOfAll_13 : decode cX7_usesOfAll 13 = .ok (.aload_n 0, 1) := by decide +kernel
theorem dX7_usesOfAll_14 : decode cX7_usesOfAll 14 = .ok (.getfield 11, 3) := by decide +kernel
theorem dX7_usesOfAll_17 : decode cX7_usesOfAll 17 = .ok (.iload_n 2, 1) := by decide +kernel
theorem dX7_usesOfAll_18 : decode cX7_usesOfAll 18 = .ok (.aaload, 1) := by decide +kernel
theorem dX7_usesOfAll_19 : decode cX7_usesOfAll 19 = .ok (.getfield 59, 3) := by decide +kernel
theorem dX7_usesOfAll_22 : decode cX7_usesOfAll 22 = .ok (.ifCond .eq 15, 3) := by decide +kernel
theorem dX7_usesOfAll_25 : decode cX7_usesOfAll 25 = .ok (.aload_n 0, 1) := by decide +kernel
theorem dX7_usesOfAll_26 : decode cX7_usesOfAll 26 = .ok (.getfield 11, 3) := by decide +kernel
theorem dX7_usesOfAll_29 : decode cX7_usesOfAll 29 = .ok (.iload_n 2, 1) := by decide +kernel
theorem dX7_usesOfAll_30 : decode cX7_usesOfAll 30 = .ok (.aaload, 1) := by decide +kernel
theorem dX7_usesOfAll_31 : decode cX7_usesOfAll 31 = .ok (.getfield 63, 3) := by decide +kernel
theorem dX7_usesOfAll_34 : decode cX7_usesOfAll 34 = .ok (.goto 4, 3) := by decide +kernel
theorem dX7_usesOfAll_37 : decode cX7_usesOfAll 37 = .ok (.iconst 0, 1) := by decide +kernel
theorem dX7_usesOfAll_38 : decode cX7_usesOfAll 38 = .ok (.iadd, 1) := by decide +kernel
theorem dX7_usesOfAll_39 : decode cX7_usesOfAll 39 = .ok (.istore_n 1, 1) := by decide +kernel
theorem dX7_usesOfAll_40 : decode cX7_usesOfAll 40 = .ok (.iinc 2 1, 3) := by decide +kernel
theorem dX7_usesOfAll_43 : decode cX7_usesOfAll 43 = .ok (.goto (-39), 3) := by decide +kernel
theorem dX7_usesOfAll_46 : decode cX7_usesOfAll 46 = .ok (.iload_n 1, 1) := by decide +kernel
theorem dX7_usesOfAll_47 : decode cX7_usesOfAll 47 = .ok (.ireturn, 1) := by decide +kernel
theorem dX8_init_0 : decode cX8_init 0 = .ok (.aload_n 0, 1) := by decide +kernel
theorem dX8_init_1 : decode cX8_init 1 = .ok (.invokespecial 3, 3) := by decide +kernel
theorem dX8_init_4 : decode cX8_init 4 = .ok (.aload_n 0, 1) := by decide +kernel
theorem dX8_init_5 : decode cX8_init 5 = .ok (.bipush 60, 2) := by decide +kernel
theorem dX8_init_7 : decode cX8_init 7 = .ok (.newarray .char, 2) := by decide +kernel
theorem dX8_init_9 : decode cX8_init 9 = .ok (.putfield 9, 3) := by decide +kernel
theorem dX8_init_12 : decode cX8_init 12 = .ok (.aload_n 0, 1) := by decide +kernel
theorem dX8_init_13 : decode cX8_init 13 = .ok (.iconst 0, 1) := by decide +kernel
theorem dX8_init_14 : decode cX8_init 14 = .ok (.putfield 15, 3) := by decide +kernel
theorem dX8_init_17 : decode cX8_init 17 = .ok (.aload_n 0, 1) := by decide +kernel
theorem dX8_init_18 : decode cX8_init 18 = .ok (.iconst 0, 1) := by decide +kernel
theorem dX8_init_19 : decode cX8_init 19 = .ok (.putfield 19, 3) := by decide +kernel
theorem dX8_init_22 : decode cX8_init 22 = .ok (.aload_n 0, 1) := by decide +kernel
theorem dX8_init_23 : decode cX8_init 23 = .ok (.bipush 60, 2) := by decide +kernel
theorem dX8_init_25 : decode cX8_init 25 = .ok (.newarray .int, 2) := by decide +kernel
theorem dX8_init_27 : decode cX8_init 27 = .ok (.putfield 22, 3) := by decide +kernel
theorem dX8_init_30 : decode cX8_init 30 = .ok (.aload_n 0, 1) := by decide +kernel
theorem dX8_init_31 : decode cX8_init 31 = .ok (.bipush 60, 2) := by decide +kernel
theorem dX8_init_33 : decode cX8_init 33 = .ok (.newarray .int, 2) := by decide +kernel
theorem dX8_init_35 : decode cX8_init 35 = .ok (.putfield 26, 3) := by decide +kernel
theorem dX8_init_38 : decode cX8_init 38 = .ok (.aload_n 0, 1) := by decide +kernel
theorem dX8_init_39 : decode cX8_init 39 = .ok (.bipush 60, 2) := by decide +kernel
theorem dX8_init_41 : decode cX8_init 41 = .ok (.newarray .int, 2) := by decide +kernel
theorem dX8_init_43 : decode cX8_init 43 = .ok (.putfield 29, 3) := by decide +kernel
theorem dX8_init_46 : decode cX8_init 46 = .ok (.aload_n 0, 1) := by decide +kernel
theorem dX8_init_47 : decode cX8_init 47 = .ok (.iconst 0, 1) := by decide +kernel
theorem dX8_init_48 : decode cX8_init 48 = .ok (.putfield 32, 3) := by decide +kernel
theorem dX8_init_51 : decode cX8_init 51 = .ok (.return_, 1) := by decide +kernel
theorem dX9_init_0 : decode cX9_init 0 = .ok (.aload_n 0, 1) := by decide +kernel
theorem dX9_init_1 : decode cX9_init 1 = .ok (.invokespecial 1, 3) := by decide +kernel
theorem dX9_init_4 : decode cX9_init 4 = .ok (.aload_n 0, 1) := by decide +kernel
theorem dX9_init_5 : decode cX9_init 5 = .ok (.new 7, 3) := by decide +kernel
theorem dX9_init_8 : decode cX9_init 8 = .ok (.dup, 1) := by decide +kernel
theorem dX9_init_9 : decode cX9_init 9 = .ok (.invokespecial 9, 3) := by decide +kernel
theorem dX9_init_12 : decode cX9_init 12 = .ok (.putfield 10, 3) := by decide +kernel
theorem dX9_init_15 : decode cX9_init 15 = .ok (.aload_n 0, 1) := by decide +kernel
theorem dX9_init_16 : decode cX9_init 16 = .ok (.new 16, 3) := by decide +kernel
theorem dX9_init_19 : decode cX9_init 19 = .ok (.dup, 1) := by decide +kernel
theorem dX9_init_20 : decode cX9_init 20 = .ok (.invokespecial 18, 3) := by decide +kernel
theorem dX9_init_23 : decode cX9_init 23 = .ok (.putfield 19, 3) := by decide +kernel
theorem dX9_init_26 : decode cX9_init 26 = .ok (.aload_n 0, 1) := by decide +kernel
theorem dX9_init_27 : decode cX9_init 27 = .ok (.new 7, 3) := by decide +kernel
theorem dX9_init_30 : decode cX9_init 30 = .ok (.dup, 1) := by decide +kernel
theorem dX9_init_31 : decode cX9_init 31 = .ok (.invokespecial 9, 3) := by decide +kernel
theorem dX9_init_34 : decode cX9_init 34 = .ok (.putfield 23, 3) := by decide +kernel
theorem dX9_init_37 : decode cX9_init 37 = .ok (.aload_n 0, 1) := by decide +kernel
theorem dX9_init_38 : decode cX9_init 38 = .ok (.iconst 0, 1) := by decide +kernel
theorem dX9_init_39 : decode cX9_init 39 = .ok (.putfield 26, 3) := by decide +kernel
theorem dX9_init_42 : decode cX9_init 42 = .ok (.aload_n 0, 1) := by decide +kernel
theorem dX9_init_43 : decode cX9_init 43 = .ok (.new 7, 3) := by decide +kernel
theorem dX9_init_46 : decode cX9_init 46 = .ok (.dup, 1) := by decide +kernel
theorem dX9_init_47 : decode cX9_init 47 = .ok (.invokespecial 9, 3) := by decide +kernel
theorem dX9_init_50 : decode cX9_init 50 = .ok (.putfield 30, 3) := by decide +kernel
theorem dX9_init_53 : decode cX9_init 53 = .ok (.aload_n 0, 1) := by decide +kernel
theorem dX9_init_54 : decode cX9_init 54 = .ok (.new 33, 3) := by decide +kernel
theorem dX9_init_57 : decode cX9_init 57 = .ok (.dup, 1) := by decide +kernel
theorem dX9_init_58 : decode cX9_init 58 = .ok (.invokespecial 35, 3) := by decide +kernel
theorem dX9_init_61 : decode cX9_init 61 = .ok (.putfield 36, 3) := by decide +kernel
theorem dX9_init_64 : decode cX9_init 64 = .ok (.return_, 1) := by decide +kernel
theorem dX9_addDrive_0 : decode cX9_addDrive 0 = .ok (.iload_n 1, 1) := by decide +kernel
theorem dX9_addDrive_1 : decode cX9_addDrive 1 = .ok (.invokestatic 40, 3) := by decide +kernel
theorem dX9_addDrive_4 : decode cX9_addDrive 4 = .ok (.ifCond .ne 5, 3) := by decide +kernel
theorem dX9_addDrive_7 : decode cX9_addDrive 7 = .ok (.iconst (-1), 1) := by decide +kernel
theorem dX9_addDrive_8 : decode cX9_addDrive 8 = .ok (.ireturn, 1) := by decide +kernel
theorem dX9_addDrive_9 : decode cX9_addDrive 9 = .ok (.aload_n 0, 1) := by decide +kernel
theorem dX9_addDrive_10 : decode cX9_addDrive 10 = .ok (.getfield 10, 3) := by decide +kernel
theorem dX9_addDrive_13 : decode cX9_addDrive 13 = .ok (.getfield 46, 3) := by decide +kernel
theorem dX9_addDrive_16 : decode cX9_addDrive 16 = .ok (.iload_n 1, 1) := by decide +kernel
theorem dX9_addDrive_17 : decode cX9_addDrive 17 = .ok (.invokevirtual 50, 3) := by decide +kernel
theorem dX9_addDrive_20 : decode cX9_addDrive 20 = .ok (.bipush (-5), 2) := by decide +kernel
theorem dX9_addDrive_22 : decode cX9_addDrive 22 = .ok (.if_icmp .eq 6, 3) := by decide +kernel
theorem dX9_addDrive_25 : decode cX9_addDrive 25 = .ok (.bipush (-4), 2) := by decide +kernel
theorem dX9_addDrive_27 : decode cX9_addDrive 27 = .ok (.ireturn, 1) := by decide +kernel
theorem dX9_addDrive_28 : decode cX9_addDrive 28 = .ok (.aload_n 0, 1) := by decide +kernel
theorem dX9_addDrive_29 : decode cX9_addDrive 29 = .ok (.getfield 10, 3) := by decide +kernel
theorem dX9_addDrive_32 : decode cX9_addDrive 32 = .ok (.getfield 46, 3) := by decide +kernel
theorem dX9_addDrive_35 : decode cX9_addDrive 35 = .ok (.invokevirtual 54, 3) := by decide +kernel
theorem dX9_addDrive_38 : decode cX9_addDrive 38 = .ok (.astore_n 2, 1) := by decide +kernel
theorem dX9_addDrive_39 : decode cX9_addDrive 39 = .ok (.aload_n 2, 1) := by decide +kernel
theorem dX9_addDrive_40 : decode cX9_addDrive 40 = .ok (.ifnonnull 6, 3) := by decide +kernel
theorem dX9_addDrive_43 : decode cX9_addDrive 43 = .ok (.bipush (-3), 2) := by decide +kernel
theorem dX9_addDrive_45 : decode cX9_addDrive 45 = .ok (.ireturn, 1) := by decide +kernel
theorem dX9_addDrive_46 : decode cX9_addDrive 46 = .ok (.aload_n 0, 1) := by decide +kernel
theorem dX9_addDrive_47 : decode cX9_addDrive 47 = .ok (.getfield 19, 3) := by decide +kernel
theorem dX9_addDrive_50 : decode cX9_addDrive 50 = .ok (.aload_n 0, 1) := by decide +kernel
theorem dX9_addDrive_51 : decode cX9_addDrive 51 = .ok (.getfield 10, 3) := by decide +kernel
theorem dX9_addDrive_54 : decode cX9_addDrive 54 = .ok (.invokevirtual 58, 3) := by decide +kernel
theorem dX9_addDrive_57 : decode cX9_addDrive 57 = .ok (.aload_n 2, 1) := by decide +kernel
theorem dX9_addDrive_58 : decode cX9_addDrive 58 = .ok (.iload_n 1, 1) := by decide +kernel
theorem dX9_addDrive_59 : decode cX9_addDrive 59 = .ok (.invokevirtual 62, 3) := by decide +kernel
theorem dX9_addDrive_62 : decode cX9_addDrive 62 = .ok (.aload_n 0, 1) := by decide +kernel
theorem dX9_addDrive_63 : decode cX9_addDrive 63 = .ok (.getfield 10, 3) := by decide +kernel
theorem dX9_addDrive_66 : decode cX9_addDrive 66 = .ok (.getfield 46, 3) := by decide +kernel
theorem dX9_addDrive_69 : decode cX9_addDrive 69 = .ok (.dup, 1) := by decide +kernel
theorem dX9_addDrive_70 : decode cX9_addDrive 70 = .ok (.getfield 68, 3) := by decide +kernel
theorem dX9_addDrive_73 : decode cX9_addDrive 73 = .ok (.dup_x1, 1) := by decide +kernel
theorem dX9_addDrive_74 : decode cX9_addDrive 74 = .ok (.iconst 1, 1) := by decide +kernel
theorem dX9_addDrive_75 : decode cX9_addDrive 75 = .ok (.iadd, 1) := by decide +kernel
theorem dX9_addDrive_76 : decode cX9_addDrive 76 = .ok (.putfield 68, 3) := by decide +kernel
theorem dX9_addDrive_79 : decode cX9_addDrive 79 = .ok (.ireturn, 1) := by decide +kernel
theorem dX9_addTape_0 : decode cX9_addTape 0 = .ok (.iload_n 1, 1) := by decide +kernel
theorem dX9_addTape_1 : decode cX9_addTape 1 = .ok (.invokestatic 40, 3) := by decide +kernel
theorem dX9_addTape_4 : decode cX9_addTape 4 = .ok (.ifCond .ne 5, 3) := by decide +kernel
theorem dX9_addTape_7 : decode cX9_addTape 7 = .ok (.iconst (-1), 1) := by decide +kernel
theorem dX9_addTape_8 : decode cX9_addTape 8 = .ok (.ireturn, 1) := by decide +kernel
theorem dX9_addTape_9 : decode cX9_addTape 9 = .ok (.iload_n 2, 1) := by decide +kernel
theorem dX9_addTape_10 : decode cX9_addTape 10 = .ok (.iconst 0, 1) := by decide +kernel
theorem dX9_addTape_11 : decode cX9_addTape 11 = .ok (.ldc 72, 2) := by decide +kernel
theorem dX9_addTape_13 : decode cX9_addTape 13 = .ok (.invokestatic 73, 3) := by decide +kernel
theorem dX9_addTape_16 : decode cX9_addTape 16 = .ok (.ifCond .ne 6, 3) := by decide +kernel
theorem dX9_addTape_19 : decode cX9_addTape 19 = .ok (.bipush (-2), 2) := by decide +kernel
theorem dX9_addTape_21 : decode cX9_addTape 21 = .ok (.ireturn, 1) := by decide +kernel
theorem dX9_addTape_22 : decode cX9_addTape 22 = .ok (.aload_n 0, 1) := by decide +kernel
theorem dX9_addTape_23 : decode cX9_addTape 23 = .ok (.getfield 10, 3) := by decide +kernel
theorem dX9_addTape_26 : decode cX9_addTape 26 = .ok (.iload_n 1, 1) := by decide +kernel
theorem dX9_addTape_27 : decode cX9_addTape 27 = .ok (.invokevirtual 77, 3) := by decide +kernel
theorem dX9_addTape_30 : decode cX9_addTape 30 = .ok (.ifCond .eq 6, 3) := by decide +kernel
theorem dX9_addTape_33 : decode cX9_addTape 33 = .ok (.bipush (-4), 2) := by decide +kernel
theorem dX9_addTape_35 : decode cX9_addTape 35 = .ok (.ireturn, 1) := by decide +kernel
theorem dX9_addTape_36 : decode cX9_addTape 36 = .ok (.aload_n 0, 1) := by decide +kernel
theorem dX9_addTape_37 : decode cX9_addTape 37 = .ok (.getfield 10, 3) := by decide +kernel
theorem dX9_addTape_40 : decode cX9_addTape 40 = .ok (.getfield 46, 3) := by decide +kernel
theorem dX9_addTape_43 : decode cX9_addTape 43 = .ok (.invokevirtual 80, 3) := by decide +kernel
theorem dX9_addTape_46 : decode cX9_addTape 46 = .ok (.astore_n 3, 1) := by decide +kernel
theorem dX9_addTape_47 : decode cX9_addTape 47 = .ok (.aload_n 3, 1) := by decide +kernel
theorem dX9_addTape_48 : decode cX9_addTape 48 = .ok (.ifnonnull 6, 3) := by decide +kernel
theorem dX9_addTape_51 : decode cX9_addTape 51 = .ok (.bipush (-3), 2) := by decide +kernel
theorem dX9_addTape_53 : decode cX9_addTape 53 = .ok (.ireturn, 1) := by decide +kernel
theorem dX9_addTape_54 : decode cX9_addTape 54 = .ok (.aload_n 0, 1) := by decide +kernel
theorem dX9_addTape_55 : decode cX9_addTape 55 = .ok (.getfield 19, 3) := by decide +kernel
theorem dX9_addTape_58 : decode cX9_addTape 58 = .ok (.aload_n 0, 1) := by decide +kernel
theorem dX9_addTape_59 : decode cX9_addTape 59 = .ok (.getfield 10, 3) := by decide +kernel
theorem dX9_addTape_62 : decode cX9_addTape 62 = .ok (.invokevirtual 58, 3) := by decide +kernel
theorem dX9_addTape_65 : decode cX9_addTape 65 = .ok (.aload_n 3, 1) := by decide +kernel
theorem dX9_addTape_66 : decode cX9_addTape 66 = .ok (.iload_n 1, 1) := by decide +kernel
theorem dX9_addTape_67 : decode cX9_addTape 67 = .ok (.iload_n 2, 1) := by decide +kernel
theorem dX9_addTape_68 : decode cX9_addTape 68 = .ok (.iload_n 2, 1) := by decide +kernel
theorem dX9_addTape_69 : decode cX9_addTape 69 = .ok (.invokestatic 84, 3) := by decide +kernel
theorem dX9_addTape_72 : decode cX9_addTape 72 = .ok (.invokevirtual 88, 3) := by decide +kernel
theorem dX9_addTape_75 : decode cX9_addTape 75 = .ok (.aload_n 0, 1) := by decide +kernel
theorem dX9_addTape_76 : decode cX9_addTape 76 = .ok (.getfield 10, 3) := by decide +kernel
theorem dX9_addTape_79 : decode cX9_addTape 79 = .ok (.getfield 46, 3) := by decide +kernel
theorem dX9_addTape_82 : decode cX9_addTape 82 = .ok (.dup, 1) := by decide +kernel
theorem dX9_addTape_83 : decode cX9_addTape 83 = .ok (.getfield 94, 3) := by decide +kernel
theorem dX9_addTape_86 : decode cX9_addTape 86 = .ok (.dup_x1, 1) := by decide +kernel
theorem dX9_addTape_87 : decode cX9_addTape 87 = .ok (.iconst 1, 1) := by decide +kernel
theorem dX9_addTape_88 : decode cX9_addTape 88 = .ok (.iadd, 1) := by decide +kernel
theorem dX9_addTape_89 : decode cX9_addTape 89 = .ok (.putfield 94, 3) := by decide +kernel
theorem dX9_addTape_92 : decode cX9_addTape 92 = .ok (.ireturn, 1) := by decide +kernel
theorem dX9_addCleaner_0 : decode cX9_addCleaner 0 = .ok (.iload_n 1, 1) := by decide +kernel
theorem dX9_addCleaner_1 : decode cX9_addCleaner 1 = .ok (.invokestatic 40, 3) := by decide +kernel
theorem dX9_addCleaner_4 : decode cX9_addCleaner 4 = .ok (.ifCond .ne 5, 3) := by decide +kernel
theorem dX9_addCleaner_7 : decode cX9_addCleaner 7 = .ok (.iconst (-1), 1) := by decide +kernel
theorem dX9_addCleaner_8 : decode cX9_addCleaner 8 = .ok (.ireturn, 1) := by decide +kernel
theorem dX9_addCleaner_9 : decode cX9_addCleaner 9 = .ok (.iload_n 2, 1) := by decide +kernel
theorem dX9_addCleaner_10 : decode cX9_addCleaner 10 = .ok (.iconst 1, 1) := by decide +kernel
theorem dX9_addCleaner_11 : decode cX9_addCleaner 11 = .ok (.bipush 50, 2) := by decide +kernel
theorem dX9_addCleaner_13 : decode cX9_addCleaner 13 = .ok (.invokestatic 73, 3) := by decide +kernel
theorem dX9_addCleaner_16 : decode cX9_addCleaner 16 = .ok (.ifCond .ne 6, 3) := by decide +kernel
theorem dX9_addCleaner_19 : decode cX9_addCleaner 19 = .ok (.bipush (-2), 2) := by decide +kernel
theorem dX9_addCleaner_21 : decode cX9_addCleaner 21 = .ok (.ireturn, 1) := by decide +kernel
theorem dX9_addCleaner_22 : decode cX9_addCleaner 22 = .ok (.aload_n 0, 1) := by decide +kernel
theorem dX9_addCleaner_23 : decode cX9_addCleaner 23 = .ok (.getfield 10, 3) := by decide +kernel
theorem dX9_addCleaner_26 : decode cX9_addCleaner 26 = .ok (.iload_n 1, 1) := by decide +kernel
theorem dX9_addCleaner_27 : decode cX9_addCleaner 27 = .ok (.invokevirtual 77, 3) := by decide +kernel
theorem dX9_addCleaner_30 : decode cX9_addCleaner 30 = .ok (.ifCond .eq 6, 3) := by decide +kernel
theorem dX9_addCleaner_33 : decode cX9_addCleaner 33 = .ok (.bipush (-4), 2) := by decide +kernel
theorem dX9_addCleaner_35 : decode cX9_addCleaner 35 = .ok (.ireturn, 1) := by decide +kernel
theorem dX9_addCleaner_36 : decode cX9_addCleaner 36 = .ok (.aload_n 0, 1) := by decide +kernel
theorem dX9_addCleaner_37 : decode cX9_addCleaner 37 = .ok (.getfield 10, 3) := by decide +kernel
theorem dX9_addCleaner_40 : decode cX9_addCleaner 40 = .ok (.getfield 46, 3) := by decide +kernel
theorem dX9_addCleaner_43 : decode cX9_addCleaner 43 = .ok (.invokevirtual 80, 3) := by decide +kernel
theorem dX9_addCleaner_46 : decode cX9_addCleaner 46 = .ok (.astore_n 3, 1) := by decide +kernel
theorem dX9_addCleaner_47 : decode cX9_addCleaner 47 = .ok (.aload_n 3, 1) := by decide +kernel
theorem dX9_addCleaner_48 : decode cX9_addCleaner 48 = .ok (.ifnonnull 6, 3) := by decide +kernel
theorem dX9_addCleaner_51 : decode cX9_addCleaner 51 = .ok (.bipush (-3), 2) := by decide +kernel
theorem dX9_addCleaner_53 : decode cX9_addCleaner 53 = .ok (.ireturn, 1) := by decide +kernel
theorem dX9_addCleaner_54 : decode cX9_addCleaner 54 = .ok (.aload_n 0, 1) := by decide +kernel
theorem dX9_addCleaner_55 : decode cX9_addCleaner 55 = .ok (.getfield 19, 3) := by decide +kernel
theorem dX9_addCleaner_58 : decode cX9_addCleaner 58 = .ok (.aload_n 0, 1) := by decide +kernel
theorem dX9_addCleaner_59 : decode cX9_addCleaner 59 = .ok (.getfield 10, 3) := by decide +kernel
theorem dX9_addCleaner_62 : decode cX9_addCleaner 62 = .ok (.invokevirtual 58, 3) := by decide +kernel
theorem dX9_addCleaner_65 : decode cX9_addCleaner 65 = .ok (.aload_n 3, 1) := by decide +kernel
theorem dX9_addCleaner_66 : decode cX9_addCleaner 66 = .ok (.iload_n 1, 1) := by decide +kernel
theorem dX9_addCleaner_67 : decode cX9_addCleaner 67 = .ok (.iload_n 2, 1) := by decide +kernel
theorem dX9_addCleaner_68 : decode cX9_addCleaner 68 = .ok (.invokevirtual 97, 3) := by decide +kernel
theorem dX9_addCleaner_71 : decode cX9_addCleaner 71 = .ok (.aload_n 0, 1) := by decide +kernel
theorem dX9_addCleaner_72 : decode cX9_addCleaner 72 = .ok (.getfield 10, 3) := by decide +kernel
theorem dX9_addCleaner_75 : decode cX9_addCleaner 75 = .ok (.getfield 46, 3) := by decide +kernel
theorem dX9_addCleaner_78 : decode cX9_addCleaner 78 = .ok (.dup, 1) := by decide +kernel
theorem dX9_addCleaner_79 : decode cX9_addCleaner 79 = .ok (.getfield 94, 3) := by decide +kernel
theorem dX9_addCleaner_82 : decode cX9_addCleaner 82 = .ok (.dup_x1, 1) := by decide +kernel
theorem dX9_addCleaner_83 : decode cX9_addCleaner 83 = .ok (.iconst 1, 1) := by decide +kernel
theorem dX9_addCleaner_84 : decode cX9_addCleaner 84 = .ok (.iadd, 1) := by decide +kernel
theorem dX9_addCleaner_85 : decode cX9_addCleaner 85 = .ok (.putfield 94, 3) := by decide +kernel
theorem dX9_addCleaner_88 : decode cX9_addCleaner 88 = .ok (.ireturn, 1) := by decide +kernel
theorem dX9_refill_0 : decode cX9_refill 0 = .ok (.aload_n 0, 1) := by decide +kernel
theorem dX9_refill_1 : decode cX9_refill 1 = .ok (.getfield 10, 3) := by decide +kernel
theorem dX9_refill_4 : decode cX9_refill 4 = .ok (.getfield 46, 3) := by decide +kernel
theorem dX9_refill_7 : decode cX9_refill 7 = .ok (.iload_n 1, 1) := by decide +kernel
theorem dX9_refill_8 : decode cX9_refill 8 = .ok (.invokevirtual 101, 3) := by decide +kernel
theorem dX9_refill_11 : decode cX9_refill 11 = .ok (.astore_n 3, 1) := by decide +kernel
theorem dX9_refill_12 : decode cX9_refill 12 = .ok (.aload_n 3, 1) := by decide +kernel
theorem dX9_refill_13 : decode cX9_refill 13 = .ok (.ifnonnull 5, 3) := by decide +kernel
theorem dX9_refill_16 : decode cX9_refill 16 = .ok (.iconst (-1), 1) := by decide +kernel
theorem dX9_refill_17 : decode cX9_refill 17 = .ok (.ireturn, 1) := by decide +kernel
theorem dX9_refill_18 : decode cX9_refill 18 = .ok (.iload_n 2, 1) := by decide +kernel
theorem dX9_refill_19 : decode cX9_refill 19 = .ok (.iconst 1, 1) := by decide +kernel
theorem dX9_refill_20 : decode cX9_refill 20 = .ok (.bipush 50, 2) := by decide +kernel
theorem dX9_refill_22 : decode cX9_refill 22 = .ok (.invokestatic 73, 3) := by decide +kernel
theorem dX9_refill_25 : decode cX9_refill 25 = .ok (.ifCond .ne 6, 3) := by decide +kernel
theorem dX9_refill_28 : decode cX9_refill 28 = .ok (.bipush (-2), 2) := by decide +kernel
theorem dX9_refill_30 : decode cX9_refill 30 = .ok (.ireturn, 1) := by decide +kernel
theorem dX9_refill_31 : decode cX9_refill 31 = .ok (.aload_n 3, 1) := by decide +kernel
theorem dX9_refill_32 : decode cX9_refill 32 = .ok (.getfield 105, 3) := by decide +kernel
theorem dX9_refill_35 : decode cX9_refill 35 = .ok (.ifCond .ne 6, 3) := by decide +kernel
theorem dX9_refill_38 : decode cX9_refill 38 = .ok (.bipush (-4), 2) := by decide +kernel
theorem dX9_refill_40 : decode cX9_refill 40 = .ok (.ireturn, 1) := by decide +kernel
theorem dX9_refill_41 : decode cX9_refill 41 = .ok (.aload_n 3, 1) := by decide +kernel
theorem dX9_refill_42 : decode cX9_refill 42 = .ok (.getfield 108, 3) := by decide +kernel
theorem dX9_refill_45 : decode cX9_refill 45 = .ok (.istore 4, 2) := by decide +kernel
theorem dX9_refill_47 : decode cX9_refill 47 = .ok (.iload 4, 2) := by decide +kernel
theorem dX9_refill_49 : decode cX9_refill 49 = .ok (.iload_n 2, 1) := by decide +kernel
theorem dX9_refill_50 : decode cX9_refill 50 = .ok (.if_icmp .ne 6, 3) := by decide +kernel
theorem dX9_refill_53 : decode cX9_refill 53 = .ok (.bipush (-5), 2) := by decide +kernel
theorem dX9_refill_55 : decode cX9_refill 55 = .ok (.ireturn, 1) := by decide +kernel
theorem dX9_refill_56 : decode cX9_refill 56 = .ok (.aload_n 0, 1) := by decide +kernel
theorem dX9_refill_57 : decode cX9_refill 57 = .ok (.getfield 19, 3) := by decide +kernel
theorem dX9_refill_60 : decode cX9_refill 60 = .ok (.aload_n 0, 1) := by decide +kernel
theorem dX9_refill_61 : decode cX9_refill 61 = .ok (.getfield 10, 3) := by decide +kernel
theorem dX9_refill_64 : decode cX9_refill 64 = .ok (.invokevirtual 58, 3) := by decide +kernel
theorem dX9_refill_67 : decode cX9_refill 67 = .ok (.aload_n 3, 1) := by decide +kernel
theorem dX9_refill_68 : decode cX9_refill 68 = .ok (.iload_n 2, 1) := by decide +kernel
theorem dX9_refill_69 : decode cX9_refill 69 = .ok (.putfield 108, 3) := by decide +kernel
theorem dX9_refill_72 : decode cX9_refill 72 = .ok (.iload 4, 2) := by decide +kernel
theorem dX9_refill_74 : decode cX9_refill 74 = .ok (.ireturn, 1) := by decide +kernel
theorem dX9_setLimit_0 : decode cX9_setLimit 0 = .ok (.iload_n 1, 1) := by decide +kernel
theorem dX9_setLimit_1 : decode cX9_setLimit 1 = .ok (.ldc 72, 2) := by decide +kernel
theorem dX9_setLimit_3 : decode cX9_setLimit 3 = .ok (.ldc 111, 2) := by decide +kernel
theorem dX9_setLimit_5 : decode cX9_setLimit 5 = .ok (.invokestatic 73, 3) := by decide +kernel
theorem dX9_setLimit_8 : decode cX9_setLimit 8 = .ok (.ifCond .ne 6, 3) := by decide +kernel
theorem dX9_setLimit_11 : decode cX9_setLimit 11 = .ok (.bipush (-2), 2) := by decide +kernel
theorem dX9_setLimit_13 : decode cX9_setLimit 13 = .ok (.ireturn, 1) := by decide +kernel
theorem dX9_setLimit_14 : decode cX9_setLimit 14 = .ok (.iload_n 1, 1) := by decide +kernel
theorem dX9_setLimit_15 : decode cX9_setLimit 15 = .ok (.invokestatic 84, 3) := by decide +kernel
theorem dX9_setLimit_18 : decode cX9_setLimit 18 = .ok (.fstore_n 2, 1) := by decide +kernel
theorem dX9_setLimit_19 : decode cX9_setLimit 19 = .ok (.fload_n 2, 1) := by decide +kernel
theorem dX9_setLimit_20 : decode cX9_setLimit 20 = .ok (.aload_n 0, 1) := by decide +kernel
theorem dX9_setLimit_21 : decode cX9_setLimit 21 = .ok (.getfield 10, 3) := by decide +kernel
theorem dX9_setLimit_24 : decode cX9_setLimit 24 = .ok (.getfield 112, 3) := by decide +kernel
theorem dX9_setLimit_27 : decode cX9_setLimit 27 = .ok (.fcmp .l, 1) := by decide +kernel
theorem dX9_setLimit_28 : decode cX9_setLimit 28 = .ok (.ifCond .ne 6, 3) := by decide +kernel
theorem dX9_setLimit_31 : decode cX9_setLimit 31 = .ok (.bipush (-5), 2) := by decide +kernel
theorem dX9_setLimit_33 : decode cX9_setLimit 33 = .ok (.ireturn, 1) := by decide +kernel
theorem dX9_setLimit_34 : decode cX9_setLimit 34 = .ok (.aload_n 0, 1) := by decide +kernel
theorem dX9_setLimit_35 : decode cX9_setLimit 35 = .ok (.getfield 19, 3) := by decide +kernel
theorem dX9_setLimit_38 : decode cX9_setLimit 38 = .ok (.aload_n 0, 1) := by decide +kernel
theorem dX9_setLimit_39 : decode cX9_setLimit 39 = .ok (.getfield 10, 3) := by decide +kernel
theorem dX9_setLimit_42 : decode cX9_setLimit 42 = .ok (.invokevirtual 58, 3) := by decide +kernel
theorem dX9_setLimit_45 : decode cX9_setLimit 45 = .ok (.aload_n 0, 1) := by decide +kernel
theorem dX9_setLimit_46 : decode cX9_setLimit 46 = .ok (.getfield 10, 3) := by decide +kernel
theorem dX9_setLimit_49 : decode cX9_setLimit 49 = .ok (.fload_n 2, 1) := by decide +kernel
theorem dX9_setLimit_50 : decode cX9_setLimit 50 = .ok (.putfield 112, 3) := by decide +kernel
theorem dX9_setLimit_53 : decode cX9_setLimit 53 = .ok (.iconst 1, 1) := by decide +kernel
theorem dX9_setLimit_54 : decode cX9_setLimit 54 = .ok (.ireturn, 1) := by decide +kernel
theorem dX9_setCeiling_0 : decode cX9_setCeiling 0 = .ok (.aload_n 0, 1) := by decide +kernel
theorem dX9_setCeiling_1 : decode cX9_setCeiling 1 = .ok (.getfield 10, 3) := by decide +kernel
theorem dX9_setCeiling_4 : decode cX9_setCeiling 4 = .ok (.getfield 46, 3) := by decide +kernel
theorem dX9_setCeiling_7 : decode cX9_setCeiling 7 = .ok (.iload_n 1, 1) := by decide +kernel
theorem dX9_setCeiling_8 : decode cX9_setCeiling 8 = .ok (.invokevirtual 116, 3) := by decide +kernel
theorem dX9_setCeiling_11 : decode cX9_setCeiling 11 = .ok (.astore_n 3, 1) := by decide +kernel
theorem dX9_setCeiling_12 : decode cX9_setCeiling 12 = .ok (.aload_n 3, 1) := by decide +kernel
theorem dX9_setCeiling_13 : decode cX9_setCeiling 13 = .ok (.ifnonnull 5, 3) := by decide +kernel
theorem dX9_setCeiling_16 : decode cX9_setCeiling 16 = .ok (.iconst (-1), 1) := by decide +kernel
theorem dX9_setCeiling_17 : decode cX9_setCeiling 17 = .ok (.ireturn, 1) := by decide +kernel
theorem dX9_setCeiling_18 : decode cX9_setCeiling 18 = .ok (.iload_n 2, 1) := by decide +kernel
theorem dX9_setCeiling_19 : decode cX9_setCeiling 19 = .ok (.ldc 72, 2) := by decide +kernel
theorem dX9_setCeiling_21 : decode cX9_setCeiling 21 = .ok (.ldc 120, 2) := by decide +kernel
theorem dX9_setCeiling_23 : decode cX9_setCeiling 23 = .ok (.invokestatic 73, 3) := by decide +kernel
theorem dX9_setCeiling_26 : decode cX9_setCeiling 26 = .ok (.ifCond .ne 6, 3) := by decide +kernel
theorem dX9_setCeiling_29 : decode cX9_setCeiling 29 = .ok (.bipush (-2), 2) := by decide +kernel
theorem dX9_setCeiling_31 : decode cX9_setCeiling 31 = .ok (.ireturn, 1) := by decide +kernel
theorem dX9_setCeiling_32 : decode cX9_setCeiling 32 = .ok (.iload_n 2, 1) := by decide +kernel
theorem dX9_setCeiling_33 : decode cX9_setCeiling 33 = .ok (.invokestatic 84, 3) := by decide +kernel
theorem dX9_setCeiling_36 : decode cX9_setCeiling 36 = .ok (.fstore 4, 2) := by decide +kernel
theorem dX9_setCeiling_38 : decode cX9_setCeiling 38 = .ok (.fload 4, 2) := by decide +kernel
theorem dX9_setCeiling_40 : decode cX9_setCeiling 40 = .ok (.aload_n 3, 1) := by decide +kernel
theorem dX9_setCeiling_41 : decode cX9_setCeiling 41 = .ok (.getfield 121, 3) := by decide +kernel
theorem dX9_setCeiling_44 : decode cX9_setCeiling 44 = .ok (.fcmp .l, 1) := by decide +kernel
theorem dX9_setCeiling_45 : decode cX9_setCeiling 45 = .ok (.ifCond .ne 6, 3) := by decide +kernel
theorem dX9_setCeiling_48 : decode cX9_setCeiling 48 = .ok (.bipush (-5), 2) := by decide +kernel
theorem dX9_setCeiling_50 : decode cX9_setCeiling 50 = .ok (.ireturn, 1) := by decide +kernel
theorem dX9_setCeiling_51 : decode cX9_setCeiling 51 = .ok (.aload_n 0, 1) := by decide +kernel
theorem dX9_setCeiling_52 : decode cX9_setCeiling 52 = .ok (.getfield 19, 3) := by decide +kernel
theorem dX9_setCeiling_55 : decode cX9_setCeiling 55 = .ok (.aload_n 0, 1) := by decide +kernel
theorem dX9_setCeiling_56 : decode cX9_setCeiling 56 = .ok (.getfield 10, 3) := by decide +kernel
theorem dX9_setCeiling_59 : decode cX9_setCeiling 59 = .ok (.invokevirtual 58, 3) := by decide +kernel
theorem dX9_setCeiling_62 : decode cX9_setCeiling 62 = .ok (.aload_n 3, 1) := by decide +kernel
theorem dX9_setCeiling_63 : decode cX9_setCeiling 63 = .ok (.fload 4, 2) := by decide +kernel
theorem dX9_setCeiling_65 : decode cX9_setCeiling 65 = .ok (.putfield 121, 3) := by decide +kernel
theorem dX9_setCeiling_68 : decode cX9_setCeiling 68 = .ok (.iconst 1, 1) := by decide +kernel
theorem dX9_setCeiling_69 : decode cX9_setCeiling 69 = .ok (.ireturn, 1) := by decide +kernel
theorem dX9_setOrder_0 : decode cX9_setOrder 0 = .ok (.iload_n 1, 1) := by decide +kernel
theorem dX9_setOrder_1 : decode cX9_setOrder 1 = .ok (.iconst 0, 1) := by decide +kernel
theorem dX9_setOrder_2 : decode cX9_setOrder 2 = .ok (.iconst 2, 1) := by decide +kernel
theorem dX9_setOrder_3 : decode cX9_setOrder 3 = .ok (.invokestatic 73, 3) := by decide +kernel
theorem dX9_setOrder_6 : decode cX9_setOrder 6 = .ok (.ifCond .eq 17, 3) := by decide +kernel
theorem dX9_setOrder_9 : decode cX9_setOrder 9 = .ok (.iload_n 2, 1) := by decide +kernel
theorem dX9_setOrder_10 : decode cX9_setOrder 10 = .ok (.iconst 0, 1) := by decide +kernel
theorem dX9_setOrder_11 : decode cX9_setOrder 11 = .ok (.iconst 2, 1) := by decide +kernel
theorem dX9_setOrder_12 : decode cX9_setOrder 12 = .ok (.invokestatic 73, 3) := by decide +kernel
theorem dX9_setOrder_15 : decode cX9_setOrder 15 = .ok (.ifCond .eq 8, 3) := by decide +kernel
theorem dX9_setOrder_18 : decode cX9_setOrder 18 = .ok (.iload_n 1, 1) := by decide +kernel
theorem dX9_setOrder_19 : decode cX9_setOrder 19 = .ok (.iload_n 2, 1) := by decide +kernel
theorem dX9_setOrder_20 : decode cX9_setOrder 20 = .ok (.if_icmp .ne 6, 3) := by decide +kernel
theorem dX9_setOrder_23 : decode cX9_setOrder 23 = .ok (.bipush (-2), 2) := by decide +kernel
theorem dX9_setOrder_25 : decode cX9_setOrder 25 = .ok (.ireturn, 1) := by decide +kernel
theorem dX9_setOrder_26 : decode cX9_setOrder 26 = .ok (.aload_n 0, 1) := by decide +kernel
theorem dX9_setOrder_27 : decode cX9_setOrder 27 = .ok (.getfield 10, 3) := by decide +kernel
theorem dX9_setOrder_30 : decode cX9_setOrder 30 = .ok (.getfield 124, 3) := by decide +kernel
theorem dX9_setOrder_33 : decode cX9_setOrder 33 = .ok (.iload_n 1, 1) := by decide +kernel
theorem dX9_setOrder_34 : decode cX9_setOrder 34 = .ok (.invokevirtual 128, 3) := by decide +kernel
theorem dX9_setOrder_37 : decode cX9_setOrder 37 = .ok (.ifCond .ne 21, 3) := by decide +kernel
theorem dX9_setOrder_40 : decode cX9_setOrder 40 = .ok (.aload_n 0, 1) := by decide +kernel
theorem dX9_setOrder_41 : decode cX9_setOrder 41 = .ok (.getfield 10, 3) := by decide +kernel
theorem dX9_setOrder_44 : decode cX9_setOrder 44 = .ok (.getfield 124, 3) := by decide +kernel
theorem dX9_setOrder_47 : decode cX9_setOrder 47 = .ok (.iload_n 2, 1) := by decide +kernel
theorem dX9_setOrder_48 : decode cX9_setOrder 48 = .ok (.invokevirtual 128, 3) := by decide +kernel
theorem dX9_setOrder_51 : decode cX9_setOrder 51 = .ok (.iconst 1, 1) := by decide +kernel
theorem dX9_setOrder_52 : decode cX9_setOrder 52 = .ok (.if_icmp .ne 6, 3) := by decide +kernel
theorem dX9_setOrder_55 : decode cX9_setOrder 55 = .ok (.bipush (-5), 2) := by decide +kernel
theorem dX9_setOrder_57 : decode cX9_setOrder 57 = .ok (.ireturn, 1) := by decide +kernel
theorem dX9_setOrder_58 : decode cX9_setOrder 58 = .ok (.aload_n 0, 1) := by decide +kernel
theorem dX9_setOrder_59 : decode cX9_setOrder 59 = .ok (.getfield 19, 3) := by decide +kernel
theorem dX9_setOrder_62 : decode cX9_setOrder 62 = .ok (.aload_n 0, 1) := by decide +kernel
theorem dX9_setOrder_63 : decode cX9_setOrder 63 = .ok (.getfield 10, 3) := by decide +kernel
theorem dX9_setOrder_66 : decode cX9_setOrder 66 = .ok (.invokevirtual 58, 3) := by decide +kernel
theorem dX9_setOrder_69 : decode cX9_setOrder 69 = .ok (.aload_n 0, 1) := by decide +kernel
theorem dX9_setOrder_70 : decode cX9_setOrder 70 = .ok (.getfield 10, 3) := by decide +kernel
theorem dX9_setOrder_73 : decode cX9_setOrder 73 = .ok (.getfield 124, 3) := by decide +kernel
theorem dX9_setOrder_76 : decode cX9_setOrder 76 = .ok (.iload_n 1, 1) := by decide +kernel
theorem dX9_setOrder_77 : decode cX9_setOrder 77 = .ok (.iload_n 2, 1) := by decide +kernel
theorem dX9_setOrder_78 : decode cX9_setOrder 78 = .ok (.invokevirtual 133, 3) := by decide +kernel
theorem dX9_setOrder_81 : decode cX9_setOrder 81 = .ok (.ireturn, 1) := by decide +kernel
theorem dX9_read_0 : decode cX9_read 0 = .ok (.aload_n 0, 1) := by decide +kernel
theorem dX9_read_1 : decode cX9_read 1 = .ok (.iconst 0, 1) := by decide +kernel
theorem dX9_read_2 : decode cX9_read 2 = .ok (.iload_n 1, 1) := by decide +kernel
theorem dX9_read_3 : decode cX9_read 3 = .ok (.bipush (-5), 2) := by decide +kernel
theorem dX9_read_5 : decode cX9_read 5 = .ok (.invokevirtual 137, 3) := by decide +kernel
theorem dX9_read_8 : decode cX9_read 8 = .ok (.ireturn, 1) := by decide +kernel
theorem dX9_clean_0 : decode cX9_clean 0 = .ok (.aload_n 0, 1) := by decide +kernel
theorem dX9_clean_1 : decode cX9_clean 1 = .ok (.iconst 1, 1) := by decide +kernel
theorem dX9_clean_2 : decode cX9_clean 2 = .ok (.iload_n 1, 1) := by decide +kernel
theorem dX9_clean_3 : decode cX9_clean 3 = .ok (.bipush (-5), 2) := by decide +kernel
theorem dX9_clean_5 : decode cX9_clean 5 = .ok (.invokevirtual 137, 3) := by decide +kernel
theorem dX9_clean_8 : decode cX9_clean 8 = .ok (.ireturn, 1) := by decide +kernel
theorem dX9_move_0 : decode cX9_move 0 = .ok (.aload_n 0, 1) := by decide +kernel
theorem dX9_move_1 : decode cX9_move 1 = .ok (.iconst 2, 1) := by decide +kernel
theorem dX9_move_2 : decode cX9_move 2 = .ok (.iload_n 1, 1) := by decide +kernel
theorem dX9_move_3 : decode cX9_move 3 = .ok (.iload_n 2, 1) := by decide +kernel
theorem dX9_move_4 : decode cX9_move 4 = .ok (.invokevirtual 137, 3) := by decide +kernel
theorem dX9_move_7 : decode cX9_move 7 = .ok (.ireturn, 1) := by decide +kernel
theorem dX9_putOff_0 : decode cX9_putOff 0 = .ok (.aload_n 0, 1) := by decide +kernel
theorem dX9_putOff_1 : decode cX9_putOff 1 = .ok (.getfield 10, 3) := by decide +kernel
theorem dX9_putOff_4 : decode cX9_putOff 4 = .ok (.getfield 124, 3) := by decide +kernel
theorem dX9_putOff_7 : decode cX9_putOff 7 = .ok (.iload_n 1, 1) := by decide +kernel
theorem dX9_putOff_8 : decode cX9_putOff 8 = .ok (.invokevirtual 141, 3) := by decide +kernel
theorem dX9_putOff_11 : decode cX9_putOff 11 = .ok (.astore_n 3, 1) := by decide +kernel
theorem dX9_putOff_12 : decode cX9_putOff 12 = .ok (.aload_n 3, 1) := by decide +kernel
theorem dX9_putOff_13 : decode cX9_putOff 13 = .ok (.ifnonnull 5, 3) := by decide +kernel
theorem dX9_putOff_16 : decode cX9_putOff 16 = .ok (.iconst (-1), 1) := by decide +kernel
theorem dX9_putOff_17 : decode cX9_putOff 17 = .ok (.ireturn, 1) := by decide +kernel
theorem dX9_putOff_18 : decode cX9_putOff 18 = .ok (.iload_n 2, 1) := by decide +kernel
theorem dX9_putOff_19 : decode cX9_putOff 19 = .ok (.iconst 0, 1) := by decide +kernel
theorem dX9_putOff_20 : decode cX9_putOff 20 = .ok (.sipush 9999, 3) := by decide +kernel
theorem dX9_putOff_23 : decode cX9_putOff 23 = .ok (.invokestatic 73, 3) := by decide +kernel
theorem dX9_putOff_26 : decode cX9_putOff 26 = .ok (.ifCond .ne 6, 3) := by decide +kernel
theorem dX9_putOff_29 : decode cX9_putOff 29 = .ok (.bipush (-2), 2) := by decide +kernel
theorem dX9_putOff_31 : decode cX9_putOff 31 = .ok (.ireturn, 1) := by decide +kernel
theorem dX9_putOff_32 : decode cX9_putOff 32 = .ok (.aload_n 3, 1) := by decide +kernel
theorem dX9_putOff_33 : decode cX9_putOff 33 = .ok (.getfield 145, 3) := by decide +kernel
theorem dX9_putOff_36 : decode cX9_putOff 36 = .ok (.ifCond .eq 6, 3) := by decide +kernel
theorem dX9_putOff_39 : decode cX9_putOff 39 = .ok (.bipush (-4), 2) := by decide +kernel
theorem dX9_putOff_41 : decode cX9_putOff 41 = .ok (.ireturn, 1) := by decide +kernel
theorem dX9_putOff_42 : decode cX9_putOff 42 = .ok (.aload_n 3, 1) := by decide +kernel
theorem dX9_putOff_43 : decode cX9_putOff 43 = .ok (.getfield 150, 3) := by decide +kernel
theorem dX9_putOff_46 : decode cX9_putOff 46 = .ok (.istore 4, 2) := by decide +kernel
theorem dX9_putOff_48 : decode cX9_putOff 48 = .ok (.iload 4, 2) := by decide +kernel
theorem dX9_putOff_50 : decode cX9_putOff 50 = .ok (.iload_n 2, 1) := by decide +kernel
theorem dX9_putOff_51 : decode cX9_putOff 51 = .ok (.if_icmp .ne 6, 3) := by decide +kernel
theorem dX9_putOff_54 : decode cX9_putOff 54 = .ok (.bipush (-5), 2) := by decide +kernel
theorem dX9_putOff_56 : decode cX9_putOff 56 = .ok (.ireturn, 1) := by decide +kernel
theorem dX9_putOff_57 : decode cX9_putOff 57 = .ok (.aload_n 0, 1) := by decide +kernel
theorem dX9_putOff_58 : decode cX9_putOff 58 = .ok (.getfield 19, 3) := by decide +kernel
theorem dX9_putOff_61 : decode cX9_putOff 61 = .ok (.aload_n 0, 1) := by decide +kernel
theorem dX9_putOff_62 : decode cX9_putOff 62 = .ok (.getfield 10, 3) := by decide +kernel
theorem dX9_putOff_65 : decode cX9_putOff 65 = .ok (.invokevirtual 58, 3) := by decide +kernel
theorem dX9_putOff_68 : decode cX9_putOff 68 = .ok (.aload_n 3, 1) := by decide +kernel
theorem dX9_putOff_69 : decode cX9_putOff 69 = .ok (.iload_n 2, 1) := by decide +kernel
theorem dX9_putOff_70 : decode cX9_putOff 70 = .ok (.putfield 150, 3) := by decide +kernel
theorem dX9_putOff_73 : decode cX9_putOff 73 = .ok (.iload 4, 2) := by decide +kernel
theorem dX9_putOff_75 : decode cX9_putOff 75 = .ok (.ireturn, 1) := by decide +kernel
theorem dX9_withdraw_0 : decode cX9_withdraw 0 = .ok (.aload_n 0, 1) := by decide +kernel
theorem dX9_withdraw_1 : decode cX9_withdraw 1 = .ok (.getfield 10, 3) := by decide +kernel
theorem dX9_withdraw_4 : decode cX9_withdraw 4 = .ok (.getfield 124, 3) := by decide +kernel
theorem dX9_withdraw_7 : decode cX9_withdraw 7 = .ok (.iload_n 1, 1) := by decide +kernel
theorem dX9_withdraw_8 : decode cX9_withdraw 8 = .ok (.invokevirtual 141, 3) := by decide +kernel
theorem dX9_withdraw_11 : decode cX9_withdraw 11 = .ok (.astore_n 2, 1) := by decide +kernel
theorem dX9_withdraw_12 : decode cX9_withdraw 12 = .ok (.aload_n 2, 1) := by decide +kernel
theorem dX9_withdraw_13 : decode cX9_withdraw 13 = .ok (.ifnonnull 5, 3) := by decide +kernel
theorem dX9_withdraw_16 : decode cX9_withdraw 16 = .ok (.iconst (-1), 1) := by decide +kernel
theorem dX9_withdraw_17 : decode cX9_withdraw 17 = .ok (.ireturn, 1) := by decide +kernel
theorem dX9_withdraw_18 : decode cX9_withdraw 18 = .ok (.aload_n 2, 1) := by decide +kernel
theorem dX9_withdraw_19 : decode cX9_withdraw 19 = .ok (.getfield 145, 3) := by decide +kernel
theorem dX9_withdraw_22 : decode cX9_withdraw 22 = .ok (.ifCond .eq 6, 3) := by decide +kernel
theorem dX9_withdraw_25 : decode cX9_withdraw 25 = .ok (.bipush (-4), 2) := by decide +kernel
theorem dX9_withdraw_27 : decode cX9_withdraw 27 = .ok (.ireturn, 1) := by decide +kernel
theorem dX9_withdraw_28 : decode cX9_withdraw 28 = .ok (.aload_n 0, 1) := by decide +kernel
theorem dX9_withdraw_29 : decode cX9_withdraw 29 = .ok (.getfield 19, 3) := by decide +kernel
theorem dX9_withdraw_32 : decode cX9_withdraw 32 = .ok (.aload_n 0, 1) := by decide +kernel
theorem dX9_withdraw_33 : decode cX9_withdraw 33 = .ok (.getfield 10, 3) := by decide +kernel
theorem dX9_withdraw_36 : decode cX9_withdraw 36 = .ok (.invokevirtual 58, 3) := by decide +kernel
theorem dX9_withdraw_39 : decode cX9_withdraw 39 = .ok (.aload_n 2, 1) := by decide +kernel
theorem dX9_withdraw_40 : decode cX9_withdraw 40 = .ok (.iconst 4, 1) := by decide +kernel
theorem dX9_withdraw_41 : decode cX9_withdraw 41 = .ok (.putfield 145, 3) := by decide +kernel
theorem dX9_withdraw_44 : decode cX9_withdraw 44 = .ok (.aload_n 2, 1) := by decide +kernel
theorem dX9_withdraw_45 : decode cX9_withdraw 45 = .ok (.aload_n 0, 1) := by decide +kernel
theorem dX9_withdraw_46 : decode cX9_withdraw 46 = .ok (.getfield 10, 3) := by decide +kernel
theorem dX9_withdraw_49 : decode cX9_withdraw 49 = .ok (.getfield 153, 3) := by decide +kernel
theorem dX9_withdraw_52 : decode cX9_withdraw 52 = .ok (.putfield 156, 3) := by decide +kernel
theorem dX9_withdraw_55 : decode cX9_withdraw 55 = .ok (.aload_n 0, 1) := by decide +kernel
theorem dX9_withdraw_56 : decode cX9_withdraw 56 = .ok (.getfield 10, 3) := by decide +kernel
theorem dX9_withdraw_59 : decode cX9_withdraw 59 = .ok (.getfield 124, 3) := by decide +kernel
theorem dX9_withdraw_62 : decode cX9_withdraw 62 = .ok (.iconst 0, 1) := by decide +kernel
theorem dX9_withdraw_63 : decode cX9_withdraw 63 = .ok (.invokevirtual 159, 3) := by decide +kernel
theorem dX9_withdraw_66 : decode cX9_withdraw 66 = .ok (.ireturn, 1) := by decide +kernel
theorem dX9_tick_0 : decode cX9_tick 0 = .ok (.iload_n 1, 1) := by decide +kernel
theorem dX9_tick_1 : decode cX9_tick 1 = .ok (.iconst 1, 1) := by decide +kernel
theorem dX9_tick_2 : decode cX9_tick 2 = .ok (.bipush 100, 2) := by decide +kernel
theorem dX9_tick_4 : decode cX9_tick 4 = .ok (.invokestatic 73, 3) := by decide +kernel
theorem dX9_tick_7 : decode cX9_tick 7 = .ok (.ifCond .ne 6, 3) := by decide +kernel
theorem dX9_tick_10 : decode cX9_tick 10 = .ok (.bipush (-2), 2) := by decide +kernel
theorem dX9_tick_12 : decode cX9_tick 12 = .ok (.ireturn, 1) := by decide +kernel
theorem dX9_tick_13 : decode cX9_tick 13 = .ok (.aload_n 0, 1) := by decide +kernel
theorem dX9_tick_14 : decode cX9_tick 14 = .ok (.getfield 10, 3) := by decide +kernel
theorem dX9_tick_17 : decode cX9_tick 17 = .ok (.getfield 153, 3) := by decide +kernel
theorem dX9_tick_20 : decode cX9_tick 20 = .ok (.iload_n 1, 1) := by decide +kernel
theorem dX9_tick_21 : decode cX9_tick 21 = .ok (.iadd, 1) := by decide +kernel
theorem dX9_tick_22 : decode cX9_tick 22 = .ok (.sipush 10000, 3) := by decide +kernel
theorem dX9_tick_25 : decode cX9_tick 25 = .ok (.if_icmp .le 6, 3) := by decide +kernel
theorem dX9_tick_28 : decode cX9_tick 28 = .ok (.bipush (-4), 2) := by decide +kernel
theorem dX9_tick_30 : decode cX9_tick 30 = .ok (.ireturn, 1) := by decide +kernel
theorem dX9_tick_31 : decode cX9_tick 31 = .ok (.aload_n 0, 1) := by decide +kernel
theorem dX9_tick_32 : decode cX9_tick 32 = .ok (.getfield 19, 3) := by decide +kernel
theorem dX9_tick_35 : decode cX9_tick 35 = .ok (.aload_n 0, 1) := by decide +kernel
theorem dX9_tick_36 : decode cX9_tick 36 = .ok (.getfield 10, 3) := by decide +kernel
theorem dX9_tick_39 : decode cX9_tick 39 = .ok (.invokevirtual 58, 3) := by decide +kernel
theorem dX9_tick_42 : decode cX9_tick 42 = .ok (.iconst 0, 1) := by decide +kernel
theorem dX9_tick_43 : decode cX9_tick 43 = .ok (.istore_n 2, 1) := by decide +kernel
theorem dX9_tick_44 : decode cX9_tick 44 = .ok (.iconst 0, 1) := by decide +kernel
theorem dX9_tick_45 : decode cX9_tick 45 = .ok (.istore_n 3, 1) := by decide +kernel
theorem dX9_tick_46 : decode cX9_tick 46 = .ok (.iload_n 3, 1) := by decide +kernel
theorem dX9_tick_47 : decode cX9_tick 47 = .ok (.iload_n 1, 1) := by decide +kernel
theorem dX9_tick_48 : decode cX9_tick 48 = .ok (.if_icmp .ge 19, 3) := by decide +kernel
theorem dX9_tick_51 : decode cX9_tick 51 = .ok (.iload_n 2, 1) := by decide +kernel
theorem dX9_tick_52 : decode cX9_tick 52 = .ok (.aload_n 0, 1) := by decide +kernel
theorem dX9_tick_53 : decode cX9_tick 53 = .ok (.getfield 10, 3) := by decide +kernel
theorem dX9_tick_56 : decode cX9_tick 56 = .ok (.invokevirtual 162, 3) := by decide +kernel
theorem dX9_tick_59 : decode cX9_tick 59 = .ok (.iadd, 1) := by decide +kernel
theorem dX9_tick_60 : decode cX9_tick 60 = .ok (.istore_n 2, 1) := by decide +kernel
theorem dX9_tick_61 : decode cX9_tick 61 = .ok (.iinc 3 1, 3) := by decide +kernel
theorem dX9_tick_64 : decode cX9_tick 64 = .ok (.goto (-18), 3) := by decide +kernel
theorem dX9_tick_67 : decode cX9_tick 67 = .ok (.iload_n 2, 1) := by decide +kernel
theorem dX9_tick_68 : decode cX9_tick 68 = .ok (.ireturn, 1) := by decide +kernel
theorem dX9_item_0 : decode cX9_item 0 = .ok (.aload_n 0, 1) := by decide +kernel
theorem dX9_item_1 : decode cX9_item 1 = .ok (.getfield 10, 3) := by decide +kernel
theorem dX9_item_4 : decode cX9_item 4 = .ok (.getfield 46, 3) := by decide +kernel
theorem dX9_item_7 : decode cX9_item 7 = .ok (.iload_n 1, 1) := by decide +kernel
theorem dX9_item_8 : decode cX9_item 8 = .ok (.invokevirtual 101, 3) := by decide +kernel
theorem dX9_item_11 : decode cX9_item 11 = .ok (.astore_n 3, 1) := by decide +kernel
theorem dX9_item_12 : decode cX9_item 12 = .ok (.aload_n 3, 1) := by decide +kernel
theorem dX9_item_13 : decode cX9_item 13 = .ok (.ifnonnull 5, 3) := by decide +kernel
theorem dX9_item_16 : decode cX9_item 16 = .ok (.iconst (-1), 1) := by decide +kernel
theorem dX9_item_17 : decode cX9_item 17 = .ok (.ireturn, 1) := by decide +kernel
theorem dX9_item_18 : decode cX9_item 18 = .ok (.iload_n 2, 1) := by decide +kernel
theorem dX9_item_19 : decode cX9_item 19 = .ok (.iconst 0, 1) := by decide +kernel
theorem dX9_item_20 : decode cX9_item 20 = .ok (.bipush 7, 2) := by decide +kernel
theorem dX9_item_22 : decode cX9_item 22 = .ok (.invokestatic 73, 3) := by decide +kernel
theorem dX9_item_25 : decode cX9_item 25 = .ok (.ifCond .ne 6, 3) := by decide +kernel
theorem dX9_item_28 : decode cX9_item 28 = .ok (.bipush (-2), 2) := by decide +kernel
theorem dX9_item_30 : decode cX9_item 30 = .ok (.ireturn, 1) := by decide +kernel
theorem dX9_item_31 : decode cX9_item 31 = .ok (.iload_n 2, 1) := by decide +kernel
theorem dX9_item_32 : decode cX9_item 32 = .ok (.bipush 7, 2) := by decide +kernel
theorem dX9_item_34 : decode cX9_item 34 = .ok (.if_icmp .ne 17, 3) := by decide +kernel
theorem dX9_item_37 : decode cX9_item 37 = .ok (.aload_n 0, 1) := by decide +kernel
theorem dX9_item_38 : decode cX9_item 38 = .ok (.getfield 10, 3) := by decide +kernel
theorem dX9_item_41 : decode cX9_item 41 = .ok (.getfield 124, 3) := by decide +kernel
theorem dX9_item_44 : decode cX9_item 44 = .ok (.iload_n 1, 1) := by decide +kernel
theorem dX9_item_45 : decode cX9_item 45 = .ok (.invokevirtual 210, 3) := by decide +kernel
theorem dX9_item_48 : decode cX9_item 48 = .ok (.goto 8, 3) := by decide +kernel
theorem dX9_item_51 : decode cX9_item 51 = .ok (.aload_n 3, 1) := by decide +kernel
theorem dX9_item_52 : decode cX9_item 52 = .ok (.iload_n 2, 1) := by decide +kernel
theorem dX9_item_53 : decode cX9_item 53 = .ok (.invokevirtual 213, 3) := by decide +kernel
theorem dX9_item_56 : decode cX9_item 56 = .ok (.ireturn, 1) := by decide +kernel
theorem dX9_homeOf_0 : decode cX9_homeOf 0 = .ok (.iload_n 1, 1) := by decide +kernel
theorem dX9_homeOf_1 : decode cX9_homeOf 1 = .ok (.invokestatic 40, 3) := by decide +kernel
theorem dX9_homeOf_4 : decode cX9_homeOf 4 = .ok (.ifCond .eq 17, 3) := by decide +kernel
theorem dX9_homeOf_7 : decode cX9_homeOf 7 = .ok (.aload_n 0, 1) := by decide +kernel
theorem dX9_homeOf_8 : decode cX9_homeOf 8 = .ok (.getfield 10, 3) := by decide +kernel
theorem dX9_homeOf_11 : decode cX9_homeOf 11 = .ok (.getfield 46, 3) := by decide +kernel
theorem dX9_homeOf_14 : decode cX9_homeOf 14 = .ok (.iload_n 1, 1) := by decide +kernel
theorem dX9_homeOf_15 : decode cX9_homeOf 15 = .ok (.invokevirtual 216, 3) := by decide +kernel
theorem dX9_homeOf_18 : decode cX9_homeOf 18 = .ok (.goto 4, 3) := by decide +kernel
theorem dX9_homeOf_21 : decode cX9_homeOf 21 = .ok (.iconst (-1), 1) := by decide +kernel
theorem dX9_homeOf_22 : decode cX9_homeOf 22 = .ok (.ireturn, 1) := by decide +kernel
theorem dX9_drive_0 : decode cX9_drive 0 = .ok (.aload_n 0, 1) := by decide +kernel
theorem dX9_drive_1 : decode cX9_drive 1 = .ok (.getfield 10, 3) := by decide +kernel
theorem dX9_drive_4 : decode cX9_drive 4 = .ok (.getfield 46, 3) := by decide +kernel
theorem dX9_drive_7 : decode cX9_drive 7 = .ok (.iload_n 1, 1) := by decide +kernel
theorem dX9_drive_8 : decode cX9_drive 8 = .ok (.invokevirtual 116, 3) := by decide +kernel
theorem dX9_drive_11 : decode cX9_drive 11 = .ok (.astore_n 3, 1) := by decide +kernel
theorem dX9_drive_12 : decode cX9_drive 12 = .ok (.aload_n 3, 1) := by decide +kernel
theorem dX9_drive_13 : decode cX9_drive 13 = .ok (.ifnonnull 5, 3) := by decide +kernel
theorem dX9_drive_16 : decode cX9_drive 16 = .ok (.iconst (-1), 1) := by decide +kernel
theorem dX9_drive_17 : decode cX9_drive 17 = .ok (.ireturn, 1) := by decide +kernel
theorem dX9_drive_18 : decode cX9_drive 18 = .ok (.iload_n 2, 1) := by decide +kernel
theorem dX9_drive_19 : decode cX9_drive 19 = .ok (.iconst 0, 1) := by decide +kernel
theorem dX9_drive_20 : decode cX9_drive 20 = .ok (.iconst 5, 1) := by decide +kernel
theorem dX9_drive_21 : decode cX9_drive 21 = .ok (.invokestatic 73, 3) := by decide +kernel
theorem dX9_drive_24 : decode cX9_drive 24 = .ok (.ifCond .eq 11, 3) := by decide +kernel
theorem dX9_drive_27 : decode cX9_drive 27 = .ok (.aload_n 3, 1) := by decide +kernel
theorem dX9_drive_28 : decode cX9_drive 28 = .ok (.iload_n 2, 1) := by decide +kernel
theorem dX9_drive_29 : decode cX9_drive 29 = .ok (.invokevirtual 219, 3) := by decide +kernel
theorem dX9_drive_32 : decode cX9_drive 32 = .ok (.goto 5, 3) := by decide +kernel
theorem dX9_drive_35 : decode cX9_drive 35 = .ok (.bipush (-2), 2) := by decide +kernel
theorem dX9_drive_37 : decode cX9_drive 37 = .ok (.ireturn, 1) := by decide +kernel
theorem dX9_dust_0 : decode cX9_dust 0 = .ok (.aload_n 0, 1) := by decide +kernel
theorem dX9_dust_1 : decode cX9_dust 1 = .ok (.getfield 10, 3) := by decide +kernel
theorem dX9_dust_4 : decode cX9_dust 4 = .ok (.getfield 46, 3) := by decide +kernel
theorem dX9_dust_7 : decode cX9_dust 7 = .ok (.iload_n 1, 1) := by decide +kernel
theorem dX9_dust_8 : decode cX9_dust 8 = .ok (.invokevirtual 116, 3) := by decide +kernel
theorem dX9_dust_11 : decode cX9_dust 11 = .ok (.astore_n 2, 1) := by decide +kernel
theorem dX9_dust_12 : decode cX9_dust 12 = .ok (.aload_n 2, 1) := by decide +kernel
theorem dX9_dust_13 : decode cX9_dust 13 = .ok (.ifnonnull 9, 3) := by decide +kernel
theorem dX9_dust_16 : decode cX9_dust 16 = .ok (.invokestatic 220, 3) := by decide +kernel
theorem dX9_dust_19 : decode cX9_dust 19 = .ok (.goto 7, 3) := by decide +kernel
theorem dX9_dust_22 : decode cX9_dust 22 = .ok (.aload_n 2, 1) := by decide +kernel
theorem dX9_dust_23 : decode cX9_dust 23 = .ok (.getfield 224, 3) := by decide +kernel
theorem dX9_dust_26 : decode cX9_dust 26 = .ok (.freturn, 1) := by decide +kernel
theorem dX9_ceiling_0 : decode cX9_ceiling 0 = .ok (.aload_n 0, 1) := by decide +kernel
theorem dX9_ceiling_1 : decode cX9_ceiling 1 = .ok (.getfield 10, 3) := by decide +kernel
theorem dX9_ceiling_4 : decode cX9_ceiling 4 = .ok (.getfield 46, 3) := by decide +kernel
theorem dX9_ceiling_7 : decode cX9_ceiling 7 = .ok (.iload_n 1, 1) := by decide +kernel
theorem dX9_ceiling_8 : decode cX9_ceiling 8 = .ok (.invokevirtual 116, 3) := by decide +kernel
theorem dX9_ceiling_11 : decode cX9_ceiling 11 = .ok (.astore_n 2, 1) := by decide +kernel
theorem dX9_ceiling_12 : decode cX9_ceiling 12 = .ok (.aload_n 2, 1) := by decide +kernel
theorem dX9_ceiling_13 : decode cX9_ceiling 13 = .ok (.ifnonnull 9, 3) := by decide +kernel
theorem dX9_ceiling_16 : decode cX9_ceiling 16 = .ok (.invokestatic 220, 3) := by decide +kernel
theorem dX9_ceiling_19 : decode cX9_ceiling 19 = .ok (.goto 7, 3) := by decide +kernel
theorem dX9_ceiling_22 : decode cX9_ceiling 22 = .ok (.aload_n 2, 1) := by decide +kernel
theorem dX9_ceiling_23 : decode cX9_ceiling 23 = .ok (.getfield 121, 3) := by decide +kernel
theorem dX9_ceiling_26 : decode cX9_ceiling 26 = .ok (.freturn, 1) := by decide +kernel
theorem dX9_meter_0 : decode cX9_meter 0 = .ok (.iload_n 1, 1) := by decide +kernel
theorem dX9_meter_1 : decode cX9_meter 1 = .ok (.tableswitch 54 0 2 #[27, 35, 43], 27) := by decide +kernel
theorem dX9_meter_28 : decode cX9_meter 28 = .ok (.aload_n 0, 1) := by decide +kernel
theorem dX9_meter_29 : decode cX9_meter 29 = .ok (.getfield 10, 3) := by decide +kernel
theorem dX9_meter_32 : decode cX9_meter 32 = .ok (.getfield 227, 3) := by decide +kernel
theorem dX9_meter_35 : decode cX9_meter 35 = .ok (.freturn, 1) := by decide +kernel
theorem dX9_meter_36 : decode cX9_meter 36 = .ok (.aload_n 0, 1) := by decide +kernel
theorem dX9_meter_37 : decode cX9_meter 37 = .ok (.getfield 10, 3) := by decide +kernel
theorem dX9_meter_40 : decode cX9_meter 40 = .ok (.getfield 112, 3) := by decide +kernel
theorem dX9_meter_43 : decode cX9_meter 43 = .ok (.freturn, 1) := by decide +kernel
theorem dX9_meter_44 : decode cX9_meter 44 = .ok (.aload_n 0, 1) := by decide +kernel
theorem dX9_meter_45 : decode cX9_meter 45 = .ok (.getfield 10, 3) := by decide +kernel
theorem dX9_meter_48 : decode cX9_meter 48 = .ok (.getfield 46, 3) := by decide +kernel
theorem dX9_meter_51 : decode cX9_meter 51 = .ok (.invokevirtual 230, 3) := by decide +kernel
theorem dX9_meter_54 : decode cX9_meter 54 = .ok (.freturn, 1) := by decide +kernel
theorem dX9_meter_55 : decode cX9_meter 55 = .ok (.invokestatic 220, 3) := by decide +kernel
theorem dX9_meter_58 : decode cX9_meter 58 = .ok (.freturn, 1) := by decide +kernel
theorem dX9_job_0 : decode cX9_job 0 = .ok (.aload_n 0, 1) := by decide +kernel
theorem dX9_job_1 : decode cX9_job 1 = .ok (.getfield 10, 3) := by decide +kernel
theorem dX9_job_4 : decode cX9_job 4 = .ok (.getfield 124, 3) := by decide +kernel
theorem dX9_job_7 : decode cX9_job 7 = .ok (.iload_n 1, 1) := by decide +kernel
theorem dX9_job_8 : decode cX9_job 8 = .ok (.invokevirtual 141, 3) := by decide +kernel
theorem dX9_job_11 : decode cX9_job 11 = .ok (.astore_n 3, 1) := by decide +kernel
theorem dX9_job_12 : decode cX9_job 12 = .ok (.aload_n 3, 1) := by decide +kernel
theorem dX9_job_13 : decode cX9_job 13 = .ok (.ifnonnull 5, 3) := by decide +kernel
theorem dX9_job_16 : decode cX9_job 16 = .ok (.iconst (-1), 1) := by decide +kernel
theorem dX9_job_17 : decode cX9_job 17 = .ok (.ireturn, 1) := by decide +kernel
theorem dX9_job_18 : decode cX9_job 18 = .ok (.iload_n 2, 1) := by decide +kernel
theorem dX9_job_19 : decode cX9_job 19 = .ok (.iconst 0, 1) := by decide +kernel
theorem dX9_job_20 : decode cX9_job 20 = .ok (.bipush 11, 2) := by decide +kernel
theorem dX9_job_22 : decode cX9_job 22 = .ok (.invokestatic 73, 3) := by decide +kernel
theorem dX9_job_25 : decode cX9_job 25 = .ok (.ifCond .eq 11, 3) := by decide +kernel
theorem dX9_job_28 : decode cX9_job 28 = .ok (.aload_n 3, 1) := by decide +kernel
theorem dX9_job_29 : decode cX9_job 29 = .ok (.iload_n 2, 1) := by decide +kernel
theorem dX9_job_30 : decode cX9_job 30 = .ok (.invokevirtual 233, 3) := by decide +kernel
theorem dX9_job_33 : decode cX9_job 33 = .ok (.goto 5, 3) := by decide +kernel
theorem dX9_job_36 : decode cX9_job 36 = .ok (.bipush (-2), 2) := by decide +kernel
theorem dX9_job_38 : decode cX9_job 38 = .ok (.ireturn, 1) := by decide +kernel
theorem dX9_next_0 : decode cX9_next 0 = .ok (.aload_n 0, 1) := by decide +kernel
theorem dX9_next_1 : decode cX9_next 1 = .ok (.getfield 10, 3) := by decide +kernel
theorem dX9_next_4 : decode cX9_next 4 = .ok (.invokevirtual 237, 3) := by decide +kernel
theorem dX9_next_7 : decode cX9_next 7 = .ok (.ireturn, 1) := by decide +kernel
theorem dX9_count_0 : decode cX9_count 0 = .ok (.iload_n 1, 1) := by decide +kernel
theorem dX9_count_1 : decode cX9_count 1 = .ok (.tableswitch 229 0 19 #[95, 103, 111, 119, 127, 127, 127, 127, 127, 141, 152, 163, 163, 163, 178, 186, 194, 202, 213, 221], 95) := by decide +kernel
theorem dX9_count_96 : decode cX9_count 96 = .ok (.aload_n 0, 1) := by decide +kernel
theorem dX9_count_97 : decode cX9_count 97 = .ok (.getfield 10, 3) := by decide +kernel
theorem dX9_count_100 : decode cX9_count 100 = .ok (.getfield 153, 3) := by decide +kernel
theorem dX9_count_103 : decode cX9_count 103 = .ok (.ireturn, 1) := by decide +kernel
theorem dX9_count_104 : decode cX9_count 104 = .ok (.aload_n 0, 1) := by decide +kernel
theorem dX9_count_105 : decode cX9_count 105 = .ok (.getfield 10, 3) := by decide +kernel
theorem dX9_count_108 : decode cX9_count 108 = .ok (.getfield 257, 3) := by decide +kernel
theorem dX9_count_111 : decode cX9_count 111 = .ok (.ireturn, 1) := by decide +kernel
theorem dX9_count_112 : decode cX9_count 112 = .ok (.aload_n 0, 1) := by decide +kernel
theorem dX9_count_113 : decode cX9_count 113 = .ok (.getfield 10, 3) := by decide +kernel
theorem dX9_count_116 : decode cX9_count 116 = .ok (.getfield 260, 3) := by decide +kernel
theorem dX9_count_119 : decode cX9_count 119 = .ok (.ireturn, 1) := by decide +kernel
theorem dX9_count_120 : decode cX9_count 120 = .ok (.aload_n 0, 1) := by decide +kernel
theorem dX9_count_121 : decode cX9_count 121 = .ok (.getfield 10, 3) := by decide +kernel
theorem dX9_count_124 : decode cX9_count 124 = .ok (.getfield 263, 3) := by decide +kernel
theorem dX9_count_127 : decode cX9_count 127 = .ok (.ireturn, 1) := by decide +kernel
theorem dX9_count_128 : decode cX9_count 128 = .ok (.aload_n 0, 1) := by decide +kernel
theorem dX9_count_129 : decode cX9_count 129 = .ok (.getfield 10, 3) := by decide +kernel
theorem dX9_count_132 : decode cX9_count 132 = .ok (.getfield 124, 3) := by decide +kernel
theorem dX9_count_135 : decode cX9_count 135 = .ok (.iload_n 1, 1) := by decide +kernel
theorem dX9_count_136 : decode cX9_count 136 = .ok (.iconst 4, 1) := by decide +kernel
theorem dX9_count_137 : decode cX9_count 137 = .ok (.isub, 1) := by decide +kernel
theorem dX9_count_138 : decode cX9_count 138 = .ok (.invokevirtual 159, 3) := by decide +kernel
theorem dX9_count_141 : decode cX9_count 141 = .ok (.ireturn, 1) := by decide +kernel
theorem dX9_count_142 : decode cX9_count 142 = .ok (.aload_n 0, 1) := by decide +kernel
theorem dX9_count_143 : decode cX9_count 143 = .ok (.getfield 10, 3) := by decide +kernel
theorem dX9_count_146 : decode cX9_count 146 = .ok (.getfield 46, 3) := by decide +kernel
theorem dX9_count_149 : decode cX9_count 149 = .ok (.getfield 94, 3) := by decide +kernel
theorem dX9_count_152 : decode cX9_count 152 = .ok (.ireturn, 1) := by decide +kernel
theorem dX9_count_153 : decode cX9_count 153 = .ok (.aload_n 0, 1) := by decide +kernel
theorem dX9_count_154 : decode cX9_count 154 = .ok (.getfield 10, 3) := by decide +kernel
theorem dX9_count_157 : decode cX9_count 157 = .ok (.getfield 46, 3) := by decide +kernel
theorem dX9_count_160 : decode cX9_count 160 = .ok (.getfield 68, 3) := by decide +kernel
theorem dX9_count_163 : decode cX9_count 163 = .ok (.ireturn, 1) := by decide +kernel
theorem dX9_count_164 : decode cX9_count 164 = .ok (.aload_n 0, 1) := by decide +kernel
theorem dX9_count_165 : decode cX9_count 165 = .ok (.getfield 10, 3) := by decide +kernel
theorem dX9_count_168 : decode cX9_count 168 = .ok (.getfield 46, 3) := by decide +kernel
theorem dX9_count_171 : decode cX9_count 171 = .ok (.iload_n 1, 1) := by decide +kernel
theorem dX9_count_172 : decode cX9_count 172 = .ok (.bipush 10, 2) := by decide +kernel
theorem dX9_count_174 : decode cX9_count 174 = .ok (.isub, 1) := by decide +kernel
theorem dX9_count_175 : decode cX9_count 175 = .ok (.invokevirtual 266, 3) := by decide +kernel
theorem dX9_count_178 : decode cX9_count 178 = .ok (.ireturn, 1) := by decide +kernel
theorem dX9_count_179 : decode cX9_count 179 = .ok (.aload_n 0, 1) := by decide +kernel
theorem dX9_count_180 : decode cX9_count 180 = .ok (.getfield 10, 3) := by decide +kernel
theorem dX9_count_183 : decode cX9_count 183 = .ok (.getfield 269, 3) := by decide +kernel
theorem dX9_count_186 : decode cX9_count 186 = .ok (.ireturn, 1) := by decide +kernel
theorem dX9_count_187 : decode cX9_count 187 = .ok (.aload_n 0, 1) := by decide +kernel
theorem dX9_count_188 : decode cX9_count 188 = .ok (.getfield 10, 3) := by decide +kernel
theorem dX9_count_191 : decode cX9_count 191 = .ok (.getfield 270, 3) := by decide +kernel
theorem dX9_count_194 : decode cX9_count 194 = .ok (.ireturn, 1) := by decide +kernel
theorem dX9_count_195 : decode cX9_count 195 = .ok (.aload_n 0, 1) := by decide +kernel
theorem dX9_count_196 : decode cX9_count 196 = .ok (.getfield 10, 3) := by decide +kernel
theorem dX9_count_199 : decode cX9_count 199 = .ok (.getfield 273, 3) := by decide +kernel
theorem dX9_count_202 : decode cX9_count 202 = .ok (.ireturn, 1) := by decide +kernel
theorem dX9_count_203 : decode cX9_count 203 = .ok (.aload_n 0, 1) := by decide +kernel
theorem dX9_count_204 : decode cX9_count 204 = .ok (.getfield 10, 3) := by decide +kernel
theorem dX9_count_207 : decode cX9_count 207 = .ok (.getfield 46, 3) := by decide +kernel
theorem dX9_count_210 : decode cX9_count 210 = .ok (.invokevirtual 276, 3) := by decide +kernel
theorem dX9_count_213 : decode cX9_count 213 = .ok (.ireturn, 1) := by decide +kernel
theorem dX9_count_214 : decode cX9_count 214 = .ok (.aload_n 0, 1) := by decide +kernel
theorem dX9_count_215 : decode cX9_count 215 = .ok (.getfield 19, 3) := by decide +kernel
theorem dX9_count_218 : decode cX9_count 218 = .ok (.getfield 204, 3) := by decide +kernel
theorem dX9_count_221 : decode cX9_count 221 = .ok (.ireturn, 1) := by decide +kernel
theorem dX9_count_222 : decode cX9_count 222 = .ok (.aload_n 0, 1) := by decide +kernel
theorem dX9_count_223 : decode cX9_count 223 = .ok (.getfield 36, 3) := by decide +kernel
theorem dX9_count_226 : decode cX9_count 226 = .ok (.getfield 170, 3) := by decide +kernel
theorem dX9_count_229 : decode cX9_count 229 = .ok (.ireturn, 1) := by decide +kernel
theorem dX9_count_230 : decode cX9_count 230 = .ok (.bipush (-2), 2) := by decide +kernel
theorem dX9_count_232 : decode cX9_count 232 = .ok (.ireturn, 1) := by decide +kernel
theorem dX9_giveJob_0 : decode cX9_giveJob 0 = .ok (.aload_n 0, 1) := by decide +kernel
theorem dX9_giveJob_1 : decode cX9_giveJob 1 = .ok (.getfield 10, 3) := by decide +kernel
theorem dX9_giveJob_4 : decode cX9_giveJob 4 = .ok (.iload_n 1, 1) := by decide +kernel
theorem dX9_giveJob_5 : decode cX9_giveJob 5 = .ok (.iload_n 2, 1) := by decide +kernel
theorem dX9_giveJob_6 : decode cX9_giveJob 6 = .ok (.iload_n 3, 1) := by decide +kernel
theorem dX9_giveJob_7 : decode cX9_giveJob 7 = .ok (.invokevirtual 193, 3) := by decide +kernel
theorem dX9_giveJob_10 : decode cX9_giveJob 10 = .ok (.istore 4, 2) := by decide +kernel
theorem dX9_giveJob_12 : decode cX9_giveJob 12 = .ok (.iload 4, 2) := by decide +kernel
theorem dX9_giveJob_14 : decode cX9_giveJob 14 = .ok (.bipush (-5), 2) := by decide +kernel
theorem dX9_giveJob_16 : decode cX9_giveJob 16 = .ok (.if_icmp .eq 6, 3) := by decide +kernel
theorem dX9_giveJob_19 : decode cX9_giveJob 19 = .ok (.iload 4, 2) := by decide +kernel
theorem dX9_giveJob_21 : decode cX9_giveJob 21 = .ok (.ireturn, 1) := by decide +kernel
theorem dX9_giveJob_22 : decode cX9_giveJob 22 = .ok (.aload_n 0, 1) := by decide +kernel
theorem dX9_giveJob_23 : decode cX9_giveJob 23 = .ok (.getfield 10, 3) := by decide +kernel
theorem dX9_giveJob_26 : decode cX9_giveJob 26 = .ok (.getfield 124, 3) := by decide +kernel
theorem dX9_giveJob_29 : decode cX9_giveJob 29 = .ok (.getfield 196, 3) := by decide +kernel
theorem dX9_giveJob_32 : decode cX9_giveJob 32 = .ok (.bipush 30, 2) := by decide +kernel
theorem dX9_giveJob_34 : decode cX9_giveJob 34 = .ok (.if_icmp .lt 6, 3) := by decide +kernel
theorem dX9_giveJob_37 : decode cX9_giveJob 37 = .ok (.bipush (-3), 2) := by decide +kernel
theorem dX9_giveJob_39 : decode cX9_giveJob 39 = .ok (.ireturn, 1) := by decide +kernel
theorem dX9_giveJob_40 : decode cX9_giveJob 40 = .ok (.aload_n 0, 1) := by decide +kernel
theorem dX9_giveJob_41 : decode cX9_giveJob 41 = .ok (.getfield 19, 3) := by decide +kernel
theorem dX9_giveJob_44 : decode cX9_giveJob 44 = .ok (.aload_n 0, 1) := by decide +kernel
theorem dX9_giveJob_45 : decode cX9_giveJob 45 = .ok (.getfield 10, 3) := by decide +kernel
theorem dX9_giveJob_48 : decode cX9_giveJob 48 = .ok (.invokevirtual 58, 3) := by decide +kernel
theorem dX9_giveJob_51 : decode cX9_giveJob 51 = .ok (.aload_n 0, 1) := by decide +kernel
theorem dX9_giveJob_52 : decode cX9_giveJob 52 = .ok (.getfield 10, 3) := by decide +kernel
theorem dX9_giveJob_55 : decode cX9_giveJob 55 = .ok (.getfield 124, 3) := by decide +kernel
theorem dX9_giveJob_58 : decode cX9_giveJob 58 = .ok (.iload_n 1, 1) := by decide +kernel
theorem dX9_giveJob_59 : decode cX9_giveJob 59 = .ok (.iload_n 2, 1) := by decide +kernel
theorem dX9_giveJob_60 : decode cX9_giveJob 60 = .ok (.iload_n 3, 1) := by decide +kernel
theorem dX9_giveJob_61 : decode cX9_giveJob 61 = .ok (.invokevirtual 197, 3) := by decide +kernel
theorem dX9_giveJob_64 : decode cX9_giveJob 64 = .ok (.ireturn, 1) := by decide +kernel
theorem dX9_isFrom_0 : decode cX9_isFrom 0 = .ok (.iload_n 0, 1) := by decide +kernel
theorem dX9_isFrom_1 : decode cX9_isFrom 1 = .ok (.iload_n 1, 1) := by decide +kernel
theorem dX9_isFrom_2 : decode cX9_isFrom 2 = .ok (.if_icmp .lt 12, 3) := by decide +kernel
theorem dX9_isFrom_5 : decode cX9_isFrom 5 = .ok (.iload_n 0, 1) := by decide +kernel
theorem dX9_isFrom_6 : decode cX9_isFrom 6 = .ok (.iload_n 2, 1) := by decide +kernel
theorem dX9_isFrom_7 : decode cX9_isFrom 7 = .ok (.if_icmp .gt 7, 3) := by decide +kernel
theorem dX9_isFrom_10 : decode cX9_isFrom 10 = .ok (.iconst 1, 1) := by decide +kernel
theorem dX9_isFrom_11 : decode cX9_isFrom 11 = .ok (.goto 4, 3) := by decide +kernel
theorem dX9_isFrom_14 : decode cX9_isFrom 14 = .ok (.iconst 0, 1) := by decide +kernel
theorem dX9_isFrom_15 : decode cX9_isFrom 15 = .ok (.ireturn, 1) := by decide +kernel
theorem dX9_floatOf_0 : decode cX9_floatOf 0 = .ok (.iload_n 0, 1) := by decide +kernel
theorem dX9_floatOf_1 : decode cX9_floatOf 1 = .ok (.bipush 23, 2) := by decide +kernel
theorem dX9_floatOf_3 : decode cX9_floatOf 3 = .ok (.iushr, 1) := by decide +kernel
theorem dX9_floatOf_4 : decode cX9_floatOf 4 = .ok (.istore_n 1, 1) := by decide +kernel
theorem dX9_floatOf_5 : decode cX9_floatOf 5 = .ok (.iload_n 0, 1) := by decide +kernel
theorem dX9_floatOf_6 : decode cX9_floatOf 6 = .ok (.ldc_w 279, 3) := by decide +kernel
theorem dX9_floatOf_9 : decode cX9_floatOf 9 = .ok (.iand, 1) := by decide +kernel
theorem dX9_floatOf_10 : decode cX9_floatOf 10 = .ok (.istore_n 2, 1) := by decide +kernel
theorem dX9_floatOf_11 : decode cX9_floatOf 11 = .ok (.iload_n 1, 1) := by decide +kernel
theorem dX9_floatOf_12 : decode cX9_floatOf 12 = .ok (.ifCond .ne 7, 3) := by decide +kernel
theorem dX9_floatOf_15 : decode cX9_floatOf 15 = .ok (.iload_n 2, 1) := by decide +kernel
theorem dX9_floatOf_16 : decode cX9_floatOf 16 = .ok (.goto 8, 3) := by decide +kernel
theorem dX9_floatOf_19 : decode cX9_floatOf 19 = .ok (.iload_n 2, 1) := by decide +kernel
theorem dX9_floatOf_20 : decode cX9_floatOf 20 = .ok (.ldc_w 280, 3) := by decide +kernel
theorem dX9_floatOf_23 : decode cX9_floatOf 23 = .ok (.ior, 1) := by decide +kernel
theorem dX9_floatOf_24 : decode cX9_floatOf 24 = .ok (.i2f, 1) := by decide +kernel
theorem dX9_floatOf_25 : decode cX9_floatOf 25 = .ok (.fstore_n 3, 1) := by decide +kernel
theorem dX9_floatOf_26 : decode cX9_floatOf 26 = .ok (.iload_n 1, 1) := by decide +kernel
theorem dX9_floatOf_27 : decode cX9_floatOf 27 = .ok (.ifCond .ne 9, 3) := by decide +kernel
theorem dX9_floatOf_30 : decode cX9_floatOf 30 = .ok (.sipush 149, 3) := by decide +kernel
theorem dX9_floatOf_33 : decode cX9_floatOf 33 = .ok (.goto 8, 3) := by decide +kernel
theorem dX9_floatOf_36 : decode cX9_floatOf 36 = .ok (.sipush 150, 3) := by decide +kernel
theorem dX9_floatOf_39 : decode cX9_floatOf 39 = .ok (.iload_n 1, 1) := by decide +kernel
theorem dX9_floatOf_40 : decode cX9_floatOf 40 = .ok (.isub, 1) := by decide +kernel
theorem dX9_floatOf_41 : decode cX9_floatOf 41 = .ok (.istore 4, 2) := by decide +kernel
theorem dX9_floatOf_43 : decode cX9_floatOf 43 = .ok (.iconst 0, 1) := by decide +kernel
theorem dX9_floatOf_44 : decode cX9_floatOf 44 = .ok (.istore 5, 2) := by decide +kernel
theorem dX9_floatOf_46 : decode cX9_floatOf 46 = .ok (.iload 5, 2) := by decide +kernel
theorem dX9_floatOf_48 : decode cX9_floatOf 48 = .ok (.iload 4, 2) := by decide +kernel
theorem dX9_floatOf_50 : decode cX9_floatOf 50 = .ok (.if_icmp .ge 15, 3) := by decide +kernel
theorem dX9_floatOf_53 : decode cX9_floatOf 53 = .ok (.fload_n 3, 1) := by decide +kernel
theorem dX9_floatOf_54 : decode cX9_floatOf 54 = .ok (.ldc_w 281, 3) := by decide +kernel
theorem dX9_floatOf_57 : decode cX9_floatOf 57 = .ok (.fmul, 1) := by decide +kernel
theorem dX9_floatOf_58 : decode cX9_floatOf 58 = .ok (.fstore_n 3, 1) := by decide +kernel
theorem dX9_floatOf_59 : decode cX9_floatOf 59 = .ok (.iinc 5 1, 3) := by decide +kernel
theorem dX9_floatOf_62 : decode cX9_floatOf 62 = .ok (.goto (-16), 3) := by decide +kernel
theorem dX9_floatOf_65 : decode cX9_floatOf 65 = .ok (.fload_n 3, 1) := by decide +kernel
theorem dX9_floatOf_66 : decode cX9_floatOf 66 = .ok (.freturn, 1) := by decide +kernel
theorem dX9_noNumber_0 : decode cX9_noNumber 0 = .ok (.ldc_w 282, 3) := by decide +kernel
theorem dX9_noNumber_3 : decode cX9_noNumber 3 = .ok (.freturn, 1) := by decide +kernel
theorem dL_cell_0 : decode cL_cell 0 = .ok (.iload_n 1, 1) := by decide +kernel
theorem dL_cell_1 : decode cL_cell 1 = .ok (.aload_n 0, 1) := by decide +kernel
theorem dL_cell_2 : decode cL_cell 2 = .ok (.arraylength, 1) := by decide +kernel
theorem dL_cell_3 : decode cL_cell 3 = .ok (.if_icmp .ge 9, 3) := by decide +kernel
theorem dL_cell_6 : decode cL_cell 6 = .ok (.aload_n 0, 1) := by decide +kernel
theorem dL_cell_7 : decode cL_cell 7 = .ok (.iload_n 1, 1) := by decide +kernel
theorem dL_cell_8 : decode cL_cell 8 = .ok (.iaload, 1) := by decide +kernel
theorem dL_cell_9 : decode cL_cell 9 = .ok (.goto 9, 3) := by decide +kernel
theorem dL_cell_12 : decode cL_cell 12 = .ok (.ldc 7, 2) := by decide +kernel
theorem dL_cell_14 : decode cL_cell 14 = .ok (.iload_n 1, 1) := by decide +kernel
theorem dL_cell_15 : decode cL_cell 15 = .ok (.iconst 1, 1) := by decide +kernel
theorem dL_cell_16 : decode cL_cell 16 = .ok (.iadd, 1) := by decide +kernel
theorem dL_cell_17 : decode cL_cell 17 = .ok (.imul, 1) := by decide +kernel
theorem dL_cell_18 : decode cL_cell 18 = .ok (.ireturn, 1) := by decide +kernel
theorem dL_low_0 : decode cL_low 0 = .ok (.iload_n 0, 1) := by decide +kernel
theorem dL_low_1 : decode cL_low 1 = .ok (.ldc 8, 2) := by decide +kernel
theorem dL_low_3 : decode cL_low 3 = .ok (.iand, 1) := by decide +kernel
theorem dL_low_4 : decode cL_low 4 = .ok (.iload_n 1, 1) := by decide +kernel
theorem dL_low_5 : decode cL_low 5 = .ok (.irem, 1) := by decide +kernel
theorem dL_low_6 : decode cL_low 6 = .ok (.ireturn, 1) := by decide +kernel
theorem dL_bits_0 : decode cL_bits 0 = .ok (.iconst 0, 1) := by decide +kernel
theorem dL_bits_1 : decode cL_bits 1 = .ok (.istore_n 1, 1) := by decide +kernel
theorem dL_bits_2 : decode cL_bits 2 = .ok (.iload_n 0, 1) := by decide +kernel
theorem dL_bits_3 : decode cL_bits 3 = .ok (.iload_n 1, 1) := by decide +kernel
theorem dL_bits_4 : decode cL_bits 4 = .ok (.ishr, 1) := by decide +kernel
theorem dL_bits_5 : decode cL_bits 5 = .ok (.iconst 1, 1) := by decide +kernel
theorem dL_bits_6 : decode cL_bits 6 = .ok (.if_icmp .le 9, 3) := by decide +kernel
theorem dL_bits_9 : decode cL_bits 9 = .ok (.iinc 1 1, 3) := by decide +kernel
end
section
theorem dL_bits_12 : decode cL_bits 12 = .ok (.goto (-10), 3) := by decide +kernel
theorem dL_bits_15 : decode cL_bits 15 = .ok (.iload_n 0, 1) := by decide +kernel
theorem dL_bits_16 : decode cL_bits 16 = .ok (.ifCond .ne 7, 3) := by decide +kernel
theorem dL_bits_19 : decode cL_bits 19 = .ok (.iconst 0, 1) := by decide +kernel
theorem dL_bits_20 : decode cL_bits 20 = .ok (.goto 21, 3) := by decide +kernel
theorem dL_bits_23 : decode cL_bits 23 = .ok (.bipush 124, 2) := by decide +kernel
theorem dL_bits_25 : decode cL_bits 25 = .ok (.iload_n 1, 1) := by decide +kernel
theorem dL_bits_26 : decode cL_bits 26 = .ok (.iadd, 1) := by decide +kernel
theorem dL_bits_27 : decode cL_bits 27 = .ok (.bipush 23, 2) := by decide +kernel
theorem dL_bits_29 : decode cL_bits 29 = .ok (.ishl, 1) := by decide +kernel
theorem dL_bits_30 : decode cL_bits 30 = .ok (.iload_n 0, 1) := by decide +kernel
theorem dL_bits_31 : decode cL_bits 31 = .ok (.iconst 1, 1) := by decide +kernel
theorem dL_bits_32 : decode cL_bits 32 = .ok (.iload_n 1, 1) := by decide +kernel
theorem dL_bits_33 : decode cL_bits 33 = .ok (.ishl, 1) := by decide +kernel
theorem dL_bits_34 : decode cL_bits 34 = .ok (.isub, 1) := by decide +kernel
theorem dL_bits_35 : decode cL_bits 35 = .ok (.bipush 23, 2) := by decide +kernel
theorem dL_bits_37 : decode cL_bits 37 = .ok (.iload_n 1, 1) := by decide +kernel
theorem dL_bits_38 : decode cL_bits 38 = .ok (.isub, 1) := by decide +kernel
theorem dL_bits_39 : decode cL_bits 39 = .ok (.ishl, 1) := by decide +kernel
theorem dL_bits_40 : decode cL_bits 40 = .ok (.ior, 1) := by decide +kernel
theorem dL_bits_41 : decode cL_bits 41 = .ok (.ireturn, 1) := by decide +kernel
theorem dL_isDusty_0 : decode cL_isDusty 0 = .ok (.aload_n 0, 1) := by decide +kernel
theorem dL_isDusty_1 : decode cL_isDusty 1 = .ok (.iconst 2, 1) := by decide +kernel
theorem dL_isDusty_2 : decode cL_isDusty 2 = .ok (.iload_n 1, 1) := by decide +kernel
theorem dL_isDusty_3 : decode cL_isDusty 3 = .ok (.imul, 1) := by decide +kernel
theorem dL_isDusty_4 : decode cL_isDusty 4 = .ok (.daload, 1) := by decide +kernel
theorem dL_isDusty_5 : decode cL_isDusty 5 = .ok (.aload_n 0, 1) := by decide +kernel
theorem dL_isDusty_6 : decode cL_isDusty 6 = .ok (.iconst 2, 1) := by decide +kernel
theorem dL_isDusty_7 : decode cL_isDusty 7 = .ok (.iload_n 1, 1) := by decide +kernel
theorem dL_isDusty_8 : decode cL_isDusty 8 = .ok (.imul, 1) := by decide +kernel
theorem dL_isDusty_9 : decode cL_isDusty 9 = .ok (.iconst 1, 1) := by decide +kernel
theorem dL_isDusty_10 : decode cL_isDusty 10 = .ok (.iadd, 1) := by decide +kernel
theorem dL_isDusty_11 : decode cL_isDusty 11 = .ok (.daload, 1) := by decide +kernel
theorem dL_isDusty_12 : decode cL_isDusty 12 = .ok (.dcmp .l, 1) := by decide +kernel
theorem dL_isDusty_13 : decode cL_isDusty 13 = .ok (.ifCond .le 7, 3) := by decide +kernel
theorem dL_isDusty_16 : decode cL_isDusty 16 = .ok (.iconst 1, 1) := by decide +kernel
theorem dL_isDusty_17 : decode cL_isDusty 17 = .ok (.goto 4, 3) := by decide +kernel
theorem dL_isDusty_20 : decode cL_isDusty 20 = .ok (.iconst 0, 1) := by decide +kernel
theorem dL_isDusty_21 : decode cL_isDusty 21 = .ok (.ireturn, 1) := by decide +kernel
theorem dL_away_0 : decode cL_away 0 = .ok (.iload_n 0, 1) := by decide +kernel
theorem dL_away_1 : decode cL_away 1 = .ok (.iload_n 1, 1) := by decide +kernel
theorem dL_away_2 : decode cL_away 2 = .ok (.if_icmp .le 9, 3) := by decide +kernel
theorem dL_away_5 : decode cL_away 5 = .ok (.iload_n 0, 1) := by decide +kernel
theorem dL_away_6 : decode cL_away 6 = .ok (.iload_n 1, 1) := by decide +kernel
theorem dL_away_7 : decode cL_away 7 = .ok (.isub, 1) := by decide +kernel
theorem dL_away_8 : decode cL_away 8 = .ok (.goto 6, 3) := by decide +kernel
theorem dL_away_11 : decode cL_away 11 = .ok (.iload_n 1, 1) := by decide +kernel
theorem dL_away_12 : decode cL_away 12 = .ok (.iload_n 0, 1) := by decide +kernel
theorem dL_away_13 : decode cL_away 13 = .ok (.isub, 1) := by decide +kernel
theorem dL_away_14 : decode cL_away 14 = .ok (.ireturn, 1) := by decide +kernel
theorem dL_atHome_0 : decode cL_atHome 0 = .ok (.bipush (-5), 2) := by decide +kernel
theorem dL_atHome_2 : decode cL_atHome 2 = .ok (.istore_n 3, 1) := by decide +kernel
theorem dL_atHome_3 : decode cL_atHome 3 = .ok (.iconst 0, 1) := by decide +kernel
theorem dL_atHome_4 : decode cL_atHome 4 = .ok (.istore 4, 2) := by decide +kernel
theorem dL_atHome_6 : decode cL_atHome 6 = .ok (.iload 4, 2) := by decide +kernel
theorem dL_atHome_8 : decode cL_atHome 8 = .ok (.aload_n 0, 1) := by decide +kernel
theorem dL_atHome_9 : decode cL_atHome 9 = .ok (.bipush 9, 2) := by decide +kernel
theorem dL_atHome_11 : decode cL_atHome 11 = .ok (.iaload, 1) := by decide +kernel
theorem dL_atHome_12 : decode cL_atHome 12 = .ok (.if_icmp .ge 29, 3) := by decide +kernel
theorem dL_atHome_15 : decode cL_atHome 15 = .ok (.aload_n 1, 1) := by decide +kernel
theorem dL_atHome_16 : decode cL_atHome 16 = .ok (.bipush 6, 2) := by decide +kernel
theorem dL_atHome_18 : decode cL_atHome 18 = .ok (.iload 4, 2) := by decide +kernel
theorem dL_atHome_20 : decode cL_atHome 20 = .ok (.imul, 1) := by decide +kernel
theorem dL_atHome_21 : decode cL_atHome 21 = .ok (.iconst 1, 1) := by decide +kernel
theorem dL_atHome_22 : decode cL_atHome 22 = .ok (.iadd, 1) := by decide +kernel
theorem dL_atHome_23 : decode cL_atHome 23 = .ok (.iaload, 1) := by decide +kernel
theorem dL_atHome_24 : decode cL_atHome 24 = .ok (.iload_n 2, 1) := by decide +kernel
theorem dL_atHome_25 : decode cL_atHome 25 = .ok (.if_icmp .ne 8, 3) := by decide +kernel
theorem dL_atHome_28 : decode cL_atHome 28 = .ok (.iload 4, 2) := by decide +kernel
theorem dL_atHome_30 : decode cL_atHome 30 = .ok (.goto 4, 3) := by decide +kernel
theorem dL_atHome_33 : decode cL_atHome 33 = .ok (.iload_n 3, 1) := by decide +kernel
theorem dL_atHome_34 : decode cL_atHome 34 = .ok (.istore_n 3, 1) := by decide +kernel
theorem dL_atHome_35 : decode cL_atHome 35 = .ok (.iinc 4 1, 3) := by decide +kernel
theorem dL_atHome_38 : decode cL_atHome 38 = .ok (.goto (-32), 3) := by decide +kernel
theorem dL_atHome_41 : decode cL_atHome 41 = .ok (.iload_n 3, 1) := by decide +kernel
theorem dL_atHome_42 : decode cL_atHome 42 = .ok (.ireturn, 1) := by decide +kernel
theorem dL_rank_0 : decode cL_rank 0 = .ok (.aload_n 0, 1) := by decide +kernel
theorem dL_rank_1 : decode cL_rank 1 = .ok (.bipush 6, 2) := by decide +kernel
theorem dL_rank_3 : decode cL_rank 3 = .ok (.iaload, 1) := by decide +kernel
theorem dL_rank_4 : decode cL_rank 4 = .ok (.iload_n 1, 1) := by decide +kernel
theorem dL_rank_5 : decode cL_rank 5 = .ok (.if_icmp .ne 7, 3) := by decide +kernel
theorem dL_rank_8 : decode cL_rank 8 = .ok (.iconst 0, 1) := by decide +kernel
theorem dL_rank_9 : decode cL_rank 9 = .ok (.goto 16, 3) := by decide +kernel
theorem dL_rank_12 : decode cL_rank 12 = .ok (.aload_n 0, 1) := by decide +kernel
theorem dL_rank_13 : decode cL_rank 13 = .ok (.bipush 7, 2) := by decide +kernel
theorem dL_rank_15 : decode cL_rank 15 = .ok (.iaload, 1) := by decide +kernel
theorem dL_rank_16 : decode cL_rank 16 = .ok (.iload_n 1, 1) := by decide +kernel
theorem dL_rank_17 : decode cL_rank 17 = .ok (.if_icmp .ne 7, 3) := by decide +kernel
theorem dL_rank_20 : decode cL_rank 20 = .ok (.iconst 1, 1) := by decide +kernel
theorem dL_rank_21 : decode cL_rank 21 = .ok (.goto 4, 3) := by decide +kernel
theorem dL_rank_24 : decode cL_rank 24 = .ok (.iconst 2, 1) := by decide +kernel
theorem dL_rank_25 : decode cL_rank 25 = .ok (.ireturn, 1) := by decide +kernel
theorem dL_isAhead_0 : decode cL_isAhead 0 = .ok (.aload_n 2, 1) := by decide +kernel
theorem dL_isAhead_1 : decode cL_isAhead 1 = .ok (.bipush 6, 2) := by decide +kernel
theorem dL_isAhead_3 : decode cL_isAhead 3 = .ok (.iload_n 3, 1) := by decide +kernel
theorem dL_isAhead_4 : decode cL_isAhead 4 = .ok (.imul, 1) := by decide +kernel
theorem dL_isAhead_5 : decode cL_isAhead 5 = .ok (.iaload, 1) := by decide +kernel
theorem dL_isAhead_6 : decode cL_isAhead 6 = .ok (.iconst 1, 1) := by decide +kernel
theorem dL_isAhead_7 : decode cL_isAhead 7 = .ok (.if_icmp .ne 22, 3) := by decide +kernel
theorem dL_isAhead_10 : decode cL_isAhead 10 = .ok (.aload_n 1, 1) := by decide +kernel
theorem dL_isAhead_11 : decode cL_isAhead 11 = .ok (.aload_n 2, 1) := by decide +kernel
theorem dL_isAhead_12 : decode cL_isAhead 12 = .ok (.bipush 6, 2) := by decide +kernel
theorem dL_isAhead_14 : decode cL_isAhead 14 = .ok (.iload_n 3, 1) := by decide +kernel
theorem dL_isAhead_15 : decode cL_isAhead 15 = .ok (.imul, 1) := by decide +kernel
theorem dL_isAhead_16 : decode cL_isAhead 16 = .ok (.iconst 1, 1) := by decide +kernel
theorem dL_isAhead_17 : decode cL_isAhead 17 = .ok (.iadd, 1) := by decide +kernel
theorem dL_isAhead_18 : decode cL_isAhead 18 = .ok (.iaload, 1) := by decide +kernel
theorem dL_isAhead_19 : decode cL_isAhead 19 = .ok (.invokestatic 9, 3) := by decide +kernel
theorem dL_isAhead_22 : decode cL_isAhead 22 = .ok (.ifCond .eq 7, 3) := by decide +kernel
theorem dL_isAhead_25 : decode cL_isAhead 25 = .ok (.iconst 1, 1) := by decide +kernel
theorem dL_isAhead_26 : decode cL_isAhead 26 = .ok (.goto 4, 3) := by decide +kernel
theorem dL_isAhead_29 : decode cL_isAhead 29 = .ok (.iconst 0, 1) := by decide +kernel
theorem dL_isAhead_30 : decode cL_isAhead 30 = .ok (.istore 5, 2) := by decide +kernel
theorem dL_isAhead_32 : decode cL_isAhead 32 = .ok (.aload_n 2, 1) := by decide +kernel
theorem dL_isAhead_33 : decode cL_isAhead 33 = .ok (.bipush 6, 2) := by decide +kernel
theorem dL_isAhead_35 : decode cL_isAhead 35 = .ok (.iload 4, 2) := by decide +kernel
theorem dL_isAhead_37 : decode cL_isAhead 37 = .ok (.imul, 1) := by decide +kernel
theorem dL_isAhead_38 : decode cL_isAhead 38 = .ok (.iaload, 1) := by decide +kernel
theorem dL_isAhead_39 : decode cL_isAhead 39 = .ok (.iconst 1, 1) := by decide +kernel
theorem dL_isAhead_40 : decode cL_isAhead 40 = .ok (.if_icmp .ne 23, 3) := by decide +kernel
theorem dL_isAhead_43 : decode cL_isAhead 43 = .ok (.aload_n 1, 1) := by decide +kernel
theorem dL_isAhead_44 : decode cL_isAhead 44 = .ok (.aload_n 2, 1) := by decide +kernel
theorem dL_isAhead_45 : decode cL_isAhead 45 = .ok (.bipush 6, 2) := by decide +kernel
theorem dL_isAhead_47 : decode cL_isAhead 47 = .ok (.iload 4, 2) := by decide +kernel
theorem dL_isAhead_49 : decode cL_isAhead 49 = .ok (.imul, 1) := by decide +kernel
theorem dL_isAhead_50 : decode cL_isAhead 50 = .ok (.iconst 1, 1) := by decide +kernel
theorem dL_isAhead_51 : decode cL_isAhead 51 = .ok (.iadd, 1) := by decide +kernel
theorem dL_isAhead_52 : decode cL_isAhead 52 = .ok (.iaload, 1) := by decide +kernel
theorem dL_isAhead_53 : decode cL_isAhead 53 = .ok (.invokestatic 9, 3) := by decide +kernel
theorem dL_isAhead_56 : decode cL_isAhead 56 = .ok (.ifCond .eq 7, 3) := by decide +kernel
theorem dL_isAhead_59 : decode cL_isAhead 59 = .ok (.iconst 1, 1) := by decide +kernel
theorem dL_isAhead_60 : decode cL_isAhead 60 = .ok (.goto 4, 3) := by decide +kernel
theorem dL_isAhead_63 : decode cL_isAhead 63 = .ok (.iconst 0, 1) := by decide +kernel
theorem dL_isAhead_64 : decode cL_isAhead 64 = .ok (.istore 6, 2) := by decide +kernel
theorem dL_isAhead_66 : decode cL_isAhead 66 = .ok (.iload 5, 2) := by decide +kernel
theorem dL_isAhead_68 : decode cL_isAhead 68 = .ok (.iload 6, 2) := by decide +kernel
theorem dL_isAhead_70 : decode cL_isAhead 70 = .ok (.if_icmp .eq 6, 3) := by decide +kernel
theorem dL_isAhead_73 : decode cL_isAhead 73 = .ok (.iload 5, 2) := by decide +kernel
theorem dL_isAhead_75 : decode cL_isAhead 75 = .ok (.ireturn, 1) := by decide +kernel
theorem dL_isAhead_76 : decode cL_isAhead 76 = .ok (.iload 5, 2) := by decide +kernel
theorem dL_isAhead_78 : decode cL_isAhead 78 = .ok (.ifCond .eq 7, 3) := by decide +kernel
theorem dL_isAhead_81 : decode cL_isAhead 81 = .ok (.iconst 0, 1) := by decide +kernel
theorem dL_isAhead_82 : decode cL_isAhead 82 = .ok (.goto 25, 3) := by decide +kernel
theorem dL_isAhead_85 : decode cL_isAhead 85 = .ok (.aload_n 0, 1) := by decide +kernel
theorem dL_isAhead_86 : decode cL_isAhead 86 = .ok (.aload_n 2, 1) := by decide +kernel
theorem dL_isAhead_87 : decode cL_isAhead 87 = .ok (.bipush 6, 2) := by decide +kernel
theorem dL_isAhead_89 : decode cL_isAhead 89 = .ok (.iload_n 3, 1) := by decide +kernel
theorem dL_isAhead_90 : decode cL_isAhead 90 = .ok (.imul, 1) := by decide +kernel
theorem dL_isAhead_91 : decode cL_isAhead 91 = .ok (.iaload, 1) := by decide +kernel
theorem dL_isAhead_92 : decode cL_isAhead 92 = .ok (.invokestatic 15, 3) := by decide +kernel
theorem dL_isAhead_95 : decode cL_isAhead 95 = .ok (.aload_n 0, 1) := by decide +kernel
theorem dL_isAhead_96 : decode cL_isAhead 96 = .ok (.aload_n 2, 1) := by decide +kernel
theorem dL_isAhead_97 : decode cL_isAhead 97 = .ok (.bipush 6, 2) := by decide +kernel
theorem dL_isAhead_99 : decode cL_isAhead 99 = .ok (.iload 4, 2) := by decide +kernel
theorem dL_isAhead_101 : decode cL_isAhead 101 = .ok (.imul, 1) := by decide +kernel
theorem dL_isAhead_102 : decode cL_isAhead 102 = .ok (.iaload, 1) := by decide +kernel
theorem dL_isAhead_103 : decode cL_isAhead 103 = .ok (.invokestatic 15, 3) := by decide +kernel
theorem dL_isAhead_106 : decode cL_isAhead 106 = .ok (.isub, 1) := by decide +kernel
theorem dL_isAhead_107 : decode cL_isAhead 107 = .ok (.istore 7, 2) := by decide +kernel
theorem dL_isAhead_109 : decode cL_isAhead 109 = .ok (.iload 7, 2) := by decide +kernel
theorem dL_isAhead_111 : decode cL_isAhead 111 = .ok (.ifCond .lt 14, 3) := by decide +kernel
theorem dL_isAhead_114 : decode cL_isAhead 114 = .ok (.iload 7, 2) := by decide +kernel
theorem dL_isAhead_116 : decode cL_isAhead 116 = .ok (.ifCond .ne 13, 3) := by decide +kernel
theorem dL_isAhead_119 : decode cL_isAhead 119 = .ok (.iload_n 3, 1) := by decide +kernel
theorem dL_isAhead_120 : decode cL_isAhead 120 = .ok (.iload 4, 2) := by decide +kernel
theorem dL_isAhead_122 : decode cL_isAhead 122 = .ok (.if_icmp .ge 7, 3) := by decide +kernel
theorem dL_isAhead_125 : decode cL_isAhead 125 = .ok (.iconst 1, 1) := by decide +kernel
theorem dL_isAhead_126 : decode cL_isAhead 126 = .ok (.goto 4, 3) := by decide +kernel
theorem dL_isAhead_129 : decode cL_isAhead 129 = .ok (.iconst 0, 1) := by decide +kernel
theorem dL_isAhead_130 : decode cL_isAhead 130 = .ok (.ireturn, 1) := by decide +kernel
theorem dL_drive_0 : decode cL_drive 0 = .ok (.bipush (-5), 2) := by decide +kernel
theorem dL_drive_2 : decode cL_drive 2 = .ok (.istore_n 2, 1) := by decide +kernel
theorem dL_drive_3 : decode cL_drive 3 = .ok (.aload_n 0, 1) := by decide +kernel
theorem dL_drive_4 : decode cL_drive 4 = .ok (.bipush 10, 2) := by decide +kernel
theorem dL_drive_6 : decode cL_drive 6 = .ok (.iaload, 1) := by decide +kernel
theorem dL_drive_7 : decode cL_drive 7 = .ok (.iconst 1, 1) := by decide +kernel
theorem dL_drive_8 : decode cL_drive 8 = .ok (.isub, 1) := by decide +kernel
theorem dL_drive_9 : decode cL_drive 9 = .ok (.istore_n 3, 1) := by decide +kernel
theorem dL_drive_10 : decode cL_drive 10 = .ok (.iload_n 3, 1) := by decide +kernel
theorem dL_drive_11 : decode cL_drive 11 = .ok (.ifCond .lt 41, 3) := by decide +kernel
theorem dL_drive_14 : decode cL_drive 14 = .ok (.aload_n 1, 1) := by decide +kernel
theorem dL_drive_15 : decode cL_drive 15 = .ok (.iload_n 3, 1) := by decide +kernel
theorem dL_drive_16 : decode cL_drive 16 = .ok (.invokestatic 9, 3) := by decide +kernel
theorem dL_drive_19 : decode cL_drive 19 = .ok (.ifCond .ne 25, 3) := by decide +kernel
theorem dL_drive_22 : decode cL_drive 22 = .ok (.iload_n 2, 1) := by decide +kernel
theorem dL_drive_23 : decode cL_drive 23 = .ok (.ifCond .lt 17, 3) := by decide +kernel
theorem dL_drive_26 : decode cL_drive 26 = .ok (.aload_n 1, 1) := by decide +kernel
theorem dL_drive_27 : decode cL_drive 27 = .ok (.iconst 2, 1) := by decide +kernel
theorem dL_drive_28 : decode cL_drive 28 = .ok (.iload_n 3, 1) := by decide +kernel
theorem dL_drive_29 : decode cL_drive 29 = .ok (.imul, 1) := by decide +kernel
theorem dL_drive_30 : decode cL_drive 30 = .ok (.daload, 1) := by decide +kernel
theorem dL_drive_31 : decode cL_drive 31 = .ok (.aload_n 1, 1) := by decide +kernel
theorem dL_drive_32 : decode cL_drive 32 = .ok (.iconst 2, 1) := by decide +kernel
theorem dL_drive_33 : decode cL_drive 33 = .ok (.iload_n 2, 1) := by decide +kernel
theorem dL_drive_34 : decode cL_drive 34 = .ok (.imul, 1) := by decide +kernel
theorem dL_drive_35 : decode cL_drive 35 = .ok (.daload, 1) := by decide +kernel
theorem dL_drive_36 : decode cL_drive 36 = .ok (.dcmp .g, 1) := by decide +kernel
theorem dL_drive_37 : decode cL_drive 37 = .ok (.ifCond .gt 7, 3) := by decide +kernel
theorem dL_drive_40 : decode cL_drive 40 = .ok (.iload_n 3, 1) := by decide +kernel
theorem dL_drive_41 : decode cL_drive 41 = .ok (.goto 4, 3) := by decide +kernel
theorem dL_drive_44 : decode cL_drive 44 = .ok (.iload_n 2, 1) := by decide +kernel
theorem dL_drive_45 : decode cL_drive 45 = .ok (.istore_n 2, 1) := by decide +kernel
theorem dL_drive_46 : decode cL_drive 46 = .ok (.iinc 3 (-1), 3) := by decide +kernel
theorem dL_drive_49 : decode cL_drive 49 = .ok (.goto (-39), 3) := by decide +kernel
theorem dL_drive_52 : decode cL_drive 52 = .ok (.iload_n 2, 1) := by decide +kernel
theorem dL_drive_53 : decode cL_drive 53 = .ok (.ireturn, 1) := by decide +kernel
theorem dL_cleaner_0 : decode cL_cleaner 0 = .ok (.bipush (-5), 2) := by decide +kernel
theorem dL_cleaner_2 : decode cL_cleaner 2 = .ok (.istore_n 2, 1) := by decide +kernel
theorem dL_cleaner_3 : decode cL_cleaner 3 = .ok (.aload_n 0, 1) := by decide +kernel
theorem dL_cleaner_4 : decode cL_cleaner 4 = .ok (.bipush 9, 2) := by decide +kernel
theorem dL_cleaner_6 : decode cL_cleaner 6 = .ok (.iaload, 1) := by decide +kernel
theorem dL_cleaner_7 : decode cL_cleaner 7 = .ok (.iconst 1, 1) := by decide +kernel
theorem dL_cleaner_8 : decode cL_cleaner 8 = .ok (.isub, 1) := by decide +kernel
theorem dL_cleaner_9 : decode cL_cleaner 9 = .ok (.istore_n 3, 1) := by decide +kernel
theorem dL_cleaner_10 : decode cL_cleaner 10 = .ok (.iload_n 3, 1) := by decide +kernel
theorem dL_cleaner_11 : decode cL_cleaner 11 = .ok (.ifCond .lt 83, 3) := by decide +kernel
theorem dL_cleaner_14 : decode cL_cleaner 14 = .ok (.aload_n 1, 1) := by decide +kernel
theorem dL_cleaner_15 : decode cL_cleaner 15 = .ok (.bipush 6, 2) := by decide +kernel
theorem dL_cleaner_17 : decode cL_cleaner 17 = .ok (.iload_n 3, 1) := by decide +kernel
theorem dL_cleaner_18 : decode cL_cleaner 18 = .ok (.imul, 1) := by decide +kernel
theorem dL_cleaner_19 : decode cL_cleaner 19 = .ok (.iaload, 1) := by decide +kernel
theorem dL_cleaner_20 : decode cL_cleaner 20 = .ok (.iconst 1, 1) := by decide +kernel
theorem dL_cleaner_21 : decode cL_cleaner 21 = .ok (.if_icmp .ne 18, 3) := by decide +kernel
theorem dL_cleaner_24 : decode cL_cleaner 24 = .ok (.aload_n 1, 1) := by decide +kernel
theorem dL_cleaner_25 : decode cL_cleaner 25 = .ok (.bipush 6, 2) := by decide +kernel
theorem dL_cleaner_27 : decode cL_cleaner 27 = .ok (.iload_n 3, 1) := by decide +kernel
theorem dL_cleaner_28 : decode cL_cleaner 28 = .ok (.imul, 1) := by decide +kernel
theorem dL_cleaner_29 : decode cL_cleaner 29 = .ok (.iconst 3, 1) := by decide +kernel
theorem dL_cleaner_30 : decode cL_cleaner 30 = .ok (.iadd, 1) := by decide +kernel
theorem dL_cleaner_31 : decode cL_cleaner 31 = .ok (.iaload, 1) := by decide +kernel
theorem dL_cleaner_32 : decode cL_cleaner 32 = .ok (.ifCond .le 7, 3) := by decide +kernel
theorem dL_cleaner_35 : decode cL_cleaner 35 = .ok (.iconst 1, 1) := by decide +kernel
theorem dL_cleaner_36 : decode cL_cleaner 36 = .ok (.goto 4, 3) := by decide +kernel
theorem dL_cleaner_39 : decode cL_cleaner 39 = .ok (.iconst 0, 1) := by decide +kernel
theorem dL_cleaner_40 : decode cL_cleaner 40 = .ok (.istore 4, 2) := by decide +kernel
theorem dL_cleaner_42 : decode cL_cleaner 42 = .ok (.iload 4, 2) := by decide +kernel
theorem dL_cleaner_44 : decode cL_cleaner 44 = .ok (.ifCond .eq 42, 3) := by decide +kernel
theorem dL_cleaner_47 : decode cL_cleaner 47 = .ok (.iload_n 2, 1) := by decide +kernel
theorem dL_cleaner_48 : decode cL_cleaner 48 = .ok (.ifCond .lt 34, 3) := by decide +kernel
theorem dL_cleaner_51 : decode cL_cleaner 51 = .ok (.aload_n 1, 1) := by decide +kernel
theorem dL_cleaner_52 : decode cL_cleaner 52 = .ok (.bipush 6, 2) := by decide +kernel
theorem dL_cleaner_54 : decode cL_cleaner 54 = .ok (.iload_n 3, 1) := by decide +kernel
theorem dL_cleaner_55 : decode cL_cleaner 55 = .ok (.imul, 1) := by decide +kernel
theorem dL_cleaner_56 : decode cL_cleaner 56 = .ok (.iconst 1, 1) := by decide +kernel
theorem dL_cleaner_57 : decode cL_cleaner 57 = .ok (.iadd, 1) := by decide +kernel
theorem dL_cleaner_58 : decode cL_cleaner 58 = .ok (.iaload, 1) := by decide +kernel
theorem dL_cleaner_59 : decode cL_cleaner 59 = .ok (.aload_n 0, 1) := by decide +kernel
theorem dL_cleaner_60 : decode cL_cleaner 60 = .ok (.iconst 1, 1) := by decide +kernel
theorem dL_cleaner_61 : decode cL_cleaner 61 = .ok (.iaload, 1) := by decide +kernel
theorem dL_cleaner_62 : decode cL_cleaner 62 = .ok (.invokestatic 19, 3) := by decide +kernel
theorem dL_cleaner_65 : decode cL_cleaner 65 = .ok (.aload_n 1, 1) := by decide +kernel
theorem dL_cleaner_66 : decode cL_cleaner 66 = .ok (.bipush 6, 2) := by decide +kernel
theorem dL_cleaner_68 : decode cL_cleaner 68 = .ok (.iload_n 2, 1) := by decide +kernel
theorem dL_cleaner_69 : decode cL_cleaner 69 = .ok (.imul, 1) := by decide +kernel
theorem dL_cleaner_70 : decode cL_cleaner 70 = .ok (.iconst 1, 1) := by decide +kernel
theorem dL_cleaner_71 : decode cL_cleaner 71 = .ok (.iadd, 1) := by decide +kernel
theorem dL_cleaner_72 : decode cL_cleaner 72 = .ok (.iaload, 1) := by decide +kernel
theorem dL_cleaner_73 : decode cL_cleaner 73 = .ok (.aload_n 0, 1) := by decide +kernel
theorem dL_cleaner_74 : decode cL_cleaner 74 = .ok (.iconst 1, 1) := by decide +kernel
theorem dL_cleaner_75 : decode cL_cleaner 75 = .ok (.iaload, 1) := by decide +kernel
theorem dL_cleaner_76 : decode cL_cleaner 76 = .ok (.invokestatic 19, 3) := by decide +kernel
theorem dL_cleaner_79 : decode cL_cleaner 79 = .ok (.if_icmp .gt 7, 3) := by decide +kernel
theorem dL_cleaner_82 : decode cL_cleaner 82 = .ok (.iload_n 3, 1) := by decide +kernel
theorem dL_cleaner_83 : decode cL_cleaner 83 = .ok (.goto 4, 3) := by decide +kernel
theorem dL_cleaner_86 : decode cL_cleaner 86 = .ok (.iload_n 2, 1) := by decide +kernel
theorem dL_cleaner_87 : decode cL_cleaner 87 = .ok (.istore_n 2, 1) := by decide +kernel
theorem dL_cleaner_88 : decode cL_cleaner 88 = .ok (.iinc 3 (-1), 3) := by decide +kernel
theorem dL_cleaner_91 : decode cL_cleaner 91 = .ok (.goto (-81), 3) := by decide +kernel
theorem dL_cleaner_94 : decode cL_cleaner 94 = .ok (.iload_n 2, 1) := by decide +kernel
theorem dL_cleaner_95 : decode cL_cleaner 95 = .ok (.ireturn, 1) := by decide +kernel
theorem dL_canBegin_0 : decode cL_canBegin 0 = .ok (.aload 4, 2) := by decide +kernel
theorem dL_canBegin_2 : decode cL_canBegin 2 = .ok (.bipush 6, 2) := by decide +kernel
theorem dL_canBegin_4 : decode cL_canBegin 4 = .ok (.iload 5, 2) := by decide +kernel
theorem dL_canBegin_6 : decode cL_canBegin 6 = .ok (.imul, 1) := by decide +kernel
theorem dL_canBegin_7 : decode cL_canBegin 7 = .ok (.iconst 3, 1) := by decide +kernel
theorem dL_canBegin_8 : decode cL_canBegin 8 = .ok (.iadd, 1) := by decide +kernel
theorem dL_canBegin_9 : decode cL_canBegin 9 = .ok (.iaload, 1) := by decide +kernel
theorem dL_canBegin_10 : decode cL_canBegin 10 = .ok (.aload_n 0, 1) := by decide +kernel
theorem dL_canBegin_11 : decode cL_canBegin 11 = .ok (.iconst 0, 1) := by decide +kernel
theorem dL_canBegin_12 : decode cL_canBegin 12 = .ok (.iaload, 1) := by decide +kernel
theorem dL_canBegin_13 : decode cL_canBegin 13 = .ok (.if_icmp .le 5, 3) := by decide +kernel
theorem dL_canBegin_16 : decode cL_canBegin 16 = .ok (.iconst 0, 1) := by decide +kernel
theorem dL_canBegin_17 : decode cL_canBegin 17 = .ok (.ireturn, 1) := by decide +kernel
theorem dL_canBegin_18 : decode cL_canBegin 18 = .ok (.aload_n 3, 1) := by decide +kernel
theorem dL_canBegin_19 : decode cL_canBegin 19 = .ok (.bipush 6, 2) := by decide +kernel
theorem dL_canBegin_21 : decode cL_canBegin 21 = .ok (.iload 5, 2) := by decide +kernel
theorem dL_canBegin_23 : decode cL_canBegin 23 = .ok (.imul, 1) := by decide +kernel
theorem dL_canBegin_24 : decode cL_canBegin 24 = .ok (.iaload, 1) := by decide +kernel
theorem dL_canBegin_25 : decode cL_canBegin 25 = .ok (.iconst 2, 1) := by decide +kernel
theorem dL_canBegin_26 : decode cL_canBegin 26 = .ok (.if_icmp .ne 20, 3) := by decide +kernel
theorem dL_canBegin_29 : decode cL_canBegin 29 = .ok (.aload_n 0, 1) := by decide +kernel
theorem dL_canBegin_30 : decode cL_canBegin 30 = .ok (.aload_n 1, 1) := by decide +kernel
theorem dL_canBegin_31 : decode cL_canBegin 31 = .ok (.aload_n 3, 1) := by decide +kernel
theorem dL_canBegin_32 : decode cL_canBegin 32 = .ok (.bipush 6, 2) := by decide +kernel
theorem dL_canBegin_34 : decode cL_canBegin 34 = .ok (.iload 5, 2) := by decide +kernel
theorem dL_canBegin_36 : decode cL_canBegin 36 = .ok (.imul, 1) := by decide +kernel
theorem dL_canBegin_37 : decode cL_canBegin 37 = .ok (.iconst 2, 1) := by decide +kernel
theorem dL_canBegin_38 : decode cL_canBegin 38 = .ok (.iadd, 1) := by decide +kernel
theorem dL_canBegin_39 : decode cL_canBegin 39 = .ok (.iaload, 1) := by decide +kernel
theorem dL_canBegin_40 : decode cL_canBegin 40 = .ok (.invokestatic 23, 3) := by decide +kernel
theorem dL_canBegin_43 : decode cL_canBegin 43 = .ok (.goto 5, 3) := by decide +kernel
theorem dL_canBegin_46 : decode cL_canBegin 46 = .ok (.bipush (-5), 2) := by decide +kernel
theorem dL_canBegin_48 : decode cL_canBegin 48 = .ok (.istore 6, 2) := by decide +kernel
theorem dL_canBegin_50 : decode cL_canBegin 50 = .ok (.aload_n 3, 1) := by decide +kernel
theorem dL_canBegin_51 : decode cL_canBegin 51 = .ok (.bipush 6, 2) := by decide +kernel
theorem dL_canBegin_53 : decode cL_canBegin 53 = .ok (.iload 5, 2) := by decide +kernel
theorem dL_canBegin_55 : decode cL_canBegin 55 = .ok (.imul, 1) := by decide +kernel
theorem dL_canBegin_56 : decode cL_canBegin 56 = .ok (.iaload, 1) := by decide +kernel
theorem dL_canBegin_57 : decode cL_canBegin 57 = .ok (.ifCond .ne 19, 3) := by decide +kernel
theorem dL_canBegin_60 : decode cL_canBegin 60 = .ok (.aload_n 0, 1) := by decide +kernel
theorem dL_canBegin_61 : decode cL_canBegin 61 = .ok (.aload_n 2, 1) := by decide +kernel
theorem dL_canBegin_62 : decode cL_canBegin 62 = .ok (.invokestatic 27, 3) := by decide +kernel
theorem dL_canBegin_65 : decode cL_canBegin 65 = .ok (.ifCond .lt 7, 3) := by decide +kernel
theorem dL_canBegin_68 : decode cL_canBegin 68 = .ok (.iconst 1, 1) := by decide +kernel
theorem dL_canBegin_69 : decode cL_canBegin 69 = .ok (.goto 58, 3) := by decide +kernel
theorem dL_canBegin_72 : decode cL_canBegin 72 = .ok (.iconst 0, 1) := by decide +kernel
theorem dL_canBegin_73 : decode cL_canBegin 73 = .ok (.goto 54, 3) := by decide +kernel
theorem dL_canBegin_76 : decode cL_canBegin 76 = .ok (.aload_n 3, 1) := by decide +kernel
theorem dL_canBegin_77 : decode cL_canBegin 77 = .ok (.bipush 6, 2) := by decide +kernel
theorem dL_canBegin_79 : decode cL_canBegin 79 = .ok (.iload 5, 2) := by decide +kernel
theorem dL_canBegin_81 : decode cL_canBegin 81 = .ok (.imul, 1) := by decide +kernel
theorem dL_canBegin_82 : decode cL_canBegin 82 = .ok (.iaload, 1) := by decide +kernel
theorem dL_canBegin_83 : decode cL_canBegin 83 = .ok (.iconst 1, 1) := by decide +kernel
theorem dL_canBegin_84 : decode cL_canBegin 84 = .ok (.if_icmp .ne 19, 3) := by decide +kernel
theorem dL_canBegin_87 : decode cL_canBegin 87 = .ok (.aload_n 0, 1) := by decide +kernel
theorem dL_canBegin_88 : decode cL_canBegin 88 = .ok (.aload_n 1, 1) := by decide +kernel
theorem dL_canBegin_89 : decode cL_canBegin 89 = .ok (.invokestatic 31, 3) := by decide +kernel
theorem dL_canBegin_92 : decode cL_canBegin 92 = .ok (.ifCond .lt 7, 3) := by decide +kernel
theorem dL_canBegin_95 : decode cL_canBegin 95 = .ok (.iconst 1, 1) := by decide +kernel
theorem dL_canBegin_96 : decode cL_canBegin 96 = .ok (.goto 31, 3) := by decide +kernel
theorem dL_canBegin_99 : decode cL_canBegin 99 = .ok (.iconst 0, 1) := by decide +kernel
theorem dL_canBegin_100 : decode cL_canBegin 100 = .ok (.goto 27, 3) := by decide +kernel
theorem dL_canBegin_103 : decode cL_canBegin 103 = .ok (.iload 6, 2) := by decide +kernel
theorem dL_canBegin_105 : decode cL_canBegin 105 = .ok (.ifCond .lt 17, 3) := by decide +kernel
theorem dL_canBegin_108 : decode cL_canBegin 108 = .ok (.iload 6, 2) := by decide +kernel
theorem dL_canBegin_110 : decode cL_canBegin 110 = .ok (.aload_n 3, 1) := by decide +kernel
theorem dL_canBegin_111 : decode cL_canBegin 111 = .ok (.bipush 6, 2) := by decide +kernel
theorem dL_canBegin_113 : decode cL_canBegin 113 = .ok (.iload 5, 2) := by decide +kernel
theorem dL_canBegin_115 : decode cL_canBegin 115 = .ok (.imul, 1) := by decide +kernel
theorem dL_canBegin_116 : decode cL_canBegin 116 = .ok (.iconst 1, 1) := by decide +kernel
theorem dL_canBegin_117 : decode cL_canBegin 117 = .ok (.iadd, 1) := by decide +kernel
theorem dL_canBegin_118 : decode cL_canBegin 118 = .ok (.iaload, 1) := by decide +kernel
theorem dL_canBegin_119 : decode cL_canBegin 119 = .ok (.if_icmp .ne 7, 3) := by decide +kernel
theorem dL_canBegin_122 : decode cL_canBegin 122 = .ok (.iconst 1, 1) := by decide +kernel
theorem dL_canBegin_123 : decode cL_canBegin 123 = .ok (.goto 4, 3) := by decide +kernel
theorem dL_canBegin_126 : decode cL_canBegin 126 = .ok (.iconst 0, 1) := by decide +kernel
theorem dL_canBegin_127 : decode cL_canBegin 127 = .ok (.ireturn, 1) := by decide +kernel
theorem dL_first_0 : decode cL_first 0 = .ok (.bipush (-5), 2) := by decide +kernel
theorem dL_first_2 : decode cL_first 2 = .ok (.istore 5, 2) := by decide +kernel
theorem dL_first_4 : decode cL_first 4 = .ok (.iconst 0, 1) := by decide +kernel
theorem dL_first_5 : decode cL_first 5 = .ok (.istore 6, 2) := by decide +kernel
theorem dL_first_7 : decode cL_first 7 = .ok (.iload 6, 2) := by decide +kernel
theorem dL_first_9 : decode cL_first 9 = .ok (.aload_n 0, 1) := by decide +kernel
theorem dL_first_10 : decode cL_first 10 = .ok (.bipush 11, 2) := by decide +kernel
theorem dL_first_12 : decode cL_first 12 = .ok (.iaload, 1) := by decide +kernel
theorem dL_first_13 : decode cL_first 13 = .ok (.if_icmp .ge 62, 3) := by decide +kernel
theorem dL_first_16 : decode cL_first 16 = .ok (.aload_n 3, 1) := by decide +kernel
theorem dL_first_17 : decode cL_first 17 = .ok (.bipush 6, 2) := by decide +kernel
theorem dL_first_19 : decode cL_first 19 = .ok (.iload 6, 2) := by decide +kernel
theorem dL_first_21 : decode cL_first 21 = .ok (.imul, 1) := by decide +kernel
theorem dL_first_22 : decode cL_first 22 = .ok (.iconst 3, 1) := by decide +kernel
theorem dL_first_23 : decode cL_first 23 = .ok (.iadd, 1) := by decide +kernel
theorem dL_first_24 : decode cL_first 24 = .ok (.iaload, 1) := by decide +kernel
theorem dL_first_25 : decode cL_first 25 = .ok (.ifCond .ne 40, 3) := by decide +kernel
theorem dL_first_28 : decode cL_first 28 = .ok (.aload_n 0, 1) := by decide +kernel
theorem dL_first_29 : decode cL_first 29 = .ok (.aload_n 1, 1) := by decide +kernel
theorem dL_first_30 : decode cL_first 30 = .ok (.aload_n 2, 1) := by decide +kernel
theorem dL_first_31 : decode cL_first 31 = .ok (.aload_n 3, 1) := by decide +kernel
theorem dL_first_32 : decode cL_first 32 = .ok (.aload 4, 2) := by decide +kernel
theorem dL_first_34 : decode cL_first 34 = .ok (.iload 6, 2) := by decide +kernel
theorem dL_first_36 : decode cL_first 36 = .ok (.invokestatic 35, 3) := by decide +kernel
theorem dL_first_39 : decode cL_first 39 = .ok (.ifCond .eq 26, 3) := by decide +kernel
theorem dL_first_42 : decode cL_first 42 = .ok (.iload 5, 2) := by decide +kernel
theorem dL_first_44 : decode cL_first 44 = .ok (.ifCond .lt 16, 3) := by decide +kernel
theorem dL_first_47 : decode cL_first 47 = .ok (.aload_n 0, 1) := by decide +kernel
theorem dL_first_48 : decode cL_first 48 = .ok (.aload_n 2, 1) := by decide +kernel
theorem dL_first_49 : decode cL_first 49 = .ok (.aload_n 3, 1) := by decide +kernel
theorem dL_first_50 : decode cL_first 50 = .ok (.iload 6, 2) := by decide +kernel
theorem dL_first_52 : decode cL_first 52 = .ok (.iload 5, 2) := by decide +kernel
theorem dL_first_54 : decode cL_first 54 = .ok (.invokestatic 39, 3) := by decide +kernel
theorem dL_first_57 : decode cL_first 57 = .ok (.ifCond .eq 8, 3) := by decide +kernel
theorem dL_first_60 : decode cL_first 60 = .ok (.iload 6, 2) := by decide +kernel
theorem dL_first_62 : decode cL_first 62 = .ok (.goto 5, 3) := by decide +kernel
theorem dL_first_65 : decode cL_first 65 = .ok (.iload 5, 2) := by decide +kernel
theorem dL_first_67 : decode cL_first 67 = .ok (.istore 5, 2) := by decide +kernel
theorem dL_first_69 : decode cL_first 69 = .ok (.iinc 6 1, 3) := by decide +kernel
theorem dL_first_72 : decode cL_first 72 = .ok (.goto (-65), 3) := by decide +kernel
theorem dL_first_75 : decode cL_first 75 = .ok (.iload 5, 2) := by decide +kernel
theorem dL_first_77 : decode cL_first 77 = .ok (.ireturn, 1) := by decide +kernel
theorem dL_isThere_0 : decode cL_isThere 0 = .ok (.aload_n 0, 1) := by decide +kernel
theorem dL_isThere_1 : decode cL_isThere 1 = .ok (.iconst 1, 1) := by decide +kernel
theorem dL_isThere_2 : decode cL_isThere 2 = .ok (.iaload, 1) := by decide +kernel
theorem dL_isThere_3 : decode cL_isThere 3 = .ok (.iload 4, 2) := by decide +kernel
theorem dL_isThere_5 : decode cL_isThere 5 = .ok (.invokestatic 19, 3) := by decide +kernel
theorem dL_isThere_8 : decode cL_isThere 8 = .ok (.istore 5, 2) := by decide +kernel
theorem dL_isThere_10 : decode cL_isThere 10 = .ok (.aload_n 0, 1) := by decide +kernel
theorem dL_isThere_11 : decode cL_isThere 11 = .ok (.iconst 2, 1) := by decide +kernel
theorem dL_isThere_12 : decode cL_isThere 12 = .ok (.iaload, 1) := by decide +kernel
theorem dL_isThere_13 : decode cL_isThere 13 = .ok (.ifCond .ge 8, 3) := by decide +kernel
theorem dL_isThere_16 : decode cL_isThere 16 = .ok (.ldc 43, 2) := by decide +kernel
theorem dL_isThere_18 : decode cL_isThere 18 = .ok (.goto 21, 3) := by decide +kernel
theorem dL_isThere_21 : decode cL_isThere 21 = .ok (.aload_n 1, 1) := by decide +kernel
theorem dL_isThere_22 : decode cL_isThere 22 = .ok (.bipush 6, 2) := by decide +kernel
theorem dL_isThere_24 : decode cL_isThere 24 = .ok (.aload_n 0, 1) := by decide +kernel
theorem dL_isThere_25 : decode cL_isThere 25 = .ok (.iconst 2, 1) := by decide +kernel
theorem dL_isThere_26 : decode cL_isThere 26 = .ok (.iaload, 1) := by decide +kernel
theorem dL_isThere_27 : decode cL_isThere 27 = .ok (.imul, 1) := by decide +kernel
theorem dL_isThere_28 : decode cL_isThere 28 = .ok (.iaload, 1) := by decide +kernel
theorem dL_isThere_29 : decode cL_isThere 29 = .ok (.iconst 1, 1) := by decide +kernel
theorem dL_isThere_30 : decode cL_isThere 30 = .ok (.if_icmp .ne 8, 3) := by decide +kernel
theorem dL_isThere_33 : decode cL_isThere 33 = .ok (.ldc 44, 2) := by decide +kernel
theorem dL_isThere_35 : decode cL_isThere 35 = .ok (.goto 4, 3) := by decide +kernel
theorem dL_isThere_38 : decode cL_isThere 38 = .ok (.fconst 1, 1) := by decide +kernel
theorem dL_isThere_39 : decode cL_isThere 39 = .ok (.fstore 6, 2) := by decide +kernel
theorem dL_isThere_41 : decode cL_isThere 41 = .ok (.aload_n 2, 1) := by decide +kernel
theorem dL_isThere_42 : decode cL_isThere 42 = .ok (.bipush 8, 2) := by decide +kernel
theorem dL_isThere_44 : decode cL_isThere 44 = .ok (.daload, 1) := by decide +kernel
theorem dL_isThere_45 : decode cL_isThere 45 = .ok (.d2f, 1) := by decide +kernel
theorem dL_isThere_46 : decode cL_isThere 46 = .ok (.iload 5, 2) := by decide +kernel
theorem dL_isThere_48 : decode cL_isThere 48 = .ok (.i2f, 1) := by decide +kernel
theorem dL_isThere_49 : decode cL_isThere 49 = .ok (.fload 6, 2) := by decide +kernel
theorem dL_isThere_51 : decode cL_isThere 51 = .ok (.fmul, 1) := by decide +kernel
theorem dL_isThere_52 : decode cL_isThere 52 = .ok (.fadd, 1) := by decide +kernel
theorem dL_isThere_53 : decode cL_isThere 53 = .ok (.fstore 7, 2) := by decide +kernel
theorem dL_isThere_55 : decode cL_isThere 55 = .ok (.iload 5, 2) := by decide +kernel
theorem dL_isThere_57 : decode cL_isThere 57 = .ok (.ifCond .le 38, 3) := by decide +kernel
theorem dL_isThere_60 : decode cL_isThere 60 = .ok (.fload 7, 2) := by decide +kernel
theorem dL_isThere_62 : decode cL_isThere 62 = .ok (.f2d, 1) := by decide +kernel
theorem dL_isThere_63 : decode cL_isThere 63 = .ok (.aload_n 2, 1) := by decide +kernel
theorem dL_isThere_64 : decode cL_isThere 64 = .ok (.bipush 9, 2) := by decide +kernel
theorem dL_isThere_66 : decode cL_isThere 66 = .ok (.daload, 1) := by decide +kernel
theorem dL_isThere_67 : decode cL_isThere 67 = .ok (.dcmp .l, 1) := by decide +kernel
theorem dL_isThere_68 : decode cL_isThere 68 = .ok (.ifCond .le 27, 3) := by decide +kernel
theorem dL_isThere_71 : decode cL_isThere 71 = .ok (.aload_n 0, 1) := by decide +kernel
theorem dL_isThere_72 : decode cL_isThere 72 = .ok (.bipush 15, 2) := by decide +kernel
theorem dL_isThere_74 : decode cL_isThere 74 = .ok (.dup2, 1) := by decide +kernel
theorem dL_isThere_75 : decode cL_isThere 75 = .ok (.iaload, 1) := by decide +kernel
theorem dL_isThere_76 : decode cL_isThere 76 = .ok (.iconst 1, 1) := by decide +kernel
theorem dL_isThere_77 : decode cL_isThere 77 = .ok (.iadd, 1) := by decide +kernel
theorem dL_isThere_78 : decode cL_isThere 78 = .ok (.iastore, 1) := by decide +kernel
theorem dL_isThere_79 : decode cL_isThere 79 = .ok (.aload_n 3, 1) := by decide +kernel
theorem dL_isThere_80 : decode cL_isThere 80 = .ok (.bipush 6, 2) := by decide +kernel
theorem dL_isThere_82 : decode cL_isThere 82 = .ok (.aload_n 0, 1) := by decide +kernel
theorem dL_isThere_83 : decode cL_isThere 83 = .ok (.iconst 3, 1) := by decide +kernel
theorem dL_isThere_84 : decode cL_isThere 84 = .ok (.iaload, 1) := by decide +kernel
theorem dL_isThere_85 : decode cL_isThere 85 = .ok (.imul, 1) := by decide +kernel
theorem dL_isThere_86 : decode cL_isThere 86 = .ok (.iconst 2, 1) := by decide +kernel
theorem dL_isThere_87 : decode cL_isThere 87 = .ok (.iadd, 1) := by decide +kernel
theorem dL_isThere_88 : decode cL_isThere 88 = .ok (.dup2, 1) := by decide +kernel
theorem dL_isThere_89 : decode cL_isThere 89 = .ok (.iaload, 1) := by decide +kernel
theorem dL_isThere_90 : decode cL_isThere 90 = .ok (.iconst 1, 1) := by decide +kernel
theorem dL_isThere_91 : decode cL_isThere 91 = .ok (.iadd, 1) := by decide +kernel
theorem dL_isThere_92 : decode cL_isThere 92 = .ok (.iastore, 1) := by decide +kernel
theorem dL_isThere_93 : decode cL_isThere 93 = .ok (.iconst 0, 1) := by decide +kernel
theorem dL_isThere_94 : decode cL_isThere 94 = .ok (.ireturn, 1) := by decide +kernel
theorem dL_isThere_95 : decode cL_isThere 95 = .ok (.iload 5, 2) := by decide +kernel
theorem dL_isThere_97 : decode cL_isThere 97 = .ok (.ifCond .le 24, 3) := by decide +kernel
theorem dL_isThere_100 : decode cL_isThere 100 = .ok (.aload_n 2, 1) := by decide +kernel
theorem dL_isThere_101 : decode cL_isThere 101 = .ok (.bipush 8, 2) := by decide +kernel
theorem dL_isThere_103 : decode cL_isThere 103 = .ok (.fload 7, 2) := by decide +kernel
theorem dL_isThere_105 : decode cL_isThere 105 = .ok (.f2d, 1) := by decide +kernel
theorem dL_isThere_106 : decode cL_isThere 106 = .ok (.dastore, 1) := by decide +kernel
theorem dL_isThere_107 : decode cL_isThere 107 = .ok (.aload_n 0, 1) := by decide +kernel
theorem dL_isThere_108 : decode cL_isThere 108 = .ok (.iconst 1, 1) := by decide +kernel
theorem dL_isThere_109 : decode cL_isThere 109 = .ok (.iload 4, 2) := by decide +kernel
theorem dL_isThere_111 : decode cL_isThere 111 = .ok (.iastore, 1) := by decide +kernel
theorem dL_isThere_112 : decode cL_isThere 112 = .ok (.aload_n 0, 1) := by decide +kernel
theorem dL_isThere_113 : decode cL_isThere 113 = .ok (.bipush 16, 2) := by decide +kernel
theorem dL_isThere_115 : decode cL_isThere 115 = .ok (.dup2, 1) := by decide +kernel
theorem dL_isThere_116 : decode cL_isThere 116 = .ok (.iaload, 1) := by decide +kernel
theorem dL_isThere_117 : decode cL_isThere 117 = .ok (.iload 5, 2) := by decide +kernel
theorem dL_isThere_119 : decode cL_isThere 119 = .ok (.iadd, 1) := by decide +kernel
theorem dL_isThere_120 : decode cL_isThere 120 = .ok (.iastore, 1) := by decide +kernel
theorem dL_isThere_121 : decode cL_isThere 121 = .ok (.iconst 1, 1) := by decide +kernel
theorem dL_isThere_122 : decode cL_isThere 122 = .ok (.ireturn, 1) := by decide +kernel
theorem dL_isRead_0 : decode cL_isRead 0 = .ok (.aload_n 0, 1) := by decide +kernel
theorem dL_isRead_1 : decode cL_isRead 1 = .ok (.iconst 3, 1) := by decide +kernel
theorem dL_isRead_2 : decode cL_isRead 2 = .ok (.iaload, 1) := by decide +kernel
theorem dL_isRead_3 : decode cL_isRead 3 = .ok (.istore 8, 2) := by decide +kernel
theorem dL_isRead_5 : decode cL_isRead 5 = .ok (.aload_n 3, 1) := by decide +kernel
theorem dL_isRead_6 : decode cL_isRead 6 = .ok (.iload 7, 2) := by decide +kernel
theorem dL_isRead_8 : decode cL_isRead 8 = .ok (.invokestatic 9, 3) := by decide +kernel
theorem dL_isRead_11 : decode cL_isRead 11 = .ok (.ifCond .eq 16, 3) := by decide +kernel
theorem dL_isRead_14 : decode cL_isRead 14 = .ok (.aload 4, 2) := by decide +kernel
theorem dL_isRead_16 : decode cL_isRead 16 = .ok (.bipush 6, 2) := by decide +kernel
theorem dL_isRead_18 : decode cL_isRead 18 = .ok (.iload 8, 2) := by decide +kernel
theorem dL_isRead_20 : decode cL_isRead 20 = .ok (.imul, 1) := by decide +kernel
theorem dL_isRead_21 : decode cL_isRead 21 = .ok (.iconst 1, 1) := by decide +kernel
theorem dL_isRead_22 : decode cL_isRead 22 = .ok (.iadd, 1) := by decide +kernel
theorem dL_isRead_23 : decode cL_isRead 23 = .ok (.iconst 1, 1) := by decide +kernel
theorem dL_isRead_24 : decode cL_isRead 24 = .ok (.iastore, 1) := by decide +kernel
theorem dL_isRead_25 : decode cL_isRead 25 = .ok (.iconst 1, 1) := by decide +kernel
theorem dL_isRead_26 : decode cL_isRead 26 = .ok (.ireturn, 1) := by decide +kernel
theorem dL_isRead_27 : decode cL_isRead 27 = .ok (.aload_n 3, 1) := by decide +kernel
theorem dL_isRead_28 : decode cL_isRead 28 = .ok (.iconst 2, 1) := by decide +kernel
theorem dL_isRead_29 : decode cL_isRead 29 = .ok (.iload 7, 2) := by decide +kernel
theorem dL_isRead_31 : decode cL_isRead 31 = .ok (.imul, 1) := by decide +kernel
theorem dL_isRead_32 : decode cL_isRead 32 = .ok (.daload, 1) := by decide +kernel
theorem dL_isRead_33 : decode cL_isRead 33 = .ok (.d2f, 1) := by decide +kernel
theorem dL_isRead_34 : decode cL_isRead 34 = .ok (.fstore 9, 2) := by decide +kernel
theorem dL_isRead_36 : decode cL_isRead 36 = .ok (.fload 9, 2) := by decide +kernel
theorem dL_isRead_38 : decode cL_isRead 38 = .ok (.aload_n 1, 1) := by decide +kernel
theorem dL_isRead_39 : decode cL_isRead 39 = .ok (.bipush 6, 2) := by decide +kernel
theorem dL_isRead_41 : decode cL_isRead 41 = .ok (.iload 6, 2) := by decide +kernel
theorem dL_isRead_43 : decode cL_isRead 43 = .ok (.imul, 1) := by decide +kernel
theorem dL_isRead_44 : decode cL_isRead 44 = .ok (.iconst 4, 1) := by decide +kernel
theorem dL_isRead_45 : decode cL_isRead 45 = .ok (.iadd, 1) := by decide +kernel
theorem dL_isRead_46 : decode cL_isRead 46 = .ok (.iaload, 1) := by decide +kernel
theorem dL_isRead_47 : decode cL_isRead 47 = .ok (.i2f, 1) := by decide +kernel
theorem dL_isRead_48 : decode cL_isRead 48 = .ok (.ldc 45, 2) := by decide +kernel
theorem dL_isRead_50 : decode cL_isRead 50 = .ok (.fmul, 1) := by decide +kernel
theorem dL_isRead_51 : decode cL_isRead 51 = .ok (.fmul, 1) := by decide +kernel
theorem dL_isRead_52 : decode cL_isRead 52 = .ok (.ldc 46, 2) := by decide +kernel
theorem dL_isRead_54 : decode cL_isRead 54 = .ok (.fcmp .l, 1) := by decide +kernel
theorem dL_isRead_55 : decode cL_isRead 55 = .ok (.ifCond .le 7, 3) := by decide +kernel
theorem dL_isRead_58 : decode cL_isRead 58 = .ok (.iconst 1, 1) := by decide +kernel
theorem dL_isRead_59 : decode cL_isRead 59 = .ok (.goto 4, 3) := by decide +kernel
theorem dL_isRead_62 : decode cL_isRead 62 = .ok (.iconst 0, 1) := by decide +kernel
theorem dL_isRead_63 : decode cL_isRead 63 = .ok (.istore 10, 2) := by decide +kernel
theorem dL_isRead_65 : decode cL_isRead 65 = .ok (.aload_n 3, 1) := by decide +kernel
theorem dL_isRead_66 : decode cL_isRead 66 = .ok (.iconst 2, 1) := by decide +kernel
theorem dL_isRead_67 : decode cL_isRead 67 = .ok (.iload 7, 2) := by decide +kernel
theorem dL_isRead_69 : decode cL_isRead 69 = .ok (.imul, 1) := by decide +kernel
theorem dL_isRead_70 : decode cL_isRead 70 = .ok (.fload 9, 2) := by decide +kernel
theorem dL_isRead_72 : decode cL_isRead 72 = .ok (.fconst 1, 1) := by decide +kernel
theorem dL_isRead_73 : decode cL_isRead 73 = .ok (.aload_n 1, 1) := by decide +kernel
theorem dL_isRead_74 : decode cL_isRead 74 = .ok (.bipush 6, 2) := by decide +kernel
theorem dL_isRead_76 : decode cL_isRead 76 = .ok (.iload 6, 2) := by decide +kernel
theorem dL_isRead_78 : decode cL_isRead 78 = .ok (.imul, 1) := by decide +kernel
theorem dL_isRead_79 : decode cL_isRead 79 = .ok (.iconst 3, 1) := by decide +kernel
theorem dL_isRead_80 : decode cL_isRead 80 = .ok (.iadd, 1) := by decide +kernel
theorem dL_isRead_81 : decode cL_isRead 81 = .ok (.iaload, 1) := by decide +kernel
theorem dL_isRead_82 : decode cL_isRead 82 = .ok (.i2f, 1) := by decide +kernel
theorem dL_isRead_83 : decode cL_isRead 83 = .ok (.ldc 45, 2) := by decide +kernel
theorem dL_isRead_85 : decode cL_isRead 85 = .ok (.fmul, 1) := by decide +kernel
theorem dL_isRead_86 : decode cL_isRead 86 = .ok (.fadd, 1) := by decide +kernel
theorem dL_isRead_87 : decode cL_isRead 87 = .ok (.fadd, 1) := by decide +kernel
theorem dL_isRead_88 : decode cL_isRead 88 = .ok (.f2d, 1) := by decide +kernel
theorem dL_isRead_89 : decode cL_isRead 89 = .ok (.dastore, 1) := by decide +kernel
theorem dL_isRead_90 : decode cL_isRead 90 = .ok (.aload_n 1, 1) := by decide +kernel
theorem dL_isRead_91 : decode cL_isRead 91 = .ok (.bipush 6, 2) := by decide +kernel
theorem dL_isRead_93 : decode cL_isRead 93 = .ok (.iload 6, 2) := by decide +kernel
theorem dL_isRead_95 : decode cL_isRead 95 = .ok (.imul, 1) := by decide +kernel
theorem dL_isRead_96 : decode cL_isRead 96 = .ok (.iconst 3, 1) := by decide +kernel
theorem dL_isRead_97 : decode cL_isRead 97 = .ok (.iadd, 1) := by decide +kernel
theorem dL_isRead_98 : decode cL_isRead 98 = .ok (.dup2, 1) := by decide +kernel
theorem dL_isRead_99 : decode cL_isRead 99 = .ok (.iaload, 1) := by decide +kernel
theorem dL_isRead_100 : decode cL_isRead 100 = .ok (.iconst 1, 1) := by decide +kernel
theorem dL_isRead_101 : decode cL_isRead 101 = .ok (.iadd, 1) := by decide +kernel
theorem dL_isRead_102 : decode cL_isRead 102 = .ok (.iastore, 1) := by decide +kernel
theorem dL_isRead_103 : decode cL_isRead 103 = .ok (.aload_n 2, 1) := by decide +kernel
theorem dL_isRead_104 : decode cL_isRead 104 = .ok (.bipush 7, 2) := by decide +kernel
theorem dL_isRead_106 : decode cL_isRead 106 = .ok (.iload 7, 2) := by decide +kernel
theorem dL_isRead_108 : decode cL_isRead 108 = .ok (.imul, 1) := by decide +kernel
theorem dL_isRead_109 : decode cL_isRead 109 = .ok (.iconst 3, 1) := by decide +kernel
theorem dL_isRead_110 : decode cL_isRead 110 = .ok (.iadd, 1) := by decide +kernel
theorem dL_isRead_111 : decode cL_isRead 111 = .ok (.dup2, 1) := by decide +kernel
theorem dL_isRead_112 : decode cL_isRead 112 = .ok (.iaload, 1) := by decide +kernel
theorem dL_isRead_113 : decode cL_isRead 113 = .ok (.iconst 1, 1) := by decide +kernel
theorem dL_isRead_114 : decode cL_isRead 114 = .ok (.iadd, 1) := by decide +kernel
theorem dL_isRead_115 : decode cL_isRead 115 = .ok (.iastore, 1) := by decide +kernel
theorem dL_isRead_116 : decode cL_isRead 116 = .ok (.aload_n 0, 1) := by decide +kernel
theorem dL_isRead_117 : decode cL_isRead 117 = .ok (.bipush 12, 2) := by decide +kernel
theorem dL_isRead_119 : decode cL_isRead 119 = .ok (.dup2, 1) := by decide +kernel
theorem dL_isRead_120 : decode cL_isRead 120 = .ok (.iaload, 1) := by decide +kernel
theorem dL_isRead_121 : decode cL_isRead 121 = .ok (.iconst 1, 1) := by decide +kernel
theorem dL_isRead_122 : decode cL_isRead 122 = .ok (.iadd, 1) := by decide +kernel
theorem dL_isRead_123 : decode cL_isRead 123 = .ok (.iastore, 1) := by decide +kernel
theorem dL_isRead_124 : decode cL_isRead 124 = .ok (.iload 10, 2) := by decide +kernel
theorem dL_isRead_126 : decode cL_isRead 126 = .ok (.ifCond .eq 79, 3) := by decide +kernel
theorem dL_isRead_129 : decode cL_isRead 129 = .ok (.aload_n 1, 1) := by decide +kernel
theorem dL_isRead_130 : decode cL_isRead 130 = .ok (.bipush 6, 2) := by decide +kernel
theorem dL_isRead_132 : decode cL_isRead 132 = .ok (.iload 6, 2) := by decide +kernel
theorem dL_isRead_134 : decode cL_isRead 134 = .ok (.imul, 1) := by decide +kernel
theorem dL_isRead_135 : decode cL_isRead 135 = .ok (.iconst 5, 1) := by decide +kernel
theorem dL_isRead_136 : decode cL_isRead 136 = .ok (.iadd, 1) := by decide +kernel
theorem dL_isRead_137 : decode cL_isRead 137 = .ok (.dup2, 1) := by decide +kernel
theorem dL_isRead_138 : decode cL_isRead 138 = .ok (.iaload, 1) := by decide +kernel
theorem dL_isRead_139 : decode cL_isRead 139 = .ok (.iconst 1, 1) := by decide +kernel
theorem dL_isRead_140 : decode cL_isRead 140 = .ok (.iadd, 1) := by decide +kernel
theorem dL_isRead_141 : decode cL_isRead 141 = .ok (.iastore, 1) := by decide +kernel
theorem dL_isRead_142 : decode cL_isRead 142 = .ok (.aload_n 2, 1) := by decide +kernel
theorem dL_isRead_143 : decode cL_isRead 143 = .ok (.bipush 7, 2) := by decide +kernel
theorem dL_isRead_145 : decode cL_isRead 145 = .ok (.iload 7, 2) := by decide +kernel
theorem dL_isRead_147 : decode cL_isRead 147 = .ok (.imul, 1) := by decide +kernel
theorem dL_isRead_148 : decode cL_isRead 148 = .ok (.iconst 4, 1) := by decide +kernel
theorem dL_isRead_149 : decode cL_isRead 149 = .ok (.iadd, 1) := by decide +kernel
theorem dL_isRead_150 : decode cL_isRead 150 = .ok (.dup2, 1) := by decide +kernel
theorem dL_isRead_151 : decode cL_isRead 151 = .ok (.iaload, 1) := by decide +kernel
theorem dL_isRead_152 : decode cL_isRead 152 = .ok (.iconst 1, 1) := by decide +kernel
theorem dL_isRead_153 : decode cL_isRead 153 = .ok (.iadd, 1) := by decide +kernel
theorem dL_isRead_154 : decode cL_isRead 154 = .ok (.iastore, 1) := by decide +kernel
theorem dL_isRead_155 : decode cL_isRead 155 = .ok (.aload_n 0, 1) := by decide +kernel
theorem dL_isRead_156 : decode cL_isRead 156 = .ok (.bipush 13, 2) := by decide +kernel
theorem dL_isRead_158 : decode cL_isRead 158 = .ok (.dup2, 1) := by decide +kernel
theorem dL_isRead_159 : decode cL_isRead 159 = .ok (.iaload, 1) := by decide +kernel
theorem dL_isRead_160 : decode cL_isRead 160 = .ok (.iconst 1, 1) := by decide +kernel
theorem dL_isRead_161 : decode cL_isRead 161 = .ok (.iadd, 1) := by decide +kernel
theorem dL_isRead_162 : decode cL_isRead 162 = .ok (.iastore, 1) := by decide +kernel
theorem dL_isRead_163 : decode cL_isRead 163 = .ok (.aload 5, 2) := by decide +kernel
theorem dL_isRead_165 : decode cL_isRead 165 = .ok (.iload 8, 2) := by decide +kernel
theorem dL_isRead_167 : decode cL_isRead 167 = .ok (.dup2, 1) := by decide +kernel
theorem dL_isRead_168 : decode cL_isRead 168 = .ok (.iaload, 1) := by decide +kernel
theorem dL_isRead_169 : decode cL_isRead 169 = .ok (.iconst 1, 1) := by decide +kernel
theorem dL_isRead_170 : decode cL_isRead 170 = .ok (.iadd, 1) := by decide +kernel
theorem dL_isRead_171 : decode cL_isRead 171 = .ok (.iastore, 1) := by decide +kernel
theorem dL_isRead_172 : decode cL_isRead 172 = .ok (.aload 4, 2) := by decide +kernel
theorem dL_isRead_174 : decode cL_isRead 174 = .ok (.bipush 6, 2) := by decide +kernel
theorem dL_isRead_176 : decode cL_isRead 176 = .ok (.iload 8, 2) := by decide +kernel
theorem dL_isRead_178 : decode cL_isRead 178 = .ok (.imul, 1) := by decide +kernel
theorem dL_isRead_179 : decode cL_isRead 179 = .ok (.iconst 1, 1) := by decide +kernel
theorem dL_isRead_180 : decode cL_isRead 180 = .ok (.iadd, 1) := by decide +kernel
theorem dL_isRead_181 : decode cL_isRead 181 = .ok (.aload 5, 2) := by decide +kernel
theorem dL_isRead_183 : decode cL_isRead 183 = .ok (.iload 8, 2) := by decide +kernel
theorem dL_isRead_185 : decode cL_isRead 185 = .ok (.iaload, 1) := by decide +kernel
theorem dL_isRead_186 : decode cL_isRead 186 = .ok (.iconst 3, 1) := by decide +kernel
theorem dL_isRead_187 : decode cL_isRead 187 = .ok (.if_icmp .ne 7, 3) := by decide +kernel
theorem dL_isRead_190 : decode cL_isRead 190 = .ok (.iconst 2, 1) := by decide +kernel
theorem dL_isRead_191 : decode cL_isRead 191 = .ok (.goto 13, 3) := by decide +kernel
theorem dL_isRead_194 : decode cL_isRead 194 = .ok (.aload 4, 2) := by decide +kernel
theorem dL_isRead_196 : decode cL_isRead 196 = .ok (.bipush 6, 2) := by decide +kernel
theorem dL_isRead_198 : decode cL_isRead 198 = .ok (.iload 8, 2) := by decide +kernel
theorem dL_isRead_200 : decode cL_isRead 200 = .ok (.imul, 1) := by decide +kernel
theorem dL_isRead_201 : decode cL_isRead 201 = .ok (.iconst 1, 1) := by decide +kernel
theorem dL_isRead_202 : decode cL_isRead 202 = .ok (.iadd, 1) := by decide +kernel
theorem dL_isRead_203 : decode cL_isRead 203 = .ok (.iaload, 1) := by decide +kernel
theorem dL_isRead_204 : decode cL_isRead 204 = .ok (.iastore, 1) := by decide +kernel
theorem dL_isRead_205 : decode cL_isRead 205 = .ok (.iload 10, 2) := by decide +kernel
theorem dL_isRead_207 : decode cL_isRead 207 = .ok (.ifCond .eq 12, 3) := by decide +kernel
theorem dL_isRead_210 : decode cL_isRead 210 = .ok (.aload 5, 2) := by decide +kernel
theorem dL_isRead_212 : decode cL_isRead 212 = .ok (.iload 8, 2) := by decide +kernel
theorem dL_isRead_214 : decode cL_isRead 214 = .ok (.iaload, 1) := by decide +kernel
theorem dL_isRead_215 : decode cL_isRead 215 = .ok (.iconst 3, 1) := by decide +kernel
theorem dL_isRead_216 : decode cL_isRead 216 = .ok (.if_icmp .ne 7, 3) := by decide +kernel
theorem dL_isRead_219 : decode cL_isRead 219 = .ok (.iconst 1, 1) := by decide +kernel
theorem dL_isRead_220 : decode cL_isRead 220 = .ok (.goto 4, 3) := by decide +kernel
theorem dL_isRead_223 : decode cL_isRead 223 = .ok (.iconst 0, 1) := by decide +kernel
theorem dL_isRead_224 : decode cL_isRead 224 = .ok (.ireturn, 1) := by decide +kernel
theorem dL_puts_0 : decode cL_puts 0 = .ok (.aload_n 1, 1) := by decide +kernel
theorem dL_puts_1 : decode cL_puts 1 = .ok (.bipush 6, 2) := by decide +kernel
theorem dL_puts_3 : decode cL_puts 3 = .ok (.iload_n 3, 1) := by decide +kernel
theorem dL_puts_4 : decode cL_puts 4 = .ok (.imul, 1) := by decide +kernel
theorem dL_puts_5 : decode cL_puts 5 = .ok (.iconst 2, 1) := by decide +kernel
theorem dL_puts_6 : decode cL_puts 6 = .ok (.iadd, 1) := by decide +kernel
theorem dL_puts_7 : decode cL_puts 7 = .ok (.iload 4, 2) := by decide +kernel
theorem dL_puts_9 : decode cL_puts 9 = .ok (.iastore, 1) := by decide +kernel
theorem dL_puts_10 : decode cL_puts 10 = .ok (.aload_n 0, 1) := by decide +kernel
theorem dL_puts_11 : decode cL_puts 11 = .ok (.iconst 2, 1) := by decide +kernel
theorem dL_puts_12 : decode cL_puts 12 = .ok (.iload 4, 2) := by decide +kernel
theorem dL_puts_14 : decode cL_puts 14 = .ok (.iconst 1, 1) := by decide +kernel
theorem dL_puts_15 : decode cL_puts 15 = .ok (.if_icmp .ne 7, 3) := by decide +kernel
theorem dL_puts_18 : decode cL_puts 18 = .ok (.iload_n 3, 1) := by decide +kernel
theorem dL_puts_19 : decode cL_puts 19 = .ok (.goto 5, 3) := by decide +kernel
theorem dL_puts_22 : decode cL_puts 22 = .ok (.bipush (-5), 2) := by decide +kernel
theorem dL_puts_24 : decode cL_puts 24 = .ok (.iastore, 1) := by decide +kernel
theorem dL_puts_25 : decode cL_puts 25 = .ok (.iload 5, 2) := by decide +kernel
theorem dL_puts_27 : decode cL_puts 27 = .ok (.ifCond .lt 25, 3) := by decide +kernel
theorem dL_puts_30 : decode cL_puts 30 = .ok (.aload_n 2, 1) := by decide +kernel
theorem dL_puts_31 : decode cL_puts 31 = .ok (.bipush 7, 2) := by decide +kernel
theorem dL_puts_33 : decode cL_puts 33 = .ok (.iload 5, 2) := by decide +kernel
theorem dL_puts_35 : decode cL_puts 35 = .ok (.imul, 1) := by decide +kernel
theorem dL_puts_36 : decode cL_puts 36 = .ok (.bipush 6, 2) := by decide +kernel
theorem dL_puts_38 : decode cL_puts 38 = .ok (.iadd, 1) := by decide +kernel
theorem dL_puts_39 : decode cL_puts 39 = .ok (.iload 4, 2) := by decide +kernel
theorem dL_puts_41 : decode cL_puts 41 = .ok (.iconst 2, 1) := by decide +kernel
theorem dL_puts_42 : decode cL_puts 42 = .ok (.if_icmp .ne 7, 3) := by decide +kernel
theorem dL_puts_45 : decode cL_puts 45 = .ok (.iload_n 3, 1) := by decide +kernel
theorem dL_puts_46 : decode cL_puts 46 = .ok (.goto 5, 3) := by decide +kernel
theorem dL_puts_49 : decode cL_puts 49 = .ok (.bipush (-5), 2) := by decide +kernel
theorem dL_puts_51 : decode cL_puts 51 = .ok (.iastore, 1) := by decide +kernel
theorem dL_puts_52 : decode cL_puts 52 = .ok (.iconst 1, 1) := by decide +kernel
theorem dL_puts_53 : decode cL_puts 53 = .ok (.ireturn, 1) := by decide +kernel
theorem dL_isDone_0 : decode cL_isDone 0 = .ok (.aload_n 0, 1) := by decide +kernel
theorem dL_isDone_1 : decode cL_isDone 1 = .ok (.iconst 3, 1) := by decide +kernel
theorem dL_isDone_2 : decode cL_isDone 2 = .ok (.iaload, 1) := by decide +kernel
theorem dL_isDone_3 : decode cL_isDone 3 = .ok (.istore 7, 2) := by decide +kernel
theorem dL_isDone_5 : decode cL_isDone 5 = .ok (.aload 4, 2) := by decide +kernel
theorem dL_isDone_7 : decode cL_isDone 7 = .ok (.bipush 6, 2) := by decide +kernel
theorem dL_isDone_9 : decode cL_isDone 9 = .ok (.iload 7, 2) := by decide +kernel
theorem dL_isDone_11 : decode cL_isDone 11 = .ok (.imul, 1) := by decide +kernel
theorem dL_isDone_12 : decode cL_isDone 12 = .ok (.iaload, 1) := by decide +kernel
theorem dL_isDone_13 : decode cL_isDone 13 = .ok (.istore 8, 2) := by decide +kernel
theorem dL_isDone_15 : decode cL_isDone 15 = .ok (.iload 8, 2) := by decide +kernel
theorem dL_isDone_17 : decode cL_isDone 17 = .ok (.iconst 1, 1) := by decide +kernel
theorem dL_isDone_18 : decode cL_isDone 18 = .ok (.if_icmp .ne 14, 3) := by decide +kernel
theorem dL_isDone_21 : decode cL_isDone 21 = .ok (.aload 5, 2) := by decide +kernel
theorem dL_isDone_23 : decode cL_isDone 23 = .ok (.bipush 6, 2) := by decide +kernel
theorem dL_isDone_25 : decode cL_isDone 25 = .ok (.iload 7, 2) := by decide +kernel
theorem dL_isDone_27 : decode cL_isDone 27 = .ok (.imul, 1) := by decide +kernel
theorem dL_isDone_28 : decode cL_isDone 28 = .ok (.iaload, 1) := by decide +kernel
theorem dL_isDone_29 : decode cL_isDone 29 = .ok (.goto 13, 3) := by decide +kernel
theorem dL_isDone_32 : decode cL_isDone 32 = .ok (.aload 4, 2) := by decide +kernel
theorem dL_isDone_34 : decode cL_isDone 34 = .ok (.bipush 6, 2) := by decide +kernel
theorem dL_isDone_36 : decode cL_isDone 36 = .ok (.iload 7, 2) := by decide +kernel
theorem dL_isDone_38 : decode cL_isDone 38 = .ok (.imul, 1) := by decide +kernel
theorem dL_isDone_39 : decode cL_isDone 39 = .ok (.iconst 1, 1) := by decide +kernel
theorem dL_isDone_40 : decode cL_isDone 40 = .ok (.iadd, 1) := by decide +kernel
theorem dL_isDone_41 : decode cL_isDone 41 = .ok (.iaload, 1) := by decide +kernel
theorem dL_isDone_42 : decode cL_isDone 42 = .ok (.istore 9, 2) := by decide +kernel
theorem dL_isDone_44 : decode cL_isDone 44 = .ok (.aload 4, 2) := by decide +kernel
theorem dL_isDone_46 : decode cL_isDone 46 = .ok (.bipush 6, 2) := by decide +kernel
theorem dL_isDone_48 : decode cL_isDone 48 = .ok (.iload 7, 2) := by decide +kernel
theorem dL_isDone_50 : decode cL_isDone 50 = .ok (.imul, 1) := by decide +kernel
theorem dL_isDone_51 : decode cL_isDone 51 = .ok (.iconst 5, 1) := by decide +kernel
theorem dL_isDone_52 : decode cL_isDone 52 = .ok (.iadd, 1) := by decide +kernel
theorem dL_isDone_53 : decode cL_isDone 53 = .ok (.iaload, 1) := by decide +kernel
theorem dL_isDone_54 : decode cL_isDone 54 = .ok (.istore 10, 2) := by decide +kernel
theorem dL_isDone_56 : decode cL_isDone 56 = .ok (.aload 4, 2) := by decide +kernel
theorem dL_isDone_58 : decode cL_isDone 58 = .ok (.bipush 6, 2) := by decide +kernel
theorem dL_isDone_60 : decode cL_isDone 60 = .ok (.iload 7, 2) := by decide +kernel
theorem dL_isDone_62 : decode cL_isDone 62 = .ok (.imul, 1) := by decide +kernel
theorem dL_isDone_63 : decode cL_isDone 63 = .ok (.iconst 4, 1) := by decide +kernel
theorem dL_isDone_64 : decode cL_isDone 64 = .ok (.iadd, 1) := by decide +kernel
theorem dL_isDone_65 : decode cL_isDone 65 = .ok (.iaload, 1) := by decide +kernel
theorem dL_isDone_66 : decode cL_isDone 66 = .ok (.istore 11, 2) := by decide +kernel
theorem dL_isDone_68 : decode cL_isDone 68 = .ok (.iload 11, 2) := by decide +kernel
theorem dL_isDone_70 : decode cL_isDone 70 = .ok (.ifCond .eq 10, 3) := by decide +kernel
theorem dL_isDone_73 : decode cL_isDone 73 = .ok (.iload 11, 2) := by decide +kernel
theorem dL_isDone_75 : decode cL_isDone 75 = .ok (.bipush 6, 2) := by decide +kernel
theorem dL_isDone_77 : decode cL_isDone 77 = .ok (.if_icmp .ne 21, 3) := by decide +kernel
theorem dL_isDone_80 : decode cL_isDone 80 = .ok (.aload_n 0, 1) := by decide +kernel
theorem dL_isDone_81 : decode cL_isDone 81 = .ok (.aload_n 1, 1) := by decide +kernel
theorem dL_isDone_82 : decode cL_isDone 82 = .ok (.aload_n 3, 1) := by decide +kernel
theorem dL_isDone_83 : decode cL_isDone 83 = .ok (.aload 5, 2) := by decide +kernel
theorem dL_isDone_85 : decode cL_isDone 85 = .ok (.aload_n 1, 1) := by decide +kernel
theorem dL_isDone_86 : decode cL_isDone 86 = .ok (.bipush 6, 2) := by decide +kernel
theorem dL_isDone_88 : decode cL_isDone 88 = .ok (.iload 9, 2) := by decide +kernel
theorem dL_isDone_90 : decode cL_isDone 90 = .ok (.imul, 1) := by decide +kernel
theorem dL_isDone_91 : decode cL_isDone 91 = .ok (.iconst 1, 1) := by decide +kernel
theorem dL_isDone_92 : decode cL_isDone 92 = .ok (.iadd, 1) := by decide +kernel
theorem dL_isDone_93 : decode cL_isDone 93 = .ok (.iaload, 1) := by decide +kernel
theorem dL_isDone_94 : decode cL_isDone 94 = .ok (.invokestatic 47, 3) := by decide +kernel
theorem dL_isDone_97 : decode cL_isDone 97 = .ok (.ireturn, 1) := by decide +kernel
theorem dL_isDone_98 : decode cL_isDone 98 = .ok (.iload 11, 2) := by decide +kernel
theorem dL_isDone_100 : decode cL_isDone 100 = .ok (.iconst 2, 1) := by decide +kernel
theorem dL_isDone_101 : decode cL_isDone 101 = .ok (.if_icmp .ne 38, 3) := by decide +kernel
theorem dL_isDone_104 : decode cL_isDone 104 = .ok (.aload_n 0, 1) := by decide +kernel
theorem dL_isDone_105 : decode cL_isDone 105 = .ok (.aload_n 1, 1) := by decide +kernel
theorem dL_isDone_106 : decode cL_isDone 106 = .ok (.aload_n 3, 1) := by decide +kernel
theorem dL_isDone_107 : decode cL_isDone 107 = .ok (.aload 5, 2) := by decide +kernel
theorem dL_isDone_109 : decode cL_isDone 109 = .ok (.iload 8, 2) := by decide +kernel
theorem dL_isDone_111 : decode cL_isDone 111 = .ok (.iconst 2, 1) := by decide +kernel
theorem dL_isDone_112 : decode cL_isDone 112 = .ok (.if_icmp .ne 16, 3) := by decide +kernel
theorem dL_isDone_115 : decode cL_isDone 115 = .ok (.aload 4, 2) := by decide +kernel
theorem dL_isDone_117 : decode cL_isDone 117 = .ok (.bipush 6, 2) := by decide +kernel
theorem dL_isDone_119 : decode cL_isDone 119 = .ok (.iload 7, 2) := by decide +kernel
theorem dL_isDone_121 : decode cL_isDone 121 = .ok (.imul, 1) := by decide +kernel
theorem dL_isDone_122 : decode cL_isDone 122 = .ok (.iconst 2, 1) := by decide +kernel
theorem dL_isDone_123 : decode cL_isDone 123 = .ok (.iadd, 1) := by decide +kernel
theorem dL_isDone_124 : decode cL_isDone 124 = .ok (.iaload, 1) := by decide +kernel
theorem dL_isDone_125 : decode cL_isDone 125 = .ok (.goto 10, 3) := by decide +kernel
theorem dL_isDone_128 : decode cL_isDone 128 = .ok (.aload_n 2, 1) := by decide +kernel
theorem dL_isDone_129 : decode cL_isDone 129 = .ok (.bipush 7, 2) := by decide +kernel
theorem dL_isDone_131 : decode cL_isDone 131 = .ok (.iload 10, 2) := by decide +kernel
theorem dL_isDone_133 : decode cL_isDone 133 = .ok (.imul, 1) := by decide +kernel
theorem dL_isDone_134 : decode cL_isDone 134 = .ok (.iaload, 1) := by decide +kernel
theorem dL_isDone_135 : decode cL_isDone 135 = .ok (.invokestatic 47, 3) := by decide +kernel
theorem dL_isDone_138 : decode cL_isDone 138 = .ok (.ireturn, 1) := by decide +kernel
theorem dL_isDone_139 : decode cL_isDone 139 = .ok (.iload 11, 2) := by decide +kernel
theorem dL_isDone_141 : decode cL_isDone 141 = .ok (.iconst 1, 1) := by decide +kernel
theorem dL_isDone_142 : decode cL_isDone 142 = .ok (.if_icmp .eq 9, 3) := by decide +kernel
theorem dL_isDone_145 : decode cL_isDone 145 = .ok (.iload 11, 2) := by decide +kernel
theorem dL_isDone_147 : decode cL_isDone 147 = .ok (.iconst 5, 1) := by decide +kernel
theorem dL_isDone_148 : decode cL_isDone 148 = .ok (.if_icmp .ne 26, 3) := by decide +kernel
theorem dL_isDone_151 : decode cL_isDone 151 = .ok (.aload_n 0, 1) := by decide +kernel
theorem dL_isDone_152 : decode cL_isDone 152 = .ok (.aload_n 1, 1) := by decide +kernel
theorem dL_isDone_153 : decode cL_isDone 153 = .ok (.aload_n 2, 1) := by decide +kernel
theorem dL_isDone_154 : decode cL_isDone 154 = .ok (.iload 9, 2) := by decide +kernel
theorem dL_isDone_156 : decode cL_isDone 156 = .ok (.iconst 1, 1) := by decide +kernel
theorem dL_isDone_157 : decode cL_isDone 157 = .ok (.iload 11, 2) := by decide +kernel
theorem dL_isDone_159 : decode cL_isDone 159 = .ok (.iconst 5, 1) := by decide +kernel
theorem dL_isDone_160 : decode cL_isDone 160 = .ok (.if_icmp .ne 8, 3) := by decide +kernel
theorem dL_isDone_163 : decode cL_isDone 163 = .ok (.iload 10, 2) := by decide +kernel
theorem dL_isDone_165 : decode cL_isDone 165 = .ok (.goto 5, 3) := by decide +kernel
theorem dL_isDone_168 : decode cL_isDone 168 = .ok (.bipush (-5), 2) := by decide +kernel
theorem dL_isDone_170 : decode cL_isDone 170 = .ok (.invokestatic 51, 3) := by decide +kernel
theorem dL_isDone_173 : decode cL_isDone 173 = .ok (.ireturn, 1) := by decide +kernel
theorem dL_isDone_174 : decode cL_isDone 174 = .ok (.iload 11, 2) := by decide +kernel
theorem dL_isDone_176 : decode cL_isDone 176 = .ok (.bipush 7, 2) := by decide +kernel
theorem dL_isDone_178 : decode cL_isDone 178 = .ok (.if_icmp .ne 15, 3) := by decide +kernel
theorem dL_isDone_181 : decode cL_isDone 181 = .ok (.aload_n 0, 1) := by decide +kernel
theorem dL_isDone_182 : decode cL_isDone 182 = .ok (.aload_n 1, 1) := by decide +kernel
theorem dL_isDone_183 : decode cL_isDone 183 = .ok (.aload_n 2, 1) := by decide +kernel
theorem dL_isDone_184 : decode cL_isDone 184 = .ok (.iload 9, 2) := by decide +kernel
theorem dL_isDone_186 : decode cL_isDone 186 = .ok (.iconst 0, 1) := by decide +kernel
theorem dL_isDone_187 : decode cL_isDone 187 = .ok (.bipush (-5), 2) := by decide +kernel
theorem dL_isDone_189 : decode cL_isDone 189 = .ok (.invokestatic 51, 3) := by decide +kernel
theorem dL_isDone_192 : decode cL_isDone 192 = .ok (.ireturn, 1) := by decide +kernel
theorem dL_isDone_193 : decode cL_isDone 193 = .ok (.iload 11, 2) := by decide +kernel
theorem dL_isDone_195 : decode cL_isDone 195 = .ok (.iconst 3, 1) := by decide +kernel
theorem dL_isDone_196 : decode cL_isDone 196 = .ok (.if_icmp .ne 62, 3) := by decide +kernel
theorem dL_isDone_199 : decode cL_isDone 199 = .ok (.aload_n 1, 1) := by decide +kernel
theorem dL_isDone_200 : decode cL_isDone 200 = .ok (.bipush 6, 2) := by decide +kernel
theorem dL_isDone_202 : decode cL_isDone 202 = .ok (.iload 9, 2) := by decide +kernel
theorem dL_isDone_204 : decode cL_isDone 204 = .ok (.imul, 1) := by decide +kernel
theorem dL_isDone_205 : decode cL_isDone 205 = .ok (.iconst 1, 1) := by decide +kernel
theorem dL_isDone_206 : decode cL_isDone 206 = .ok (.iadd, 1) := by decide +kernel
theorem dL_isDone_207 : decode cL_isDone 207 = .ok (.iload 8, 2) := by decide +kernel
theorem dL_isDone_209 : decode cL_isDone 209 = .ok (.iconst 2, 1) := by decide +kernel
theorem dL_isDone_210 : decode cL_isDone 210 = .ok (.if_icmp .ne 16, 3) := by decide +kernel
theorem dL_isDone_213 : decode cL_isDone 213 = .ok (.aload 4, 2) := by decide +kernel
theorem dL_isDone_215 : decode cL_isDone 215 = .ok (.bipush 6, 2) := by decide +kernel
theorem dL_isDone_217 : decode cL_isDone 217 = .ok (.iload 7, 2) := by decide +kernel
theorem dL_isDone_219 : decode cL_isDone 219 = .ok (.imul, 1) := by decide +kernel
theorem dL_isDone_220 : decode cL_isDone 220 = .ok (.iconst 2, 1) := by decide +kernel
theorem dL_isDone_221 : decode cL_isDone 221 = .ok (.iadd, 1) := by decide +kernel
theorem dL_isDone_222 : decode cL_isDone 222 = .ok (.iaload, 1) := by decide +kernel
theorem dL_isDone_223 : decode cL_isDone 223 = .ok (.goto 12, 3) := by decide +kernel
theorem dL_isDone_226 : decode cL_isDone 226 = .ok (.aload_n 1, 1) := by decide +kernel
theorem dL_isDone_227 : decode cL_isDone 227 = .ok (.bipush 6, 2) := by decide +kernel
theorem dL_isDone_229 : decode cL_isDone 229 = .ok (.iload 9, 2) := by decide +kernel
theorem dL_isDone_231 : decode cL_isDone 231 = .ok (.imul, 1) := by decide +kernel
theorem dL_isDone_232 : decode cL_isDone 232 = .ok (.iconst 1, 1) := by decide +kernel
theorem dL_isDone_233 : decode cL_isDone 233 = .ok (.iadd, 1) := by decide +kernel
theorem dL_isDone_234 : decode cL_isDone 234 = .ok (.iaload, 1) := by decide +kernel
theorem dL_isDone_235 : decode cL_isDone 235 = .ok (.iastore, 1) := by decide +kernel
theorem dL_isDone_236 : decode cL_isDone 236 = .ok (.aload_n 0, 1) := by decide +kernel
theorem dL_isDone_237 : decode cL_isDone 237 = .ok (.aload_n 1, 1) := by decide +kernel
theorem dL_isDone_238 : decode cL_isDone 238 = .ok (.aload_n 2, 1) := by decide +kernel
theorem dL_isDone_239 : decode cL_isDone 239 = .ok (.iload 9, 2) := by decide +kernel
theorem dL_isDone_241 : decode cL_isDone 241 = .ok (.iload 8, 2) := by decide +kernel
theorem dL_isDone_243 : decode cL_isDone 243 = .ok (.iconst 2, 1) := by decide +kernel
theorem dL_isDone_244 : decode cL_isDone 244 = .ok (.if_icmp .ne 7, 3) := by decide +kernel
theorem dL_isDone_247 : decode cL_isDone 247 = .ok (.iconst 0, 1) := by decide +kernel
theorem dL_isDone_248 : decode cL_isDone 248 = .ok (.goto 4, 3) := by decide +kernel
theorem dL_isDone_251 : decode cL_isDone 251 = .ok (.iconst 2, 1) := by decide +kernel
theorem dL_isDone_252 : decode cL_isDone 252 = .ok (.iload 10, 2) := by decide +kernel
theorem dL_isDone_254 : decode cL_isDone 254 = .ok (.invokestatic 51, 3) := by decide +kernel
theorem dL_isDone_257 : decode cL_isDone 257 = .ok (.ireturn, 1) := by decide +kernel
theorem dL_isDone_258 : decode cL_isDone 258 = .ok (.iload 8, 2) := by decide +kernel
theorem dL_isDone_260 : decode cL_isDone 260 = .ok (.ifCond .ne 19, 3) := by decide +kernel
theorem dL_isDone_263 : decode cL_isDone 263 = .ok (.aload_n 0, 1) := by decide +kernel
theorem dL_isDone_264 : decode cL_isDone 264 = .ok (.aload_n 1, 1) := by decide +kernel
theorem dL_isDone_265 : decode cL_isDone 265 = .ok (.aload_n 2, 1) := by decide +kernel
theorem dL_isDone_266 : decode cL_isDone 266 = .ok (.aload_n 3, 1) := by decide +kernel
theorem dL_isDone_267 : decode cL_isDone 267 = .ok (.aload 5, 2) := by decide +kernel
theorem dL_isDone_269 : decode cL_isDone 269 = .ok (.aload 6, 2) := by decide +kernel
theorem dL_isDone_271 : decode cL_isDone 271 = .ok (.iload 9, 2) := by decide +kernel
theorem dL_isDone_273 : decode cL_isDone 273 = .ok (.iload 10, 2) := by decide +kernel
theorem dL_isDone_275 : decode cL_isDone 275 = .ok (.invokestatic 55, 3) := by decide +kernel
theorem dL_isDone_278 : decode cL_isDone 278 = .ok (.ireturn, 1) := by decide +kernel
theorem dL_isDone_279 : decode cL_isDone 279 = .ok (.aload_n 3, 1) := by decide +kernel
theorem dL_isDone_280 : decode cL_isDone 280 = .ok (.iconst 2, 1) := by decide +kernel
theorem dL_isDone_281 : decode cL_isDone 281 = .ok (.iload 10, 2) := by decide +kernel
theorem dL_isDone_283 : decode cL_isDone 283 = .ok (.imul, 1) := by decide +kernel
theorem dL_isDone_284 : decode cL_isDone 284 = .ok (.aload_n 3, 1) := by decide +kernel
theorem dL_isDone_285 : decode cL_isDone 285 = .ok (.iconst 2, 1) := by decide +kernel
theorem dL_isDone_286 : decode cL_isDone 286 = .ok (.iload 10, 2) := by decide +kernel
theorem dL_isDone_288 : decode cL_isDone 288 = .ok (.imul, 1) := by decide +kernel
theorem dL_isDone_289 : decode cL_isDone 289 = .ok (.daload, 1) := by decide +kernel
theorem dL_isDone_290 : decode cL_isDone 290 = .ok (.d2f, 1) := by decide +kernel
theorem dL_isDone_291 : decode cL_isDone 291 = .ok (.ldc 45, 2) := by decide +kernel
theorem dL_isDone_293 : decode cL_isDone 293 = .ok (.fmul, 1) := by decide +kernel
theorem dL_isDone_294 : decode cL_isDone 294 = .ok (.f2d, 1) := by decide +kernel
theorem dL_isDone_295 : decode cL_isDone 295 = .ok (.dastore, 1) := by decide +kernel
theorem dL_isDone_296 : decode cL_isDone 296 = .ok (.aload_n 2, 1) := by decide +kernel
theorem dL_isDone_297 : decode cL_isDone 297 = .ok (.bipush 7, 2) := by decide +kernel
theorem dL_isDone_299 : decode cL_isDone 299 = .ok (.iload 10, 2) := by decide +kernel
theorem dL_isDone_301 : decode cL_isDone 301 = .ok (.imul, 1) := by decide +kernel
theorem dL_isDone_302 : decode cL_isDone 302 = .ok (.iconst 5, 1) := by decide +kernel
theorem dL_isDone_303 : decode cL_isDone 303 = .ok (.iadd, 1) := by decide +kernel
theorem dL_isDone_304 : decode cL_isDone 304 = .ok (.dup2, 1) := by decide +kernel
theorem dL_isDone_305 : decode cL_isDone 305 = .ok (.iaload, 1) := by decide +kernel
theorem dL_isDone_306 : decode cL_isDone 306 = .ok (.iconst 1, 1) := by decide +kernel
theorem dL_isDone_307 : decode cL_isDone 307 = .ok (.iadd, 1) := by decide +kernel
theorem dL_isDone_308 : decode cL_isDone 308 = .ok (.iastore, 1) := by decide +kernel
theorem dL_isDone_309 : decode cL_isDone 309 = .ok (.aload_n 1, 1) := by decide +kernel
theorem dL_isDone_310 : decode cL_isDone 310 = .ok (.bipush 6, 2) := by decide +kernel
theorem dL_isDone_312 : decode cL_isDone 312 = .ok (.iload 9, 2) := by decide +kernel
theorem dL_isDone_314 : decode cL_isDone 314 = .ok (.imul, 1) := by decide +kernel
theorem dL_isDone_315 : decode cL_isDone 315 = .ok (.iconst 3, 1) := by decide +kernel
theorem dL_isDone_316 : decode cL_isDone 316 = .ok (.iadd, 1) := by decide +kernel
theorem dL_isDone_317 : decode cL_isDone 317 = .ok (.dup2, 1) := by decide +kernel
theorem dL_isDone_318 : decode cL_isDone 318 = .ok (.iaload, 1) := by decide +kernel
theorem dL_isDone_319 : decode cL_isDone 319 = .ok (.iconst 1, 1) := by decide +kernel
theorem dL_isDone_320 : decode cL_isDone 320 = .ok (.isub, 1) := by decide +kernel
theorem dL_isDone_321 : decode cL_isDone 321 = .ok (.iastore, 1) := by decide +kernel
theorem dL_isDone_322 : decode cL_isDone 322 = .ok (.aload_n 0, 1) := by decide +kernel
theorem dL_isDone_323 : decode cL_isDone 323 = .ok (.bipush 14, 2) := by decide +kernel
theorem dL_isDone_325 : decode cL_isDone 325 = .ok (.dup2, 1) := by decide +kernel
theorem dL_isDone_326 : decode cL_isDone 326 = .ok (.iaload, 1) := by decide +kernel
theorem dL_isDone_327 : decode cL_isDone 327 = .ok (.iconst 1, 1) := by decide +kernel
theorem dL_isDone_328 : decode cL_isDone 328 = .ok (.iadd, 1) := by decide +kernel
theorem dL_isDone_329 : decode cL_isDone 329 = .ok (.iastore, 1) := by decide +kernel
theorem dL_isDone_330 : decode cL_isDone 330 = .ok (.iconst 1, 1) := by decide +kernel
theorem dL_isDone_331 : decode cL_isDone 331 = .ok (.ireturn, 1) := by decide +kernel
theorem dL_ticks_0 : decode cL_ticks 0 = .ok (.iconst 0, 1) := by decide +kernel
theorem dL_ticks_1 : decode cL_ticks 1 = .ok (.istore 7, 2) := by decide +kernel
theorem dL_ticks_3 : decode cL_ticks 3 = .ok (.aload_n 0, 1) := by decide +kernel
theorem dL_ticks_4 : decode cL_ticks 4 = .ok (.iconst 3, 1) := by decide +kernel
theorem dL_ticks_5 : decode cL_ticks 5 = .ok (.iaload, 1) := by decide +kernel
theorem dL_ticks_6 : decode cL_ticks 6 = .ok (.ifCond .ge 16, 3) := by decide +kernel
theorem dL_ticks_9 : decode cL_ticks 9 = .ok (.aload_n 0, 1) := by decide +kernel
theorem dL_ticks_10 : decode cL_ticks 10 = .ok (.aload_n 1, 1) := by decide +kernel
theorem dL_ticks_11 : decode cL_ticks 11 = .ok (.aload_n 3, 1) := by decide +kernel
theorem dL_ticks_12 : decode cL_ticks 12 = .ok (.aload 4, 2) := by decide +kernel
theorem dL_ticks_14 : decode cL_ticks 14 = .ok (.aload 5, 2) := by decide +kernel
theorem dL_ticks_16 : decode cL_ticks 16 = .ok (.invokestatic 59, 3) := by decide +kernel
theorem dL_ticks_19 : decode cL_ticks 19 = .ok (.goto 5, 3) := by decide +kernel
theorem dL_ticks_22 : decode cL_ticks 22 = .ok (.bipush (-5), 2) := by decide +kernel
end
section
theorem dL_ticks_24 : decode cL_ticks 24 = .ok (.istore 8, 2) := by decide +kernel
theorem dL_ticks_26 : decode cL_ticks 26 = .ok (.iload 8, 2) := by decide +kernel
theorem dL_ticks_28 : decode cL_ticks 28 = .ok (.ifCond .lt 129, 3) := by decide +kernel
theorem dL_ticks_31 : decode cL_ticks 31 = .ok (.aload_n 0, 1) := by decide +kernel
theorem dL_ticks_32 : decode cL_ticks 32 = .ok (.iconst 3, 1) := by decide +kernel
theorem dL_ticks_33 : decode cL_ticks 33 = .ok (.iload 8, 2) := by decide +kernel
theorem dL_ticks_35 : decode cL_ticks 35 = .ok (.iastore, 1) := by decide +kernel
theorem dL_ticks_36 : decode cL_ticks 36 = .ok (.aload 4, 2) := by decide +kernel
theorem dL_ticks_38 : decode cL_ticks 38 = .ok (.bipush 6, 2) := by decide +kernel
theorem dL_ticks_40 : decode cL_ticks 40 = .ok (.iload 8, 2) := by decide +kernel
theorem dL_ticks_42 : decode cL_ticks 42 = .ok (.imul, 1) := by decide +kernel
theorem dL_ticks_43 : decode cL_ticks 43 = .ok (.iconst 3, 1) := by decide +kernel
theorem dL_ticks_44 : decode cL_ticks 44 = .ok (.iadd, 1) := by decide +kernel
theorem dL_ticks_45 : decode cL_ticks 45 = .ok (.iconst 1, 1) := by decide +kernel
theorem dL_ticks_46 : decode cL_ticks 46 = .ok (.iastore, 1) := by decide +kernel
theorem dL_ticks_47 : decode cL_ticks 47 = .ok (.aload 4, 2) := by decide +kernel
theorem dL_ticks_49 : decode cL_ticks 49 = .ok (.bipush 6, 2) := by decide +kernel
theorem dL_ticks_51 : decode cL_ticks 51 = .ok (.iload 8, 2) := by decide +kernel
theorem dL_ticks_53 : decode cL_ticks 53 = .ok (.imul, 1) := by decide +kernel
theorem dL_ticks_54 : decode cL_ticks 54 = .ok (.iconst 4, 1) := by decide +kernel
theorem dL_ticks_55 : decode cL_ticks 55 = .ok (.iadd, 1) := by decide +kernel
theorem dL_ticks_56 : decode cL_ticks 56 = .ok (.iconst 0, 1) := by decide +kernel
theorem dL_ticks_57 : decode cL_ticks 57 = .ok (.iastore, 1) := by decide +kernel
theorem dL_ticks_58 : decode cL_ticks 58 = .ok (.aload 4, 2) := by decide +kernel
theorem dL_ticks_60 : decode cL_ticks 60 = .ok (.bipush 6, 2) := by decide +kernel
theorem dL_ticks_62 : decode cL_ticks 62 = .ok (.iload 8, 2) := by decide +kernel
theorem dL_ticks_64 : decode cL_ticks 64 = .ok (.imul, 1) := by decide +kernel
theorem dL_ticks_65 : decode cL_ticks 65 = .ok (.iconst 5, 1) := by decide +kernel
theorem dL_ticks_66 : decode cL_ticks 66 = .ok (.iadd, 1) := by decide +kernel
theorem dL_ticks_67 : decode cL_ticks 67 = .ok (.aload 4, 2) := by decide +kernel
theorem dL_ticks_69 : decode cL_ticks 69 = .ok (.bipush 6, 2) := by decide +kernel
theorem dL_ticks_71 : decode cL_ticks 71 = .ok (.iload 8, 2) := by decide +kernel
theorem dL_ticks_73 : decode cL_ticks 73 = .ok (.imul, 1) := by decide +kernel
theorem dL_ticks_74 : decode cL_ticks 74 = .ok (.iaload, 1) := by decide +kernel
theorem dL_ticks_75 : decode cL_ticks 75 = .ok (.ifCond .ne 11, 3) := by decide +kernel
theorem dL_ticks_78 : decode cL_ticks 78 = .ok (.aload_n 0, 1) := by decide +kernel
theorem dL_ticks_79 : decode cL_ticks 79 = .ok (.aload_n 3, 1) := by decide +kernel
theorem dL_ticks_80 : decode cL_ticks 80 = .ok (.invokestatic 27, 3) := by decide +kernel
theorem dL_ticks_83 : decode cL_ticks 83 = .ok (.goto 30, 3) := by decide +kernel
theorem dL_ticks_86 : decode cL_ticks 86 = .ok (.aload 4, 2) := by decide +kernel
theorem dL_ticks_88 : decode cL_ticks 88 = .ok (.bipush 6, 2) := by decide +kernel
theorem dL_ticks_90 : decode cL_ticks 90 = .ok (.iload 8, 2) := by decide +kernel
theorem dL_ticks_92 : decode cL_ticks 92 = .ok (.imul, 1) := by decide +kernel
theorem dL_ticks_93 : decode cL_ticks 93 = .ok (.iaload, 1) := by decide +kernel
theorem dL_ticks_94 : decode cL_ticks 94 = .ok (.iconst 1, 1) := by decide +kernel
theorem dL_ticks_95 : decode cL_ticks 95 = .ok (.if_icmp .ne 16, 3) := by decide +kernel
theorem dL_ticks_98 : decode cL_ticks 98 = .ok (.aload 4, 2) := by decide +kernel
theorem dL_ticks_100 : decode cL_ticks 100 = .ok (.bipush 6, 2) := by decide +kernel
theorem dL_ticks_102 : decode cL_ticks 102 = .ok (.iload 8, 2) := by decide +kernel
theorem dL_ticks_104 : decode cL_ticks 104 = .ok (.imul, 1) := by decide +kernel
theorem dL_ticks_105 : decode cL_ticks 105 = .ok (.iconst 1, 1) := by decide +kernel
theorem dL_ticks_106 : decode cL_ticks 106 = .ok (.iadd, 1) := by decide +kernel
theorem dL_ticks_107 : decode cL_ticks 107 = .ok (.iaload, 1) := by decide +kernel
theorem dL_ticks_108 : decode cL_ticks 108 = .ok (.goto 5, 3) := by decide +kernel
theorem dL_ticks_111 : decode cL_ticks 111 = .ok (.bipush (-5), 2) := by decide +kernel
theorem dL_ticks_113 : decode cL_ticks 113 = .ok (.iastore, 1) := by decide +kernel
theorem dL_ticks_114 : decode cL_ticks 114 = .ok (.aload 5, 2) := by decide +kernel
theorem dL_ticks_116 : decode cL_ticks 116 = .ok (.bipush 6, 2) := by decide +kernel
theorem dL_ticks_118 : decode cL_ticks 118 = .ok (.iload 8, 2) := by decide +kernel
theorem dL_ticks_120 : decode cL_ticks 120 = .ok (.imul, 1) := by decide +kernel
theorem dL_ticks_121 : decode cL_ticks 121 = .ok (.aload 4, 2) := by decide +kernel
theorem dL_ticks_123 : decode cL_ticks 123 = .ok (.bipush 6, 2) := by decide +kernel
theorem dL_ticks_125 : decode cL_ticks 125 = .ok (.iload 8, 2) := by decide +kernel
theorem dL_ticks_127 : decode cL_ticks 127 = .ok (.imul, 1) := by decide +kernel
theorem dL_ticks_128 : decode cL_ticks 128 = .ok (.iaload, 1) := by decide +kernel
theorem dL_ticks_129 : decode cL_ticks 129 = .ok (.iconst 1, 1) := by decide +kernel
theorem dL_ticks_130 : decode cL_ticks 130 = .ok (.if_icmp .ne 11, 3) := by decide +kernel
theorem dL_ticks_133 : decode cL_ticks 133 = .ok (.aload_n 0, 1) := by decide +kernel
theorem dL_ticks_134 : decode cL_ticks 134 = .ok (.aload_n 1, 1) := by decide +kernel
theorem dL_ticks_135 : decode cL_ticks 135 = .ok (.invokestatic 31, 3) := by decide +kernel
theorem dL_ticks_138 : decode cL_ticks 138 = .ok (.goto 5, 3) := by decide +kernel
theorem dL_ticks_141 : decode cL_ticks 141 = .ok (.bipush (-5), 2) := by decide +kernel
theorem dL_ticks_143 : decode cL_ticks 143 = .ok (.iastore, 1) := by decide +kernel
theorem dL_ticks_144 : decode cL_ticks 144 = .ok (.aload 5, 2) := by decide +kernel
theorem dL_ticks_146 : decode cL_ticks 146 = .ok (.bipush 6, 2) := by decide +kernel
theorem dL_ticks_148 : decode cL_ticks 148 = .ok (.iload 8, 2) := by decide +kernel
theorem dL_ticks_150 : decode cL_ticks 150 = .ok (.imul, 1) := by decide +kernel
theorem dL_ticks_151 : decode cL_ticks 151 = .ok (.iconst 4, 1) := by decide +kernel
theorem dL_ticks_152 : decode cL_ticks 152 = .ok (.iadd, 1) := by decide +kernel
theorem dL_ticks_153 : decode cL_ticks 153 = .ok (.aload_n 0, 1) := by decide +kernel
theorem dL_ticks_154 : decode cL_ticks 154 = .ok (.iconst 0, 1) := by decide +kernel
theorem dL_ticks_155 : decode cL_ticks 155 = .ok (.iaload, 1) := by decide +kernel
theorem dL_ticks_156 : decode cL_ticks 156 = .ok (.iastore, 1) := by decide +kernel
theorem dL_ticks_157 : decode cL_ticks 157 = .ok (.aload_n 0, 1) := by decide +kernel
theorem dL_ticks_158 : decode cL_ticks 158 = .ok (.iconst 3, 1) := by decide +kernel
theorem dL_ticks_159 : decode cL_ticks 159 = .ok (.iaload, 1) := by decide +kernel
theorem dL_ticks_160 : decode cL_ticks 160 = .ok (.istore 8, 2) := by decide +kernel
theorem dL_ticks_162 : decode cL_ticks 162 = .ok (.aload_n 0, 1) := by decide +kernel
theorem dL_ticks_163 : decode cL_ticks 163 = .ok (.bipush 17, 2) := by decide +kernel
theorem dL_ticks_165 : decode cL_ticks 165 = .ok (.dup2, 1) := by decide +kernel
theorem dL_ticks_166 : decode cL_ticks 166 = .ok (.iaload, 1) := by decide +kernel
theorem dL_ticks_167 : decode cL_ticks 167 = .ok (.iload 8, 2) := by decide +kernel
theorem dL_ticks_169 : decode cL_ticks 169 = .ok (.ifCond .ge 7, 3) := by decide +kernel
theorem dL_ticks_172 : decode cL_ticks 172 = .ok (.iconst 1, 1) := by decide +kernel
theorem dL_ticks_173 : decode cL_ticks 173 = .ok (.goto 4, 3) := by decide +kernel
theorem dL_ticks_176 : decode cL_ticks 176 = .ok (.iconst 0, 1) := by decide +kernel
theorem dL_ticks_177 : decode cL_ticks 177 = .ok (.iadd, 1) := by decide +kernel
theorem dL_ticks_178 : decode cL_ticks 178 = .ok (.iastore, 1) := by decide +kernel
theorem dL_ticks_179 : decode cL_ticks 179 = .ok (.iload 8, 2) := by decide +kernel
theorem dL_ticks_181 : decode cL_ticks 181 = .ok (.ifCond .lt 143, 3) := by decide +kernel
theorem dL_ticks_184 : decode cL_ticks 184 = .ok (.aload_n 0, 1) := by decide +kernel
theorem dL_ticks_185 : decode cL_ticks 185 = .ok (.aload_n 1, 1) := by decide +kernel
theorem dL_ticks_186 : decode cL_ticks 186 = .ok (.aload_n 2, 1) := by decide +kernel
theorem dL_ticks_187 : decode cL_ticks 187 = .ok (.aload_n 3, 1) := by decide +kernel
theorem dL_ticks_188 : decode cL_ticks 188 = .ok (.aload 4, 2) := by decide +kernel
theorem dL_ticks_190 : decode cL_ticks 190 = .ok (.aload 5, 2) := by decide +kernel
theorem dL_ticks_192 : decode cL_ticks 192 = .ok (.aload 6, 2) := by decide +kernel
theorem dL_ticks_194 : decode cL_ticks 194 = .ok (.invokestatic 63, 3) := by decide +kernel
theorem dL_ticks_197 : decode cL_ticks 197 = .ok (.ifCond .eq 127, 3) := by decide +kernel
theorem dL_ticks_200 : decode cL_ticks 200 = .ok (.aload 4, 2) := by decide +kernel
theorem dL_ticks_202 : decode cL_ticks 202 = .ok (.bipush 6, 2) := by decide +kernel
theorem dL_ticks_204 : decode cL_ticks 204 = .ok (.iload 8, 2) := by decide +kernel
theorem dL_ticks_206 : decode cL_ticks 206 = .ok (.imul, 1) := by decide +kernel
theorem dL_ticks_207 : decode cL_ticks 207 = .ok (.iconst 4, 1) := by decide +kernel
theorem dL_ticks_208 : decode cL_ticks 208 = .ok (.iadd, 1) := by decide +kernel
theorem dL_ticks_209 : decode cL_ticks 209 = .ok (.dup2, 1) := by decide +kernel
theorem dL_ticks_210 : decode cL_ticks 210 = .ok (.iaload, 1) := by decide +kernel
theorem dL_ticks_211 : decode cL_ticks 211 = .ok (.iconst 1, 1) := by decide +kernel
theorem dL_ticks_212 : decode cL_ticks 212 = .ok (.iadd, 1) := by decide +kernel
theorem dL_ticks_213 : decode cL_ticks 213 = .ok (.iastore, 1) := by decide +kernel
theorem dL_ticks_214 : decode cL_ticks 214 = .ok (.aload 4, 2) := by decide +kernel
theorem dL_ticks_216 : decode cL_ticks 216 = .ok (.bipush 6, 2) := by decide +kernel
theorem dL_ticks_218 : decode cL_ticks 218 = .ok (.iload 8, 2) := by decide +kernel
theorem dL_ticks_220 : decode cL_ticks 220 = .ok (.imul, 1) := by decide +kernel
theorem dL_ticks_221 : decode cL_ticks 221 = .ok (.iconst 4, 1) := by decide +kernel
theorem dL_ticks_222 : decode cL_ticks 222 = .ok (.iadd, 1) := by decide +kernel
theorem dL_ticks_223 : decode cL_ticks 223 = .ok (.iaload, 1) := by decide +kernel
theorem dL_ticks_224 : decode cL_ticks 224 = .ok (.aload 4, 2) := by decide +kernel
theorem dL_ticks_226 : decode cL_ticks 226 = .ok (.bipush 6, 2) := by decide +kernel
theorem dL_ticks_228 : decode cL_ticks 228 = .ok (.iload 8, 2) := by decide +kernel
theorem dL_ticks_230 : decode cL_ticks 230 = .ok (.imul, 1) := by decide +kernel
theorem dL_ticks_231 : decode cL_ticks 231 = .ok (.iaload, 1) := by decide +kernel
theorem dL_ticks_232 : decode cL_ticks 232 = .ok (.iconst 2, 1) := by decide +kernel
theorem dL_ticks_233 : decode cL_ticks 233 = .ok (.if_icmp .ne 7, 3) := by decide +kernel
theorem dL_ticks_236 : decode cL_ticks 236 = .ok (.iconst 4, 1) := by decide +kernel
theorem dL_ticks_237 : decode cL_ticks 237 = .ok (.goto 5, 3) := by decide +kernel
theorem dL_ticks_240 : decode cL_ticks 240 = .ok (.bipush 8, 2) := by decide +kernel
theorem dL_ticks_242 : decode cL_ticks 242 = .ok (.if_icmp .ne 82, 3) := by decide +kernel
theorem dL_ticks_245 : decode cL_ticks 245 = .ok (.aload 4, 2) := by decide +kernel
theorem dL_ticks_247 : decode cL_ticks 247 = .ok (.bipush 6, 2) := by decide +kernel
theorem dL_ticks_249 : decode cL_ticks 249 = .ok (.iload 8, 2) := by decide +kernel
theorem dL_ticks_251 : decode cL_ticks 251 = .ok (.imul, 1) := by decide +kernel
theorem dL_ticks_252 : decode cL_ticks 252 = .ok (.iconst 3, 1) := by decide +kernel
theorem dL_ticks_253 : decode cL_ticks 253 = .ok (.iadd, 1) := by decide +kernel
theorem dL_ticks_254 : decode cL_ticks 254 = .ok (.aload 5, 2) := by decide +kernel
theorem dL_ticks_256 : decode cL_ticks 256 = .ok (.bipush 6, 2) := by decide +kernel
theorem dL_ticks_258 : decode cL_ticks 258 = .ok (.iload 8, 2) := by decide +kernel
theorem dL_ticks_260 : decode cL_ticks 260 = .ok (.imul, 1) := by decide +kernel
theorem dL_ticks_261 : decode cL_ticks 261 = .ok (.iconst 1, 1) := by decide +kernel
theorem dL_ticks_262 : decode cL_ticks 262 = .ok (.iadd, 1) := by decide +kernel
theorem dL_ticks_263 : decode cL_ticks 263 = .ok (.iaload, 1) := by decide +kernel
theorem dL_ticks_264 : decode cL_ticks 264 = .ok (.ifCond .le 7, 3) := by decide +kernel
theorem dL_ticks_267 : decode cL_ticks 267 = .ok (.iconst 3, 1) := by decide +kernel
theorem dL_ticks_268 : decode cL_ticks 268 = .ok (.goto 4, 3) := by decide +kernel
theorem dL_ticks_271 : decode cL_ticks 271 = .ok (.iconst 2, 1) := by decide +kernel
theorem dL_ticks_272 : decode cL_ticks 272 = .ok (.iastore, 1) := by decide +kernel
theorem dL_ticks_273 : decode cL_ticks 273 = .ok (.aload 4, 2) := by decide +kernel
theorem dL_ticks_275 : decode cL_ticks 275 = .ok (.bipush 6, 2) := by decide +kernel
theorem dL_ticks_277 : decode cL_ticks 277 = .ok (.iload 8, 2) := by decide +kernel
theorem dL_ticks_279 : decode cL_ticks 279 = .ok (.imul, 1) := by decide +kernel
theorem dL_ticks_280 : decode cL_ticks 280 = .ok (.iconst 4, 1) := by decide +kernel
theorem dL_ticks_281 : decode cL_ticks 281 = .ok (.iadd, 1) := by decide +kernel
theorem dL_ticks_282 : decode cL_ticks 282 = .ok (.bipush (-5), 2) := by decide +kernel
theorem dL_ticks_284 : decode cL_ticks 284 = .ok (.iastore, 1) := by decide +kernel
theorem dL_ticks_285 : decode cL_ticks 285 = .ok (.aload 5, 2) := by decide +kernel
theorem dL_ticks_287 : decode cL_ticks 287 = .ok (.bipush 6, 2) := by decide +kernel
theorem dL_ticks_289 : decode cL_ticks 289 = .ok (.iload 8, 2) := by decide +kernel
theorem dL_ticks_291 : decode cL_ticks 291 = .ok (.imul, 1) := by decide +kernel
theorem dL_ticks_292 : decode cL_ticks 292 = .ok (.iconst 5, 1) := by decide +kernel
theorem dL_ticks_293 : decode cL_ticks 293 = .ok (.iadd, 1) := by decide +kernel
theorem dL_ticks_294 : decode cL_ticks 294 = .ok (.aload_n 0, 1) := by decide +kernel
theorem dL_ticks_295 : decode cL_ticks 295 = .ok (.iconst 0, 1) := by decide +kernel
theorem dL_ticks_296 : decode cL_ticks 296 = .ok (.iaload, 1) := by decide +kernel
theorem dL_ticks_297 : decode cL_ticks 297 = .ok (.iastore, 1) := by decide +kernel
theorem dL_ticks_298 : decode cL_ticks 298 = .ok (.aload_n 0, 1) := by decide +kernel
theorem dL_ticks_299 : decode cL_ticks 299 = .ok (.iconst 3, 1) := by decide +kernel
theorem dL_ticks_300 : decode cL_ticks 300 = .ok (.bipush (-5), 2) := by decide +kernel
theorem dL_ticks_302 : decode cL_ticks 302 = .ok (.iastore, 1) := by decide +kernel
theorem dL_ticks_303 : decode cL_ticks 303 = .ok (.aload 4, 2) := by decide +kernel
theorem dL_ticks_305 : decode cL_ticks 305 = .ok (.bipush 6, 2) := by decide +kernel
theorem dL_ticks_307 : decode cL_ticks 307 = .ok (.iload 8, 2) := by decide +kernel
theorem dL_ticks_309 : decode cL_ticks 309 = .ok (.imul, 1) := by decide +kernel
theorem dL_ticks_310 : decode cL_ticks 310 = .ok (.iconst 3, 1) := by decide +kernel
theorem dL_ticks_311 : decode cL_ticks 311 = .ok (.iadd, 1) := by decide +kernel
theorem dL_ticks_312 : decode cL_ticks 312 = .ok (.iaload, 1) := by decide +kernel
theorem dL_ticks_313 : decode cL_ticks 313 = .ok (.iconst 2, 1) := by decide +kernel
theorem dL_ticks_314 : decode cL_ticks 314 = .ok (.if_icmp .ne 7, 3) := by decide +kernel
theorem dL_ticks_317 : decode cL_ticks 317 = .ok (.iconst 1, 1) := by decide +kernel
theorem dL_ticks_318 : decode cL_ticks 318 = .ok (.goto 4, 3) := by decide +kernel
theorem dL_ticks_321 : decode cL_ticks 321 = .ok (.iconst 0, 1) := by decide +kernel
theorem dL_ticks_322 : decode cL_ticks 322 = .ok (.istore 7, 2) := by decide +kernel
theorem dL_ticks_324 : decode cL_ticks 324 = .ok (.aload_n 3, 1) := by decide +kernel
theorem dL_ticks_325 : decode cL_ticks 325 = .ok (.bipush 8, 2) := by decide +kernel
theorem dL_ticks_327 : decode cL_ticks 327 = .ok (.aload_n 3, 1) := by decide +kernel
theorem dL_ticks_328 : decode cL_ticks 328 = .ok (.bipush 8, 2) := by decide +kernel
theorem dL_ticks_330 : decode cL_ticks 330 = .ok (.daload, 1) := by decide +kernel
theorem dL_ticks_331 : decode cL_ticks 331 = .ok (.d2f, 1) := by decide +kernel
theorem dL_ticks_332 : decode cL_ticks 332 = .ok (.ldc 67, 2) := by decide +kernel
theorem dL_ticks_334 : decode cL_ticks 334 = .ok (.fmul, 1) := by decide +kernel
theorem dL_ticks_335 : decode cL_ticks 335 = .ok (.f2d, 1) := by decide +kernel
theorem dL_ticks_336 : decode cL_ticks 336 = .ok (.dastore, 1) := by decide +kernel
theorem dL_ticks_337 : decode cL_ticks 337 = .ok (.aload_n 0, 1) := by decide +kernel
theorem dL_ticks_338 : decode cL_ticks 338 = .ok (.iconst 0, 1) := by decide +kernel
theorem dL_ticks_339 : decode cL_ticks 339 = .ok (.dup2, 1) := by decide +kernel
theorem dL_ticks_340 : decode cL_ticks 340 = .ok (.iaload, 1) := by decide +kernel
theorem dL_ticks_341 : decode cL_ticks 341 = .ok (.iconst 1, 1) := by decide +kernel
theorem dL_ticks_342 : decode cL_ticks 342 = .ok (.iadd, 1) := by decide +kernel
theorem dL_ticks_343 : decode cL_ticks 343 = .ok (.iastore, 1) := by decide +kernel
theorem dL_ticks_344 : decode cL_ticks 344 = .ok (.iload 7, 2) := by decide +kernel
theorem dL_ticks_346 : decode cL_ticks 346 = .ok (.ireturn, 1) := by decide +kernel
theorem dL_areItems_0 : decode cL_areItems 0 = .ok (.iconst 0, 1) := by decide +kernel
theorem dL_areItems_1 : decode cL_areItems 1 = .ok (.istore 6, 2) := by decide +kernel
theorem dL_areItems_3 : decode cL_areItems 3 = .ok (.iload 6, 2) := by decide +kernel
theorem dL_areItems_5 : decode cL_areItems 5 = .ok (.aload_n 1, 1) := by decide +kernel
theorem dL_areItems_6 : decode cL_areItems 6 = .ok (.bipush 9, 2) := by decide +kernel
theorem dL_areItems_8 : decode cL_areItems 8 = .ok (.iaload, 1) := by decide +kernel
theorem dL_areItems_9 : decode cL_areItems 9 = .ok (.if_icmp .ge 347, 3) := by decide +kernel
theorem dL_areItems_12 : decode cL_areItems 12 = .ok (.bipush (-5), 2) := by decide +kernel
theorem dL_areItems_14 : decode cL_areItems 14 = .ok (.istore 7, 2) := by decide +kernel
theorem dL_areItems_16 : decode cL_areItems 16 = .ok (.iconst 0, 1) := by decide +kernel
theorem dL_areItems_17 : decode cL_areItems 17 = .ok (.istore 8, 2) := by decide +kernel
theorem dL_areItems_19 : decode cL_areItems 19 = .ok (.iload 8, 2) := by decide +kernel
theorem dL_areItems_21 : decode cL_areItems 21 = .ok (.aload_n 1, 1) := by decide +kernel
theorem dL_areItems_22 : decode cL_areItems 22 = .ok (.bipush 10, 2) := by decide +kernel
theorem dL_areItems_24 : decode cL_areItems 24 = .ok (.iaload, 1) := by decide +kernel
theorem dL_areItems_25 : decode cL_areItems 25 = .ok (.if_icmp .ge 33, 3) := by decide +kernel
theorem dL_areItems_28 : decode cL_areItems 28 = .ok (.aload_n 3, 1) := by decide +kernel
theorem dL_areItems_29 : decode cL_areItems 29 = .ok (.bipush 7, 2) := by decide +kernel
theorem dL_areItems_31 : decode cL_areItems 31 = .ok (.iload 8, 2) := by decide +kernel
theorem dL_areItems_33 : decode cL_areItems 33 = .ok (.imul, 1) := by decide +kernel
theorem dL_areItems_34 : decode cL_areItems 34 = .ok (.bipush 6, 2) := by decide +kernel
theorem dL_areItems_36 : decode cL_areItems 36 = .ok (.iadd, 1) := by decide +kernel
theorem dL_areItems_37 : decode cL_areItems 37 = .ok (.iaload, 1) := by decide +kernel
theorem dL_areItems_38 : decode cL_areItems 38 = .ok (.iload 6, 2) := by decide +kernel
theorem dL_areItems_40 : decode cL_areItems 40 = .ok (.if_icmp .ne 8, 3) := by decide +kernel
theorem dL_areItems_43 : decode cL_areItems 43 = .ok (.iload 8, 2) := by decide +kernel
theorem dL_areItems_45 : decode cL_areItems 45 = .ok (.goto 5, 3) := by decide +kernel
theorem dL_areItems_48 : decode cL_areItems 48 = .ok (.iload 7, 2) := by decide +kernel
theorem dL_areItems_50 : decode cL_areItems 50 = .ok (.istore 7, 2) := by decide +kernel
theorem dL_areItems_52 : decode cL_areItems 52 = .ok (.iinc 8 1, 3) := by decide +kernel
theorem dL_areItems_55 : decode cL_areItems 55 = .ok (.goto (-36), 3) := by decide +kernel
theorem dL_areItems_58 : decode cL_areItems 58 = .ok (.iconst 0, 1) := by decide +kernel
theorem dL_areItems_59 : decode cL_areItems 59 = .ok (.istore 8, 2) := by decide +kernel
theorem dL_areItems_61 : decode cL_areItems 61 = .ok (.iconst 0, 1) := by decide +kernel
theorem dL_areItems_62 : decode cL_areItems 62 = .ok (.istore 9, 2) := by decide +kernel
theorem dL_areItems_64 : decode cL_areItems 64 = .ok (.iload 9, 2) := by decide +kernel
theorem dL_areItems_66 : decode cL_areItems 66 = .ok (.aload_n 1, 1) := by decide +kernel
theorem dL_areItems_67 : decode cL_areItems 67 = .ok (.bipush 11, 2) := by decide +kernel
theorem dL_areItems_69 : decode cL_areItems 69 = .ok (.iaload, 1) := by decide +kernel
theorem dL_areItems_70 : decode cL_areItems 70 = .ok (.if_icmp .ge 107, 3) := by decide +kernel
theorem dL_areItems_73 : decode cL_areItems 73 = .ok (.aload 4, 2) := by decide +kernel
theorem dL_areItems_75 : decode cL_areItems 75 = .ok (.bipush 6, 2) := by decide +kernel
theorem dL_areItems_77 : decode cL_areItems 77 = .ok (.iload 9, 2) := by decide +kernel
theorem dL_areItems_79 : decode cL_areItems 79 = .ok (.imul, 1) := by decide +kernel
theorem dL_areItems_80 : decode cL_areItems 80 = .ok (.iaload, 1) := by decide +kernel
theorem dL_areItems_81 : decode cL_areItems 81 = .ok (.iconst 1, 1) := by decide +kernel
theorem dL_areItems_82 : decode cL_areItems 82 = .ok (.if_icmp .ne 38, 3) := by decide +kernel
theorem dL_areItems_85 : decode cL_areItems 85 = .ok (.aload 4, 2) := by decide +kernel
theorem dL_areItems_87 : decode cL_areItems 87 = .ok (.bipush 6, 2) := by decide +kernel
theorem dL_areItems_89 : decode cL_areItems 89 = .ok (.iload 9, 2) := by decide +kernel
theorem dL_areItems_91 : decode cL_areItems 91 = .ok (.imul, 1) := by decide +kernel
theorem dL_areItems_92 : decode cL_areItems 92 = .ok (.iconst 3, 1) := by decide +kernel
theorem dL_areItems_93 : decode cL_areItems 93 = .ok (.iadd, 1) := by decide +kernel
theorem dL_areItems_94 : decode cL_areItems 94 = .ok (.iaload, 1) := by decide +kernel
theorem dL_areItems_95 : decode cL_areItems 95 = .ok (.iconst 1, 1) := by decide +kernel
theorem dL_areItems_96 : decode cL_areItems 96 = .ok (.if_icmp .ne 20, 3) := by decide +kernel
theorem dL_areItems_99 : decode cL_areItems 99 = .ok (.aload 5, 2) := by decide +kernel
theorem dL_areItems_101 : decode cL_areItems 101 = .ok (.bipush 6, 2) := by decide +kernel
theorem dL_areItems_103 : decode cL_areItems 103 = .ok (.iload 9, 2) := by decide +kernel
theorem dL_areItems_105 : decode cL_areItems 105 = .ok (.imul, 1) := by decide +kernel
theorem dL_areItems_106 : decode cL_areItems 106 = .ok (.iaload, 1) := by decide +kernel
theorem dL_areItems_107 : decode cL_areItems 107 = .ok (.iload 6, 2) := by decide +kernel
theorem dL_areItems_109 : decode cL_areItems 109 = .ok (.if_icmp .ne 7, 3) := by decide +kernel
theorem dL_areItems_112 : decode cL_areItems 112 = .ok (.iconst 1, 1) := by decide +kernel
theorem dL_areItems_113 : decode cL_areItems 113 = .ok (.goto 41, 3) := by decide +kernel
theorem dL_areItems_116 : decode cL_areItems 116 = .ok (.iconst 0, 1) := by decide +kernel
theorem dL_areItems_117 : decode cL_areItems 117 = .ok (.goto 37, 3) := by decide +kernel
theorem dL_areItems_120 : decode cL_areItems 120 = .ok (.aload 4, 2) := by decide +kernel
theorem dL_areItems_122 : decode cL_areItems 122 = .ok (.bipush 6, 2) := by decide +kernel
theorem dL_areItems_124 : decode cL_areItems 124 = .ok (.iload 9, 2) := by decide +kernel
theorem dL_areItems_126 : decode cL_areItems 126 = .ok (.imul, 1) := by decide +kernel
theorem dL_areItems_127 : decode cL_areItems 127 = .ok (.iconst 3, 1) := by decide +kernel
theorem dL_areItems_128 : decode cL_areItems 128 = .ok (.iadd, 1) := by decide +kernel
theorem dL_areItems_129 : decode cL_areItems 129 = .ok (.iaload, 1) := by decide +kernel
theorem dL_areItems_130 : decode cL_areItems 130 = .ok (.iconst 2, 1) := by decide +kernel
theorem dL_areItems_131 : decode cL_areItems 131 = .ok (.if_icmp .ge 22, 3) := by decide +kernel
theorem dL_areItems_134 : decode cL_areItems 134 = .ok (.aload 4, 2) := by decide +kernel
theorem dL_areItems_136 : decode cL_areItems 136 = .ok (.bipush 6, 2) := by decide +kernel
theorem dL_areItems_138 : decode cL_areItems 138 = .ok (.iload 9, 2) := by decide +kernel
theorem dL_areItems_140 : decode cL_areItems 140 = .ok (.imul, 1) := by decide +kernel
theorem dL_areItems_141 : decode cL_areItems 141 = .ok (.iconst 1, 1) := by decide +kernel
theorem dL_areItems_142 : decode cL_areItems 142 = .ok (.iadd, 1) := by decide +kernel
theorem dL_areItems_143 : decode cL_areItems 143 = .ok (.iaload, 1) := by decide +kernel
theorem dL_areItems_144 : decode cL_areItems 144 = .ok (.iload 6, 2) := by decide +kernel
theorem dL_areItems_146 : decode cL_areItems 146 = .ok (.if_icmp .ne 7, 3) := by decide +kernel
theorem dL_areItems_149 : decode cL_areItems 149 = .ok (.iconst 1, 1) := by decide +kernel
theorem dL_areItems_150 : decode cL_areItems 150 = .ok (.goto 4, 3) := by decide +kernel
theorem dL_areItems_153 : decode cL_areItems 153 = .ok (.iconst 0, 1) := by decide +kernel
theorem dL_areItems_154 : decode cL_areItems 154 = .ok (.istore 10, 2) := by decide +kernel
theorem dL_areItems_156 : decode cL_areItems 156 = .ok (.iload 8, 2) := by decide +kernel
theorem dL_areItems_158 : decode cL_areItems 158 = .ok (.iload 10, 2) := by decide +kernel
theorem dL_areItems_160 : decode cL_areItems 160 = .ok (.ifCond .eq 7, 3) := by decide +kernel
theorem dL_areItems_163 : decode cL_areItems 163 = .ok (.iconst 1, 1) := by decide +kernel
theorem dL_areItems_164 : decode cL_areItems 164 = .ok (.goto 4, 3) := by decide +kernel
theorem dL_areItems_167 : decode cL_areItems 167 = .ok (.iconst 0, 1) := by decide +kernel
theorem dL_areItems_168 : decode cL_areItems 168 = .ok (.iadd, 1) := by decide +kernel
theorem dL_areItems_169 : decode cL_areItems 169 = .ok (.istore 8, 2) := by decide +kernel
theorem dL_areItems_171 : decode cL_areItems 171 = .ok (.iinc 9 1, 3) := by decide +kernel
theorem dL_areItems_174 : decode cL_areItems 174 = .ok (.goto (-110), 3) := by decide +kernel
theorem dL_areItems_177 : decode cL_areItems 177 = .ok (.aload_n 0, 1) := by decide +kernel
theorem dL_areItems_178 : decode cL_areItems 178 = .ok (.iload 6, 2) := by decide +kernel
theorem dL_areItems_180 : decode cL_areItems 180 = .ok (.iconst 0, 1) := by decide +kernel
theorem dL_areItems_181 : decode cL_areItems 181 = .ok (.invokevirtual 68, 3) := by decide +kernel
theorem dL_areItems_184 : decode cL_areItems 184 = .ok (.aload_n 2, 1) := by decide +kernel
theorem dL_areItems_185 : decode cL_areItems 185 = .ok (.bipush 6, 2) := by decide +kernel
theorem dL_areItems_187 : decode cL_areItems 187 = .ok (.iload 6, 2) := by decide +kernel
theorem dL_areItems_189 : decode cL_areItems 189 = .ok (.imul, 1) := by decide +kernel
theorem dL_areItems_190 : decode cL_areItems 190 = .ok (.iaload, 1) := by decide +kernel
theorem dL_areItems_191 : decode cL_areItems 191 = .ok (.if_icmp .ne 76, 3) := by decide +kernel
theorem dL_areItems_194 : decode cL_areItems 194 = .ok (.aload_n 0, 1) := by decide +kernel
theorem dL_areItems_195 : decode cL_areItems 195 = .ok (.iload 6, 2) := by decide +kernel
theorem dL_areItems_197 : decode cL_areItems 197 = .ok (.iconst 1, 1) := by decide +kernel
theorem dL_areItems_198 : decode cL_areItems 198 = .ok (.invokevirtual 68, 3) := by decide +kernel
theorem dL_areItems_201 : decode cL_areItems 201 = .ok (.aload_n 2, 1) := by decide +kernel
theorem dL_areItems_202 : decode cL_areItems 202 = .ok (.bipush 6, 2) := by decide +kernel
theorem dL_areItems_204 : decode cL_areItems 204 = .ok (.iload 6, 2) := by decide +kernel
theorem dL_areItems_206 : decode cL_areItems 206 = .ok (.imul, 1) := by decide +kernel
theorem dL_areItems_207 : decode cL_areItems 207 = .ok (.iconst 1, 1) := by decide +kernel
theorem dL_areItems_208 : decode cL_areItems 208 = .ok (.iadd, 1) := by decide +kernel
theorem dL_areItems_209 : decode cL_areItems 209 = .ok (.iaload, 1) := by decide +kernel
theorem dL_areItems_210 : decode cL_areItems 210 = .ok (.if_icmp .ne 57, 3) := by decide +kernel
theorem dL_areItems_213 : decode cL_areItems 213 = .ok (.aload_n 0, 1) := by decide +kernel
theorem dL_areItems_214 : decode cL_areItems 214 = .ok (.iload 6, 2) := by decide +kernel
theorem dL_areItems_216 : decode cL_areItems 216 = .ok (.iconst 2, 1) := by decide +kernel
theorem dL_areItems_217 : decode cL_areItems 217 = .ok (.invokevirtual 68, 3) := by decide +kernel
theorem dL_areItems_220 : decode cL_areItems 220 = .ok (.aload_n 2, 1) := by decide +kernel
theorem dL_areItems_221 : decode cL_areItems 221 = .ok (.bipush 6, 2) := by decide +kernel
theorem dL_areItems_223 : decode cL_areItems 223 = .ok (.iload 6, 2) := by decide +kernel
theorem dL_areItems_225 : decode cL_areItems 225 = .ok (.imul, 1) := by decide +kernel
theorem dL_areItems_226 : decode cL_areItems 226 = .ok (.iconst 2, 1) := by decide +kernel
theorem dL_areItems_227 : decode cL_areItems 227 = .ok (.iadd, 1) := by decide +kernel
theorem dL_areItems_228 : decode cL_areItems 228 = .ok (.iaload, 1) := by decide +kernel
theorem dL_areItems_229 : decode cL_areItems 229 = .ok (.if_icmp .ne 38, 3) := by decide +kernel
theorem dL_areItems_232 : decode cL_areItems 232 = .ok (.aload_n 0, 1) := by decide +kernel
theorem dL_areItems_233 : decode cL_areItems 233 = .ok (.iload 6, 2) := by decide +kernel
theorem dL_areItems_235 : decode cL_areItems 235 = .ok (.iconst 3, 1) := by decide +kernel
theorem dL_areItems_236 : decode cL_areItems 236 = .ok (.invokevirtual 68, 3) := by decide +kernel
theorem dL_areItems_239 : decode cL_areItems 239 = .ok (.iload 7, 2) := by decide +kernel
theorem dL_areItems_241 : decode cL_areItems 241 = .ok (.if_icmp .ne 26, 3) := by decide +kernel
theorem dL_areItems_244 : decode cL_areItems 244 = .ok (.aload_n 0, 1) := by decide +kernel
theorem dL_areItems_245 : decode cL_areItems 245 = .ok (.iload 6, 2) := by decide +kernel
theorem dL_areItems_247 : decode cL_areItems 247 = .ok (.iconst 4, 1) := by decide +kernel
theorem dL_areItems_248 : decode cL_areItems 248 = .ok (.invokevirtual 68, 3) := by decide +kernel
theorem dL_areItems_251 : decode cL_areItems 251 = .ok (.aload_n 2, 1) := by decide +kernel
theorem dL_areItems_252 : decode cL_areItems 252 = .ok (.bipush 6, 2) := by decide +kernel
theorem dL_areItems_254 : decode cL_areItems 254 = .ok (.iload 6, 2) := by decide +kernel
theorem dL_areItems_256 : decode cL_areItems 256 = .ok (.imul, 1) := by decide +kernel
theorem dL_areItems_257 : decode cL_areItems 257 = .ok (.iconst 3, 1) := by decide +kernel
theorem dL_areItems_258 : decode cL_areItems 258 = .ok (.iadd, 1) := by decide +kernel
theorem dL_areItems_259 : decode cL_areItems 259 = .ok (.iaload, 1) := by decide +kernel
theorem dL_areItems_260 : decode cL_areItems 260 = .ok (.if_icmp .ne 7, 3) := by decide +kernel
theorem dL_areItems_263 : decode cL_areItems 263 = .ok (.iconst 1, 1) := by decide +kernel
theorem dL_areItems_264 : decode cL_areItems 264 = .ok (.goto 4, 3) := by decide +kernel
theorem dL_areItems_267 : decode cL_areItems 267 = .ok (.iconst 0, 1) := by decide +kernel
theorem dL_areItems_268 : decode cL_areItems 268 = .ok (.istore 9, 2) := by decide +kernel
theorem dL_areItems_270 : decode cL_areItems 270 = .ok (.iload 9, 2) := by decide +kernel
theorem dL_areItems_272 : decode cL_areItems 272 = .ok (.ifCond .eq 76, 3) := by decide +kernel
theorem dL_areItems_275 : decode cL_areItems 275 = .ok (.aload_n 0, 1) := by decide +kernel
theorem dL_areItems_276 : decode cL_areItems 276 = .ok (.iload 6, 2) := by decide +kernel
theorem dL_areItems_278 : decode cL_areItems 278 = .ok (.iconst 5, 1) := by decide +kernel
theorem dL_areItems_279 : decode cL_areItems 279 = .ok (.invokevirtual 68, 3) := by decide +kernel
theorem dL_areItems_282 : decode cL_areItems 282 = .ok (.aload_n 2, 1) := by decide +kernel
theorem dL_areItems_283 : decode cL_areItems 283 = .ok (.bipush 6, 2) := by decide +kernel
theorem dL_areItems_285 : decode cL_areItems 285 = .ok (.iload 6, 2) := by decide +kernel
theorem dL_areItems_287 : decode cL_areItems 287 = .ok (.imul, 1) := by decide +kernel
theorem dL_areItems_288 : decode cL_areItems 288 = .ok (.iconst 4, 1) := by decide +kernel
theorem dL_areItems_289 : decode cL_areItems 289 = .ok (.iadd, 1) := by decide +kernel
theorem dL_areItems_290 : decode cL_areItems 290 = .ok (.iaload, 1) := by decide +kernel
theorem dL_areItems_291 : decode cL_areItems 291 = .ok (.invokestatic 73, 3) := by decide +kernel
theorem dL_areItems_294 : decode cL_areItems 294 = .ok (.if_icmp .ne 54, 3) := by decide +kernel
theorem dL_areItems_297 : decode cL_areItems 297 = .ok (.aload_n 0, 1) := by decide +kernel
theorem dL_areItems_298 : decode cL_areItems 298 = .ok (.iload 6, 2) := by decide +kernel
theorem dL_areItems_300 : decode cL_areItems 300 = .ok (.bipush 6, 2) := by decide +kernel
theorem dL_areItems_302 : decode cL_areItems 302 = .ok (.invokevirtual 68, 3) := by decide +kernel
theorem dL_areItems_305 : decode cL_areItems 305 = .ok (.aload_n 2, 1) := by decide +kernel
theorem dL_areItems_306 : decode cL_areItems 306 = .ok (.bipush 6, 2) := by decide +kernel
theorem dL_areItems_308 : decode cL_areItems 308 = .ok (.iload 6, 2) := by decide +kernel
theorem dL_areItems_310 : decode cL_areItems 310 = .ok (.imul, 1) := by decide +kernel
theorem dL_areItems_311 : decode cL_areItems 311 = .ok (.iconst 5, 1) := by decide +kernel
theorem dL_areItems_312 : decode cL_areItems 312 = .ok (.iadd, 1) := by decide +kernel
theorem dL_areItems_313 : decode cL_areItems 313 = .ok (.iaload, 1) := by decide +kernel
theorem dL_areItems_314 : decode cL_areItems 314 = .ok (.if_icmp .ne 34, 3) := by decide +kernel
theorem dL_areItems_317 : decode cL_areItems 317 = .ok (.aload_n 0, 1) := by decide +kernel
theorem dL_areItems_318 : decode cL_areItems 318 = .ok (.iload 6, 2) := by decide +kernel
theorem dL_areItems_320 : decode cL_areItems 320 = .ok (.bipush 7, 2) := by decide +kernel
theorem dL_areItems_322 : decode cL_areItems 322 = .ok (.invokevirtual 68, 3) := by decide +kernel
theorem dL_areItems_325 : decode cL_areItems 325 = .ok (.iload 8, 2) := by decide +kernel
theorem dL_areItems_327 : decode cL_areItems 327 = .ok (.if_icmp .ne 21, 3) := by decide +kernel
theorem dL_areItems_330 : decode cL_areItems 330 = .ok (.aload_n 0, 1) := by decide +kernel
theorem dL_areItems_331 : decode cL_areItems 331 = .ok (.aload_n 2, 1) := by decide +kernel
theorem dL_areItems_332 : decode cL_areItems 332 = .ok (.bipush 6, 2) := by decide +kernel
theorem dL_areItems_334 : decode cL_areItems 334 = .ok (.iload 6, 2) := by decide +kernel
theorem dL_areItems_336 : decode cL_areItems 336 = .ok (.imul, 1) := by decide +kernel
theorem dL_areItems_337 : decode cL_areItems 337 = .ok (.iconst 1, 1) := by decide +kernel
theorem dL_areItems_338 : decode cL_areItems 338 = .ok (.iadd, 1) := by decide +kernel
theorem dL_areItems_339 : decode cL_areItems 339 = .ok (.iaload, 1) := by decide +kernel
theorem dL_areItems_340 : decode cL_areItems 340 = .ok (.invokevirtual 77, 3) := by decide +kernel
theorem dL_areItems_343 : decode cL_areItems 343 = .ok (.iload 6, 2) := by decide +kernel
theorem dL_areItems_345 : decode cL_areItems 345 = .ok (.if_icmp .eq 5, 3) := by decide +kernel
theorem dL_areItems_348 : decode cL_areItems 348 = .ok (.iconst 0, 1) := by decide +kernel
theorem dL_areItems_349 : decode cL_areItems 349 = .ok (.ireturn, 1) := by decide +kernel
theorem dL_areItems_350 : decode cL_areItems 350 = .ok (.iinc 6 1, 3) := by decide +kernel
theorem dL_areItems_353 : decode cL_areItems 353 = .ok (.goto (-350), 3) := by decide +kernel
theorem dL_areItems_356 : decode cL_areItems 356 = .ok (.aload_n 0, 1) := by decide +kernel
theorem dL_areItems_357 : decode cL_areItems 357 = .ok (.aload_n 1, 1) := by decide +kernel
theorem dL_areItems_358 : decode cL_areItems 358 = .ok (.bipush 9, 2) := by decide +kernel
theorem dL_areItems_360 : decode cL_areItems 360 = .ok (.iaload, 1) := by decide +kernel
theorem dL_areItems_361 : decode cL_areItems 361 = .ok (.iconst 0, 1) := by decide +kernel
theorem dL_areItems_362 : decode cL_areItems 362 = .ok (.invokevirtual 68, 3) := by decide +kernel
theorem dL_areItems_365 : decode cL_areItems 365 = .ok (.iconst (-1), 1) := by decide +kernel
theorem dL_areItems_366 : decode cL_areItems 366 = .ok (.if_icmp .ne 30, 3) := by decide +kernel
theorem dL_areItems_369 : decode cL_areItems 369 = .ok (.aload_n 0, 1) := by decide +kernel
theorem dL_areItems_370 : decode cL_areItems 370 = .ok (.iconst 0, 1) := by decide +kernel
theorem dL_areItems_371 : decode cL_areItems 371 = .ok (.bipush 8, 2) := by decide +kernel
theorem dL_areItems_373 : decode cL_areItems 373 = .ok (.invokevirtual 68, 3) := by decide +kernel
theorem dL_areItems_376 : decode cL_areItems 376 = .ok (.aload_n 1, 1) := by decide +kernel
theorem dL_areItems_377 : decode cL_areItems 377 = .ok (.bipush 9, 2) := by decide +kernel
theorem dL_areItems_379 : decode cL_areItems 379 = .ok (.iaload, 1) := by decide +kernel
theorem dL_areItems_380 : decode cL_areItems 380 = .ok (.ifCond .le 8, 3) := by decide +kernel
theorem dL_areItems_383 : decode cL_areItems 383 = .ok (.bipush (-2), 2) := by decide +kernel
theorem dL_areItems_385 : decode cL_areItems 385 = .ok (.goto 4, 3) := by decide +kernel
theorem dL_areItems_388 : decode cL_areItems 388 = .ok (.iconst (-1), 1) := by decide +kernel
theorem dL_areItems_389 : decode cL_areItems 389 = .ok (.if_icmp .ne 7, 3) := by decide +kernel
theorem dL_areItems_392 : decode cL_areItems 392 = .ok (.iconst 1, 1) := by decide +kernel
theorem dL_areItems_393 : decode cL_areItems 393 = .ok (.goto 4, 3) := by decide +kernel
theorem dL_areItems_396 : decode cL_areItems 396 = .ok (.iconst 0, 1) := by decide +kernel
theorem dL_areItems_397 : decode cL_areItems 397 = .ok (.ireturn, 1) := by decide +kernel
theorem dL_areDrives_0 : decode cL_areDrives 0 = .ok (.iconst 0, 1) := by decide +kernel
theorem dL_areDrives_1 : decode cL_areDrives 1 = .ok (.istore 4, 2) := by decide +kernel
theorem dL_areDrives_3 : decode cL_areDrives 3 = .ok (.iload 4, 2) := by decide +kernel
theorem dL_areDrives_5 : decode cL_areDrives 5 = .ok (.aload_n 1, 1) := by decide +kernel
theorem dL_areDrives_6 : decode cL_areDrives 6 = .ok (.bipush 10, 2) := by decide +kernel
theorem dL_areDrives_8 : decode cL_areDrives 8 = .ok (.iaload, 1) := by decide +kernel
theorem dL_areDrives_9 : decode cL_areDrives 9 = .ok (.if_icmp .ge 177, 3) := by decide +kernel
theorem dL_areDrives_12 : decode cL_areDrives 12 = .ok (.aload_n 0, 1) := by decide +kernel
theorem dL_areDrives_13 : decode cL_areDrives 13 = .ok (.iload 4, 2) := by decide +kernel
theorem dL_areDrives_15 : decode cL_areDrives 15 = .ok (.iconst 0, 1) := by decide +kernel
theorem dL_areDrives_16 : decode cL_areDrives 16 = .ok (.invokevirtual 80, 3) := by decide +kernel
theorem dL_areDrives_19 : decode cL_areDrives 19 = .ok (.aload_n 2, 1) := by decide +kernel
theorem dL_areDrives_20 : decode cL_areDrives 20 = .ok (.bipush 7, 2) := by decide +kernel
theorem dL_areDrives_22 : decode cL_areDrives 22 = .ok (.iload 4, 2) := by decide +kernel
theorem dL_areDrives_24 : decode cL_areDrives 24 = .ok (.imul, 1) := by decide +kernel
theorem dL_areDrives_25 : decode cL_areDrives 25 = .ok (.iaload, 1) := by decide +kernel
theorem dL_areDrives_26 : decode cL_areDrives 26 = .ok (.if_icmp .ne 84, 3) := by decide +kernel
theorem dL_areDrives_29 : decode cL_areDrives 29 = .ok (.aload_n 0, 1) := by decide +kernel
theorem dL_areDrives_30 : decode cL_areDrives 30 = .ok (.iload 4, 2) := by decide +kernel
theorem dL_areDrives_32 : decode cL_areDrives 32 = .ok (.iconst 1, 1) := by decide +kernel
theorem dL_areDrives_33 : decode cL_areDrives 33 = .ok (.invokevirtual 80, 3) := by decide +kernel
theorem dL_areDrives_36 : decode cL_areDrives 36 = .ok (.aload_n 2, 1) := by decide +kernel
theorem dL_areDrives_37 : decode cL_areDrives 37 = .ok (.bipush 7, 2) := by decide +kernel
theorem dL_areDrives_39 : decode cL_areDrives 39 = .ok (.iload 4, 2) := by decide +kernel
theorem dL_areDrives_41 : decode cL_areDrives 41 = .ok (.imul, 1) := by decide +kernel
theorem dL_areDrives_42 : decode cL_areDrives 42 = .ok (.iconst 3, 1) := by decide +kernel
theorem dL_areDrives_43 : decode cL_areDrives 43 = .ok (.iadd, 1) := by decide +kernel
theorem dL_areDrives_44 : decode cL_areDrives 44 = .ok (.iaload, 1) := by decide +kernel
theorem dL_areDrives_45 : decode cL_areDrives 45 = .ok (.if_icmp .ne 65, 3) := by decide +kernel
theorem dL_areDrives_48 : decode cL_areDrives 48 = .ok (.aload_n 0, 1) := by decide +kernel
theorem dL_areDrives_49 : decode cL_areDrives 49 = .ok (.iload 4, 2) := by decide +kernel
theorem dL_areDrives_51 : decode cL_areDrives 51 = .ok (.iconst 2, 1) := by decide +kernel
theorem dL_areDrives_52 : decode cL_areDrives 52 = .ok (.invokevirtual 80, 3) := by decide +kernel
theorem dL_areDrives_55 : decode cL_areDrives 55 = .ok (.aload_n 2, 1) := by decide +kernel
theorem dL_areDrives_56 : decode cL_areDrives 56 = .ok (.bipush 7, 2) := by decide +kernel
theorem dL_areDrives_58 : decode cL_areDrives 58 = .ok (.iload 4, 2) := by decide +kernel
theorem dL_areDrives_60 : decode cL_areDrives 60 = .ok (.imul, 1) := by decide +kernel
theorem dL_areDrives_61 : decode cL_areDrives 61 = .ok (.iconst 4, 1) := by decide +kernel
theorem dL_areDrives_62 : decode cL_areDrives 62 = .ok (.iadd, 1) := by decide +kernel
theorem dL_areDrives_63 : decode cL_areDrives 63 = .ok (.iaload, 1) := by decide +kernel
theorem dL_areDrives_64 : decode cL_areDrives 64 = .ok (.if_icmp .ne 46, 3) := by decide +kernel
theorem dL_areDrives_67 : decode cL_areDrives 67 = .ok (.aload_n 0, 1) := by decide +kernel
theorem dL_areDrives_68 : decode cL_areDrives 68 = .ok (.iload 4, 2) := by decide +kernel
theorem dL_areDrives_70 : decode cL_areDrives 70 = .ok (.iconst 3, 1) := by decide +kernel
theorem dL_areDrives_71 : decode cL_areDrives 71 = .ok (.invokevirtual 80, 3) := by decide +kernel
theorem dL_areDrives_74 : decode cL_areDrives 74 = .ok (.aload_n 2, 1) := by decide +kernel
theorem dL_areDrives_75 : decode cL_areDrives 75 = .ok (.bipush 7, 2) := by decide +kernel
theorem dL_areDrives_77 : decode cL_areDrives 77 = .ok (.iload 4, 2) := by decide +kernel
theorem dL_areDrives_79 : decode cL_areDrives 79 = .ok (.imul, 1) := by decide +kernel
theorem dL_areDrives_80 : decode cL_areDrives 80 = .ok (.iconst 5, 1) := by decide +kernel
theorem dL_areDrives_81 : decode cL_areDrives 81 = .ok (.iadd, 1) := by decide +kernel
theorem dL_areDrives_82 : decode cL_areDrives 82 = .ok (.iaload, 1) := by decide +kernel
theorem dL_areDrives_83 : decode cL_areDrives 83 = .ok (.if_icmp .ne 27, 3) := by decide +kernel
theorem dL_areDrives_86 : decode cL_areDrives 86 = .ok (.aload_n 0, 1) := by decide +kernel
theorem dL_areDrives_87 : decode cL_areDrives 87 = .ok (.iload 4, 2) := by decide +kernel
theorem dL_areDrives_89 : decode cL_areDrives 89 = .ok (.iconst 4, 1) := by decide +kernel
theorem dL_areDrives_90 : decode cL_areDrives 90 = .ok (.invokevirtual 80, 3) := by decide +kernel
theorem dL_areDrives_93 : decode cL_areDrives 93 = .ok (.aload_n 2, 1) := by decide +kernel
theorem dL_areDrives_94 : decode cL_areDrives 94 = .ok (.bipush 7, 2) := by decide +kernel
theorem dL_areDrives_96 : decode cL_areDrives 96 = .ok (.iload 4, 2) := by decide +kernel
theorem dL_areDrives_98 : decode cL_areDrives 98 = .ok (.imul, 1) := by decide +kernel
theorem dL_areDrives_99 : decode cL_areDrives 99 = .ok (.bipush 6, 2) := by decide +kernel
theorem dL_areDrives_101 : decode cL_areDrives 101 = .ok (.iadd, 1) := by decide +kernel
theorem dL_areDrives_102 : decode cL_areDrives 102 = .ok (.iaload, 1) := by decide +kernel
theorem dL_areDrives_103 : decode cL_areDrives 103 = .ok (.if_icmp .ne 7, 3) := by decide +kernel
theorem dL_areDrives_106 : decode cL_areDrives 106 = .ok (.iconst 1, 1) := by decide +kernel
theorem dL_areDrives_107 : decode cL_areDrives 107 = .ok (.goto 4, 3) := by decide +kernel
theorem dL_areDrives_110 : decode cL_areDrives 110 = .ok (.iconst 0, 1) := by decide +kernel
theorem dL_areDrives_111 : decode cL_areDrives 111 = .ok (.istore 5, 2) := by decide +kernel
theorem dL_areDrives_113 : decode cL_areDrives 113 = .ok (.iload 5, 2) := by decide +kernel
theorem dL_areDrives_115 : decode cL_areDrives 115 = .ok (.ifCond .eq 63, 3) := by decide +kernel
theorem dL_areDrives_118 : decode cL_areDrives 118 = .ok (.aload_n 0, 1) := by decide +kernel
theorem dL_areDrives_119 : decode cL_areDrives 119 = .ok (.iload 4, 2) := by decide +kernel
theorem dL_areDrives_121 : decode cL_areDrives 121 = .ok (.iconst 5, 1) := by decide +kernel
theorem dL_areDrives_122 : decode cL_areDrives 122 = .ok (.invokevirtual 80, 3) := by decide +kernel
theorem dL_areDrives_125 : decode cL_areDrives 125 = .ok (.aload_n 3, 1) := by decide +kernel
theorem dL_areDrives_126 : decode cL_areDrives 126 = .ok (.iload 4, 2) := by decide +kernel
theorem dL_areDrives_128 : decode cL_areDrives 128 = .ok (.invokestatic 9, 3) := by decide +kernel
theorem dL_areDrives_131 : decode cL_areDrives 131 = .ok (.ifCond .eq 7, 3) := by decide +kernel
theorem dL_areDrives_134 : decode cL_areDrives 134 = .ok (.iconst 1, 1) := by decide +kernel
theorem dL_areDrives_135 : decode cL_areDrives 135 = .ok (.goto 4, 3) := by decide +kernel
theorem dL_areDrives_138 : decode cL_areDrives 138 = .ok (.iconst 0, 1) := by decide +kernel
theorem dL_areDrives_139 : decode cL_areDrives 139 = .ok (.if_icmp .ne 39, 3) := by decide +kernel
theorem dL_areDrives_142 : decode cL_areDrives 142 = .ok (.aload_n 0, 1) := by decide +kernel
theorem dL_areDrives_143 : decode cL_areDrives 143 = .ok (.iload 4, 2) := by decide +kernel
theorem dL_areDrives_145 : decode cL_areDrives 145 = .ok (.invokevirtual 82, 3) := by decide +kernel
theorem dL_areDrives_148 : decode cL_areDrives 148 = .ok (.f2d, 1) := by decide +kernel
theorem dL_areDrives_149 : decode cL_areDrives 149 = .ok (.aload_n 3, 1) := by decide +kernel
theorem dL_areDrives_150 : decode cL_areDrives 150 = .ok (.iconst 2, 1) := by decide +kernel
theorem dL_areDrives_151 : decode cL_areDrives 151 = .ok (.iload 4, 2) := by decide +kernel
theorem dL_areDrives_153 : decode cL_areDrives 153 = .ok (.imul, 1) := by decide +kernel
theorem dL_areDrives_154 : decode cL_areDrives 154 = .ok (.daload, 1) := by decide +kernel
theorem dL_areDrives_155 : decode cL_areDrives 155 = .ok (.dcmp .l, 1) := by decide +kernel
theorem dL_areDrives_156 : decode cL_areDrives 156 = .ok (.ifCond .ne 22, 3) := by decide +kernel
theorem dL_areDrives_159 : decode cL_areDrives 159 = .ok (.aload_n 0, 1) := by decide +kernel
theorem dL_areDrives_160 : decode cL_areDrives 160 = .ok (.iload 4, 2) := by decide +kernel
theorem dL_areDrives_162 : decode cL_areDrives 162 = .ok (.invokevirtual 86, 3) := by decide +kernel
theorem dL_areDrives_165 : decode cL_areDrives 165 = .ok (.f2d, 1) := by decide +kernel
theorem dL_areDrives_166 : decode cL_areDrives 166 = .ok (.aload_n 3, 1) := by decide +kernel
theorem dL_areDrives_167 : decode cL_areDrives 167 = .ok (.iconst 2, 1) := by decide +kernel
theorem dL_areDrives_168 : decode cL_areDrives 168 = .ok (.iload 4, 2) := by decide +kernel
theorem dL_areDrives_170 : decode cL_areDrives 170 = .ok (.imul, 1) := by decide +kernel
theorem dL_areDrives_171 : decode cL_areDrives 171 = .ok (.iconst 1, 1) := by decide +kernel
theorem dL_areDrives_172 : decode cL_areDrives 172 = .ok (.iadd, 1) := by decide +kernel
theorem dL_areDrives_173 : decode cL_areDrives 173 = .ok (.daload, 1) := by decide +kernel
theorem dL_areDrives_174 : decode cL_areDrives 174 = .ok (.dcmp .l, 1) := by decide +kernel
theorem dL_areDrives_175 : decode cL_areDrives 175 = .ok (.ifCond .eq 5, 3) := by decide +kernel
theorem dL_areDrives_178 : decode cL_areDrives 178 = .ok (.iconst 0, 1) := by decide +kernel
theorem dL_areDrives_179 : decode cL_areDrives 179 = .ok (.ireturn, 1) := by decide +kernel
theorem dL_areDrives_180 : decode cL_areDrives 180 = .ok (.iinc 4 1, 3) := by decide +kernel
theorem dL_areDrives_183 : decode cL_areDrives 183 = .ok (.goto (-180), 3) := by decide +kernel
theorem dL_areDrives_186 : decode cL_areDrives 186 = .ok (.aload_n 0, 1) := by decide +kernel
theorem dL_areDrives_187 : decode cL_areDrives 187 = .ok (.aload_n 1, 1) := by decide +kernel
theorem dL_areDrives_188 : decode cL_areDrives 188 = .ok (.bipush 10, 2) := by decide +kernel
theorem dL_areDrives_190 : decode cL_areDrives 190 = .ok (.iaload, 1) := by decide +kernel
theorem dL_areDrives_191 : decode cL_areDrives 191 = .ok (.iconst 0, 1) := by decide +kernel
theorem dL_areDrives_192 : decode cL_areDrives 192 = .ok (.invokevirtual 80, 3) := by decide +kernel
theorem dL_areDrives_195 : decode cL_areDrives 195 = .ok (.iconst (-1), 1) := by decide +kernel
theorem dL_areDrives_196 : decode cL_areDrives 196 = .ok (.if_icmp .ne 35, 3) := by decide +kernel
theorem dL_areDrives_199 : decode cL_areDrives 199 = .ok (.aload_n 0, 1) := by decide +kernel
theorem dL_areDrives_200 : decode cL_areDrives 200 = .ok (.iconst 0, 1) := by decide +kernel
theorem dL_areDrives_201 : decode cL_areDrives 201 = .ok (.invokevirtual 89, 3) := by decide +kernel
theorem dL_areDrives_204 : decode cL_areDrives 204 = .ok (.f2d, 1) := by decide +kernel
theorem dL_areDrives_205 : decode cL_areDrives 205 = .ok (.aload_n 3, 1) := by decide +kernel
theorem dL_areDrives_206 : decode cL_areDrives 206 = .ok (.bipush 8, 2) := by decide +kernel
theorem dL_areDrives_208 : decode cL_areDrives 208 = .ok (.daload, 1) := by decide +kernel
theorem dL_areDrives_209 : decode cL_areDrives 209 = .ok (.dcmp .l, 1) := by decide +kernel
theorem dL_areDrives_210 : decode cL_areDrives 210 = .ok (.ifCond .ne 21, 3) := by decide +kernel
theorem dL_areDrives_213 : decode cL_areDrives 213 = .ok (.aload_n 0, 1) := by decide +kernel
theorem dL_areDrives_214 : decode cL_areDrives 214 = .ok (.iconst 1, 1) := by decide +kernel
theorem dL_areDrives_215 : decode cL_areDrives 215 = .ok (.invokevirtual 89, 3) := by decide +kernel
theorem dL_areDrives_218 : decode cL_areDrives 218 = .ok (.f2d, 1) := by decide +kernel
theorem dL_areDrives_219 : decode cL_areDrives 219 = .ok (.aload_n 3, 1) := by decide +kernel
theorem dL_areDrives_220 : decode cL_areDrives 220 = .ok (.bipush 9, 2) := by decide +kernel
theorem dL_areDrives_222 : decode cL_areDrives 222 = .ok (.daload, 1) := by decide +kernel
theorem dL_areDrives_223 : decode cL_areDrives 223 = .ok (.dcmp .l, 1) := by decide +kernel
theorem dL_areDrives_224 : decode cL_areDrives 224 = .ok (.ifCond .ne 7, 3) := by decide +kernel
theorem dL_areDrives_227 : decode cL_areDrives 227 = .ok (.iconst 1, 1) := by decide +kernel
theorem dL_areDrives_228 : decode cL_areDrives 228 = .ok (.goto 4, 3) := by decide +kernel
theorem dL_areDrives_231 : decode cL_areDrives 231 = .ok (.iconst 0, 1) := by decide +kernel
theorem dL_areDrives_232 : decode cL_areDrives 232 = .ok (.ireturn, 1) := by decide +kernel
theorem dL_areJobs_0 : decode cL_areJobs 0 = .ok (.iconst 0, 1) := by decide +kernel
theorem dL_areJobs_1 : decode cL_areJobs 1 = .ok (.istore 4, 2) := by decide +kernel
theorem dL_areJobs_3 : decode cL_areJobs 3 = .ok (.iload 4, 2) := by decide +kernel
theorem dL_areJobs_5 : decode cL_areJobs 5 = .ok (.aload_n 1, 1) := by decide +kernel
theorem dL_areJobs_6 : decode cL_areJobs 6 = .ok (.bipush 11, 2) := by decide +kernel
theorem dL_areJobs_8 : decode cL_areJobs 8 = .ok (.iaload, 1) := by decide +kernel
theorem dL_areJobs_9 : decode cL_areJobs 9 = .ok (.if_icmp .ge 265, 3) := by decide +kernel
theorem dL_areJobs_12 : decode cL_areJobs 12 = .ok (.aload_n 0, 1) := by decide +kernel
theorem dL_areJobs_13 : decode cL_areJobs 13 = .ok (.iload 4, 2) := by decide +kernel
theorem dL_areJobs_15 : decode cL_areJobs 15 = .ok (.iconst 0, 1) := by decide +kernel
theorem dL_areJobs_16 : decode cL_areJobs 16 = .ok (.invokevirtual 92, 3) := by decide +kernel
theorem dL_areJobs_19 : decode cL_areJobs 19 = .ok (.aload_n 2, 1) := by decide +kernel
theorem dL_areJobs_20 : decode cL_areJobs 20 = .ok (.bipush 6, 2) := by decide +kernel
theorem dL_areJobs_22 : decode cL_areJobs 22 = .ok (.iload 4, 2) := by decide +kernel
theorem dL_areJobs_24 : decode cL_areJobs 24 = .ok (.imul, 1) := by decide +kernel
theorem dL_areJobs_25 : decode cL_areJobs 25 = .ok (.iaload, 1) := by decide +kernel
theorem dL_areJobs_26 : decode cL_areJobs 26 = .ok (.if_icmp .ne 104, 3) := by decide +kernel
theorem dL_areJobs_29 : decode cL_areJobs 29 = .ok (.aload_n 0, 1) := by decide +kernel
theorem dL_areJobs_30 : decode cL_areJobs 30 = .ok (.iload 4, 2) := by decide +kernel
theorem dL_areJobs_32 : decode cL_areJobs 32 = .ok (.iconst 1, 1) := by decide +kernel
theorem dL_areJobs_33 : decode cL_areJobs 33 = .ok (.invokevirtual 92, 3) := by decide +kernel
theorem dL_areJobs_36 : decode cL_areJobs 36 = .ok (.aload_n 2, 1) := by decide +kernel
theorem dL_areJobs_37 : decode cL_areJobs 37 = .ok (.bipush 6, 2) := by decide +kernel
theorem dL_areJobs_39 : decode cL_areJobs 39 = .ok (.iload 4, 2) := by decide +kernel
theorem dL_areJobs_41 : decode cL_areJobs 41 = .ok (.imul, 1) := by decide +kernel
theorem dL_areJobs_42 : decode cL_areJobs 42 = .ok (.iconst 1, 1) := by decide +kernel
theorem dL_areJobs_43 : decode cL_areJobs 43 = .ok (.iadd, 1) := by decide +kernel
theorem dL_areJobs_44 : decode cL_areJobs 44 = .ok (.iaload, 1) := by decide +kernel
theorem dL_areJobs_45 : decode cL_areJobs 45 = .ok (.if_icmp .ne 85, 3) := by decide +kernel
theorem dL_areJobs_48 : decode cL_areJobs 48 = .ok (.aload_n 0, 1) := by decide +kernel
theorem dL_areJobs_49 : decode cL_areJobs 49 = .ok (.iload 4, 2) := by decide +kernel
theorem dL_areJobs_51 : decode cL_areJobs 51 = .ok (.iconst 2, 1) := by decide +kernel
theorem dL_areJobs_52 : decode cL_areJobs 52 = .ok (.invokevirtual 92, 3) := by decide +kernel
theorem dL_areJobs_55 : decode cL_areJobs 55 = .ok (.aload_n 2, 1) := by decide +kernel
theorem dL_areJobs_56 : decode cL_areJobs 56 = .ok (.bipush 6, 2) := by decide +kernel
theorem dL_areJobs_58 : decode cL_areJobs 58 = .ok (.iload 4, 2) := by decide +kernel
theorem dL_areJobs_60 : decode cL_areJobs 60 = .ok (.imul, 1) := by decide +kernel
theorem dL_areJobs_61 : decode cL_areJobs 61 = .ok (.iconst 2, 1) := by decide +kernel
theorem dL_areJobs_62 : decode cL_areJobs 62 = .ok (.iadd, 1) := by decide +kernel
theorem dL_areJobs_63 : decode cL_areJobs 63 = .ok (.iaload, 1) := by decide +kernel
theorem dL_areJobs_64 : decode cL_areJobs 64 = .ok (.if_icmp .ne 66, 3) := by decide +kernel
theorem dL_areJobs_67 : decode cL_areJobs 67 = .ok (.aload_n 0, 1) := by decide +kernel
theorem dL_areJobs_68 : decode cL_areJobs 68 = .ok (.iload 4, 2) := by decide +kernel
theorem dL_areJobs_70 : decode cL_areJobs 70 = .ok (.iconst 3, 1) := by decide +kernel
theorem dL_areJobs_71 : decode cL_areJobs 71 = .ok (.invokevirtual 92, 3) := by decide +kernel
theorem dL_areJobs_74 : decode cL_areJobs 74 = .ok (.aload_n 2, 1) := by decide +kernel
theorem dL_areJobs_75 : decode cL_areJobs 75 = .ok (.bipush 6, 2) := by decide +kernel
theorem dL_areJobs_77 : decode cL_areJobs 77 = .ok (.iload 4, 2) := by decide +kernel
theorem dL_areJobs_79 : decode cL_areJobs 79 = .ok (.imul, 1) := by decide +kernel
theorem dL_areJobs_80 : decode cL_areJobs 80 = .ok (.iconst 3, 1) := by decide +kernel
theorem dL_areJobs_81 : decode cL_areJobs 81 = .ok (.iadd, 1) := by decide +kernel
theorem dL_areJobs_82 : decode cL_areJobs 82 = .ok (.iaload, 1) := by decide +kernel
theorem dL_areJobs_83 : decode cL_areJobs 83 = .ok (.if_icmp .ne 47, 3) := by decide +kernel
theorem dL_areJobs_86 : decode cL_areJobs 86 = .ok (.aload_n 0, 1) := by decide +kernel
theorem dL_areJobs_87 : decode cL_areJobs 87 = .ok (.iload 4, 2) := by decide +kernel
theorem dL_areJobs_89 : decode cL_areJobs 89 = .ok (.bipush 6, 2) := by decide +kernel
theorem dL_areJobs_91 : decode cL_areJobs 91 = .ok (.invokevirtual 92, 3) := by decide +kernel
theorem dL_areJobs_94 : decode cL_areJobs 94 = .ok (.aload_n 2, 1) := by decide +kernel
theorem dL_areJobs_95 : decode cL_areJobs 95 = .ok (.bipush 6, 2) := by decide +kernel
theorem dL_areJobs_97 : decode cL_areJobs 97 = .ok (.iload 4, 2) := by decide +kernel
theorem dL_areJobs_99 : decode cL_areJobs 99 = .ok (.imul, 1) := by decide +kernel
theorem dL_areJobs_100 : decode cL_areJobs 100 = .ok (.iconst 4, 1) := by decide +kernel
theorem dL_areJobs_101 : decode cL_areJobs 101 = .ok (.iadd, 1) := by decide +kernel
theorem dL_areJobs_102 : decode cL_areJobs 102 = .ok (.iaload, 1) := by decide +kernel
theorem dL_areJobs_103 : decode cL_areJobs 103 = .ok (.if_icmp .ne 27, 3) := by decide +kernel
theorem dL_areJobs_106 : decode cL_areJobs 106 = .ok (.aload_n 0, 1) := by decide +kernel
theorem dL_areJobs_107 : decode cL_areJobs 107 = .ok (.iload 4, 2) := by decide +kernel
theorem dL_areJobs_109 : decode cL_areJobs 109 = .ok (.bipush 7, 2) := by decide +kernel
theorem dL_areJobs_111 : decode cL_areJobs 111 = .ok (.invokevirtual 92, 3) := by decide +kernel
theorem dL_areJobs_114 : decode cL_areJobs 114 = .ok (.aload_n 2, 1) := by decide +kernel
theorem dL_areJobs_115 : decode cL_areJobs 115 = .ok (.bipush 6, 2) := by decide +kernel
theorem dL_areJobs_117 : decode cL_areJobs 117 = .ok (.iload 4, 2) := by decide +kernel
theorem dL_areJobs_119 : decode cL_areJobs 119 = .ok (.imul, 1) := by decide +kernel
theorem dL_areJobs_120 : decode cL_areJobs 120 = .ok (.iconst 5, 1) := by decide +kernel
theorem dL_areJobs_121 : decode cL_areJobs 121 = .ok (.iadd, 1) := by decide +kernel
theorem dL_areJobs_122 : decode cL_areJobs 122 = .ok (.iaload, 1) := by decide +kernel
theorem dL_areJobs_123 : decode cL_areJobs 123 = .ok (.if_icmp .ne 7, 3) := by decide +kernel
theorem dL_areJobs_126 : decode cL_areJobs 126 = .ok (.iconst 1, 1) := by decide +kernel
theorem dL_areJobs_127 : decode cL_areJobs 127 = .ok (.goto 4, 3) := by decide +kernel
theorem dL_areJobs_130 : decode cL_areJobs 130 = .ok (.iconst 0, 1) := by decide +kernel
theorem dL_areJobs_131 : decode cL_areJobs 131 = .ok (.istore 5, 2) := by decide +kernel
theorem dL_areJobs_133 : decode cL_areJobs 133 = .ok (.iload 5, 2) := by decide +kernel
theorem dL_areJobs_135 : decode cL_areJobs 135 = .ok (.ifCond .eq 123, 3) := by decide +kernel
theorem dL_areJobs_138 : decode cL_areJobs 138 = .ok (.aload_n 0, 1) := by decide +kernel
theorem dL_areJobs_139 : decode cL_areJobs 139 = .ok (.iload 4, 2) := by decide +kernel
theorem dL_areJobs_141 : decode cL_areJobs 141 = .ok (.bipush 8, 2) := by decide +kernel
theorem dL_areJobs_143 : decode cL_areJobs 143 = .ok (.invokevirtual 92, 3) := by decide +kernel
theorem dL_areJobs_146 : decode cL_areJobs 146 = .ok (.aload_n 3, 1) := by decide +kernel
theorem dL_areJobs_147 : decode cL_areJobs 147 = .ok (.bipush 6, 2) := by decide +kernel
theorem dL_areJobs_149 : decode cL_areJobs 149 = .ok (.iload 4, 2) := by decide +kernel
theorem dL_areJobs_151 : decode cL_areJobs 151 = .ok (.imul, 1) := by decide +kernel
theorem dL_areJobs_152 : decode cL_areJobs 152 = .ok (.iaload, 1) := by decide +kernel
theorem dL_areJobs_153 : decode cL_areJobs 153 = .ok (.if_icmp .ne 105, 3) := by decide +kernel
theorem dL_areJobs_156 : decode cL_areJobs 156 = .ok (.aload_n 0, 1) := by decide +kernel
theorem dL_areJobs_157 : decode cL_areJobs 157 = .ok (.iload 4, 2) := by decide +kernel
theorem dL_areJobs_159 : decode cL_areJobs 159 = .ok (.bipush 9, 2) := by decide +kernel
theorem dL_areJobs_161 : decode cL_areJobs 161 = .ok (.invokevirtual 92, 3) := by decide +kernel
theorem dL_areJobs_164 : decode cL_areJobs 164 = .ok (.aload_n 3, 1) := by decide +kernel
theorem dL_areJobs_165 : decode cL_areJobs 165 = .ok (.bipush 6, 2) := by decide +kernel
theorem dL_areJobs_167 : decode cL_areJobs 167 = .ok (.iload 4, 2) := by decide +kernel
theorem dL_areJobs_169 : decode cL_areJobs 169 = .ok (.imul, 1) := by decide +kernel
theorem dL_areJobs_170 : decode cL_areJobs 170 = .ok (.iconst 1, 1) := by decide +kernel
theorem dL_areJobs_171 : decode cL_areJobs 171 = .ok (.iadd, 1) := by decide +kernel
theorem dL_areJobs_172 : decode cL_areJobs 172 = .ok (.iaload, 1) := by decide +kernel
theorem dL_areJobs_173 : decode cL_areJobs 173 = .ok (.if_icmp .ne 85, 3) := by decide +kernel
theorem dL_areJobs_176 : decode cL_areJobs 176 = .ok (.aload_n 0, 1) := by decide +kernel
theorem dL_areJobs_177 : decode cL_areJobs 177 = .ok (.iload 4, 2) := by decide +kernel
theorem dL_areJobs_179 : decode cL_areJobs 179 = .ok (.bipush 10, 2) := by decide +kernel
theorem dL_areJobs_181 : decode cL_areJobs 181 = .ok (.invokevirtual 92, 3) := by decide +kernel
theorem dL_areJobs_184 : decode cL_areJobs 184 = .ok (.aload_n 3, 1) := by decide +kernel
theorem dL_areJobs_185 : decode cL_areJobs 185 = .ok (.bipush 6, 2) := by decide +kernel
theorem dL_areJobs_187 : decode cL_areJobs 187 = .ok (.iload 4, 2) := by decide +kernel
theorem dL_areJobs_189 : decode cL_areJobs 189 = .ok (.imul, 1) := by decide +kernel
theorem dL_areJobs_190 : decode cL_areJobs 190 = .ok (.iconst 2, 1) := by decide +kernel
theorem dL_areJobs_191 : decode cL_areJobs 191 = .ok (.iadd, 1) := by decide +kernel
theorem dL_areJobs_192 : decode cL_areJobs 192 = .ok (.iaload, 1) := by decide +kernel
theorem dL_areJobs_193 : decode cL_areJobs 193 = .ok (.if_icmp .ne 65, 3) := by decide +kernel
theorem dL_areJobs_196 : decode cL_areJobs 196 = .ok (.aload_n 0, 1) := by decide +kernel
theorem dL_areJobs_197 : decode cL_areJobs 197 = .ok (.iload 4, 2) := by decide +kernel
theorem dL_areJobs_199 : decode cL_areJobs 199 = .ok (.bipush 11, 2) := by decide +kernel
theorem dL_areJobs_201 : decode cL_areJobs 201 = .ok (.invokevirtual 92, 3) := by decide +kernel
theorem dL_areJobs_204 : decode cL_areJobs 204 = .ok (.aload_n 3, 1) := by decide +kernel
theorem dL_areJobs_205 : decode cL_areJobs 205 = .ok (.bipush 6, 2) := by decide +kernel
theorem dL_areJobs_207 : decode cL_areJobs 207 = .ok (.iload 4, 2) := by decide +kernel
theorem dL_areJobs_209 : decode cL_areJobs 209 = .ok (.imul, 1) := by decide +kernel
theorem dL_areJobs_210 : decode cL_areJobs 210 = .ok (.iconst 3, 1) := by decide +kernel
theorem dL_areJobs_211 : decode cL_areJobs 211 = .ok (.iadd, 1) := by decide +kernel
theorem dL_areJobs_212 : decode cL_areJobs 212 = .ok (.iaload, 1) := by decide +kernel
theorem dL_areJobs_213 : decode cL_areJobs 213 = .ok (.if_icmp .ne 45, 3) := by decide +kernel
theorem dL_areJobs_216 : decode cL_areJobs 216 = .ok (.aload_n 0, 1) := by decide +kernel
theorem dL_areJobs_217 : decode cL_areJobs 217 = .ok (.iload 4, 2) := by decide +kernel
theorem dL_areJobs_219 : decode cL_areJobs 219 = .ok (.iconst 4, 1) := by decide +kernel
theorem dL_areJobs_220 : decode cL_areJobs 220 = .ok (.invokevirtual 92, 3) := by decide +kernel
theorem dL_areJobs_223 : decode cL_areJobs 223 = .ok (.aload_n 3, 1) := by decide +kernel
theorem dL_areJobs_224 : decode cL_areJobs 224 = .ok (.bipush 6, 2) := by decide +kernel
theorem dL_areJobs_226 : decode cL_areJobs 226 = .ok (.iload 4, 2) := by decide +kernel
theorem dL_areJobs_228 : decode cL_areJobs 228 = .ok (.imul, 1) := by decide +kernel
theorem dL_areJobs_229 : decode cL_areJobs 229 = .ok (.iconst 4, 1) := by decide +kernel
theorem dL_areJobs_230 : decode cL_areJobs 230 = .ok (.iadd, 1) := by decide +kernel
theorem dL_areJobs_231 : decode cL_areJobs 231 = .ok (.iaload, 1) := by decide +kernel
theorem dL_areJobs_232 : decode cL_areJobs 232 = .ok (.if_icmp .ne 26, 3) := by decide +kernel
theorem dL_areJobs_235 : decode cL_areJobs 235 = .ok (.aload_n 0, 1) := by decide +kernel
theorem dL_areJobs_236 : decode cL_areJobs 236 = .ok (.iload 4, 2) := by decide +kernel
theorem dL_areJobs_238 : decode cL_areJobs 238 = .ok (.iconst 5, 1) := by decide +kernel
theorem dL_areJobs_239 : decode cL_areJobs 239 = .ok (.invokevirtual 92, 3) := by decide +kernel
theorem dL_areJobs_242 : decode cL_areJobs 242 = .ok (.aload_n 3, 1) := by decide +kernel
theorem dL_areJobs_243 : decode cL_areJobs 243 = .ok (.bipush 6, 2) := by decide +kernel
theorem dL_areJobs_245 : decode cL_areJobs 245 = .ok (.iload 4, 2) := by decide +kernel
theorem dL_areJobs_247 : decode cL_areJobs 247 = .ok (.imul, 1) := by decide +kernel
theorem dL_areJobs_248 : decode cL_areJobs 248 = .ok (.iconst 5, 1) := by decide +kernel
theorem dL_areJobs_249 : decode cL_areJobs 249 = .ok (.iadd, 1) := by decide +kernel
theorem dL_areJobs_250 : decode cL_areJobs 250 = .ok (.iaload, 1) := by decide +kernel
theorem dL_areJobs_251 : decode cL_areJobs 251 = .ok (.if_icmp .ne 7, 3) := by decide +kernel
theorem dL_areJobs_254 : decode cL_areJobs 254 = .ok (.iconst 1, 1) := by decide +kernel
theorem dL_areJobs_255 : decode cL_areJobs 255 = .ok (.goto 4, 3) := by decide +kernel
theorem dL_areJobs_258 : decode cL_areJobs 258 = .ok (.iconst 0, 1) := by decide +kernel
theorem dL_areJobs_259 : decode cL_areJobs 259 = .ok (.istore 5, 2) := by decide +kernel
theorem dL_areJobs_261 : decode cL_areJobs 261 = .ok (.iload 5, 2) := by decide +kernel
theorem dL_areJobs_263 : decode cL_areJobs 263 = .ok (.ifCond .ne 5, 3) := by decide +kernel
theorem dL_areJobs_266 : decode cL_areJobs 266 = .ok (.iconst 0, 1) := by decide +kernel
theorem dL_areJobs_267 : decode cL_areJobs 267 = .ok (.ireturn, 1) := by decide +kernel
theorem dL_areJobs_268 : decode cL_areJobs 268 = .ok (.iinc 4 1, 3) := by decide +kernel
theorem dL_areJobs_271 : decode cL_areJobs 271 = .ok (.goto (-268), 3) := by decide +kernel
theorem dL_areJobs_274 : decode cL_areJobs 274 = .ok (.aload_n 0, 1) := by decide +kernel
theorem dL_areJobs_275 : decode cL_areJobs 275 = .ok (.aload_n 1, 1) := by decide +kernel
theorem dL_areJobs_276 : decode cL_areJobs 276 = .ok (.bipush 11, 2) := by decide +kernel
theorem dL_areJobs_278 : decode cL_areJobs 278 = .ok (.iaload, 1) := by decide +kernel
theorem dL_areJobs_279 : decode cL_areJobs 279 = .ok (.iconst 0, 1) := by decide +kernel
theorem dL_areJobs_280 : decode cL_areJobs 280 = .ok (.invokevirtual 92, 3) := by decide +kernel
theorem dL_areJobs_283 : decode cL_areJobs 283 = .ok (.iconst (-1), 1) := by decide +kernel
theorem dL_areJobs_284 : decode cL_areJobs 284 = .ok (.if_icmp .ne 30, 3) := by decide +kernel
theorem dL_areJobs_287 : decode cL_areJobs 287 = .ok (.aload_n 0, 1) := by decide +kernel
theorem dL_areJobs_288 : decode cL_areJobs 288 = .ok (.iconst 0, 1) := by decide +kernel
theorem dL_areJobs_289 : decode cL_areJobs 289 = .ok (.bipush 12, 2) := by decide +kernel
theorem dL_areJobs_291 : decode cL_areJobs 291 = .ok (.invokevirtual 92, 3) := by decide +kernel
theorem dL_areJobs_294 : decode cL_areJobs 294 = .ok (.aload_n 1, 1) := by decide +kernel
theorem dL_areJobs_295 : decode cL_areJobs 295 = .ok (.bipush 11, 2) := by decide +kernel
theorem dL_areJobs_297 : decode cL_areJobs 297 = .ok (.iaload, 1) := by decide +kernel
theorem dL_areJobs_298 : decode cL_areJobs 298 = .ok (.ifCond .le 8, 3) := by decide +kernel
theorem dL_areJobs_301 : decode cL_areJobs 301 = .ok (.bipush (-2), 2) := by decide +kernel
theorem dL_areJobs_303 : decode cL_areJobs 303 = .ok (.goto 4, 3) := by decide +kernel
theorem dL_areJobs_306 : decode cL_areJobs 306 = .ok (.iconst (-1), 1) := by decide +kernel
theorem dL_areJobs_307 : decode cL_areJobs 307 = .ok (.if_icmp .ne 7, 3) := by decide +kernel
theorem dL_areJobs_310 : decode cL_areJobs 310 = .ok (.iconst 1, 1) := by decide +kernel
theorem dL_areJobs_311 : decode cL_areJobs 311 = .ok (.goto 4, 3) := by decide +kernel
theorem dL_areJobs_314 : decode cL_areJobs 314 = .ok (.iconst 0, 1) := by decide +kernel
theorem dL_areJobs_315 : decode cL_areJobs 315 = .ok (.ireturn, 1) := by decide +kernel
theorem dL_areCounts_0 : decode cL_areCounts 0 = .ok (.iconst 4, 1) := by decide +kernel
theorem dL_areCounts_1 : decode cL_areCounts 1 = .ok (.istore 6, 2) := by decide +kernel
theorem dL_areCounts_3 : decode cL_areCounts 3 = .ok (.iload 6, 2) := by decide +kernel
theorem dL_areCounts_5 : decode cL_areCounts 5 = .ok (.bipush 9, 2) := by decide +kernel
theorem dL_areCounts_7 : decode cL_areCounts 7 = .ok (.if_icmp .ge 70, 3) := by decide +kernel
theorem dL_areCounts_10 : decode cL_areCounts 10 = .ok (.iconst 0, 1) := by decide +kernel
theorem dL_areCounts_11 : decode cL_areCounts 11 = .ok (.istore 7, 2) := by decide +kernel
theorem dL_areCounts_13 : decode cL_areCounts 13 = .ok (.iconst 0, 1) := by decide +kernel
theorem dL_areCounts_14 : decode cL_areCounts 14 = .ok (.istore 8, 2) := by decide +kernel
theorem dL_areCounts_16 : decode cL_areCounts 16 = .ok (.iload 8, 2) := by decide +kernel
theorem dL_areCounts_18 : decode cL_areCounts 18 = .ok (.aload_n 1, 1) := by decide +kernel
theorem dL_areCounts_19 : decode cL_areCounts 19 = .ok (.bipush 11, 2) := by decide +kernel
theorem dL_areCounts_21 : decode cL_areCounts 21 = .ok (.iaload, 1) := by decide +kernel
theorem dL_areCounts_22 : decode cL_areCounts 22 = .ok (.if_icmp .ge 36, 3) := by decide +kernel
theorem dL_areCounts_25 : decode cL_areCounts 25 = .ok (.iload 7, 2) := by decide +kernel
theorem dL_areCounts_27 : decode cL_areCounts 27 = .ok (.aload 4, 2) := by decide +kernel
theorem dL_areCounts_29 : decode cL_areCounts 29 = .ok (.bipush 6, 2) := by decide +kernel
theorem dL_areCounts_31 : decode cL_areCounts 31 = .ok (.iload 8, 2) := by decide +kernel
theorem dL_areCounts_33 : decode cL_areCounts 33 = .ok (.imul, 1) := by decide +kernel
theorem dL_areCounts_34 : decode cL_areCounts 34 = .ok (.iconst 3, 1) := by decide +kernel
theorem dL_areCounts_35 : decode cL_areCounts 35 = .ok (.iadd, 1) := by decide +kernel
theorem dL_areCounts_36 : decode cL_areCounts 36 = .ok (.iaload, 1) := by decide +kernel
theorem dL_areCounts_37 : decode cL_areCounts 37 = .ok (.iload 6, 2) := by decide +kernel
theorem dL_areCounts_39 : decode cL_areCounts 39 = .ok (.iconst 4, 1) := by decide +kernel
theorem dL_areCounts_40 : decode cL_areCounts 40 = .ok (.isub, 1) := by decide +kernel
theorem dL_areCounts_41 : decode cL_areCounts 41 = .ok (.if_icmp .ne 7, 3) := by decide +kernel
theorem dL_areCounts_44 : decode cL_areCounts 44 = .ok (.iconst 1, 1) := by decide +kernel
theorem dL_areCounts_45 : decode cL_areCounts 45 = .ok (.goto 4, 3) := by decide +kernel
theorem dL_areCounts_48 : decode cL_areCounts 48 = .ok (.iconst 0, 1) := by decide +kernel
theorem dL_areCounts_49 : decode cL_areCounts 49 = .ok (.iadd, 1) := by decide +kernel
theorem dL_areCounts_50 : decode cL_areCounts 50 = .ok (.istore 7, 2) := by decide +kernel
theorem dL_areCounts_52 : decode cL_areCounts 52 = .ok (.iinc 8 1, 3) := by decide +kernel
theorem dL_areCounts_55 : decode cL_areCounts 55 = .ok (.goto (-39), 3) := by decide +kernel
theorem dL_areCounts_58 : decode cL_areCounts 58 = .ok (.aload_n 0, 1) := by decide +kernel
theorem dL_areCounts_59 : decode cL_areCounts 59 = .ok (.iload 6, 2) := by decide +kernel
theorem dL_areCounts_61 : decode cL_areCounts 61 = .ok (.invokevirtual 95, 3) := by decide +kernel
theorem dL_areCounts_64 : decode cL_areCounts 64 = .ok (.iload 7, 2) := by decide +kernel
theorem dL_areCounts_66 : decode cL_areCounts 66 = .ok (.if_icmp .eq 5, 3) := by decide +kernel
theorem dL_areCounts_69 : decode cL_areCounts 69 = .ok (.iconst 0, 1) := by decide +kernel
theorem dL_areCounts_70 : decode cL_areCounts 70 = .ok (.ireturn, 1) := by decide +kernel
theorem dL_areCounts_71 : decode cL_areCounts 71 = .ok (.iinc 6 1, 3) := by decide +kernel
theorem dL_areCounts_74 : decode cL_areCounts 74 = .ok (.goto (-71), 3) := by decide +kernel
theorem dL_areCounts_77 : decode cL_areCounts 77 = .ok (.iconst 0, 1) := by decide +kernel
theorem dL_areCounts_78 : decode cL_areCounts 78 = .ok (.istore 6, 2) := by decide +kernel
theorem dL_areCounts_80 : decode cL_areCounts 80 = .ok (.iconst 0, 1) := by decide +kernel
theorem dL_areCounts_81 : decode cL_areCounts 81 = .ok (.istore 7, 2) := by decide +kernel
theorem dL_areCounts_83 : decode cL_areCounts 83 = .ok (.iload 7, 2) := by decide +kernel
theorem dL_areCounts_85 : decode cL_areCounts 85 = .ok (.aload_n 1, 1) := by decide +kernel
theorem dL_areCounts_86 : decode cL_areCounts 86 = .ok (.bipush 9, 2) := by decide +kernel
theorem dL_areCounts_88 : decode cL_areCounts 88 = .ok (.iaload, 1) := by decide +kernel
theorem dL_areCounts_89 : decode cL_areCounts 89 = .ok (.if_icmp .ge 38, 3) := by decide +kernel
theorem dL_areCounts_92 : decode cL_areCounts 92 = .ok (.iload 6, 2) := by decide +kernel
theorem dL_areCounts_94 : decode cL_areCounts 94 = .ok (.aload_n 2, 1) := by decide +kernel
theorem dL_areCounts_95 : decode cL_areCounts 95 = .ok (.bipush 6, 2) := by decide +kernel
theorem dL_areCounts_97 : decode cL_areCounts 97 = .ok (.iload 7, 2) := by decide +kernel
theorem dL_areCounts_99 : decode cL_areCounts 99 = .ok (.imul, 1) := by decide +kernel
theorem dL_areCounts_100 : decode cL_areCounts 100 = .ok (.iaload, 1) := by decide +kernel
theorem dL_areCounts_101 : decode cL_areCounts 101 = .ok (.iconst 1, 1) := by decide +kernel
theorem dL_areCounts_102 : decode cL_areCounts 102 = .ok (.if_icmp .ne 15, 3) := by decide +kernel
theorem dL_areCounts_105 : decode cL_areCounts 105 = .ok (.aload_n 2, 1) := by decide +kernel
theorem dL_areCounts_106 : decode cL_areCounts 106 = .ok (.bipush 6, 2) := by decide +kernel
theorem dL_areCounts_108 : decode cL_areCounts 108 = .ok (.iload 7, 2) := by decide +kernel
theorem dL_areCounts_110 : decode cL_areCounts 110 = .ok (.imul, 1) := by decide +kernel
theorem dL_areCounts_111 : decode cL_areCounts 111 = .ok (.iconst 3, 1) := by decide +kernel
theorem dL_areCounts_112 : decode cL_areCounts 112 = .ok (.iadd, 1) := by decide +kernel
theorem dL_areCounts_113 : decode cL_areCounts 113 = .ok (.iaload, 1) := by decide +kernel
theorem dL_areCounts_114 : decode cL_areCounts 114 = .ok (.goto 4, 3) := by decide +kernel
theorem dL_areCounts_117 : decode cL_areCounts 117 = .ok (.iconst 0, 1) := by decide +kernel
theorem dL_areCounts_118 : decode cL_areCounts 118 = .ok (.iadd, 1) := by decide +kernel
theorem dL_areCounts_119 : decode cL_areCounts 119 = .ok (.istore 6, 2) := by decide +kernel
theorem dL_areCounts_121 : decode cL_areCounts 121 = .ok (.iinc 7 1, 3) := by decide +kernel
theorem dL_areCounts_124 : decode cL_areCounts 124 = .ok (.goto (-41), 3) := by decide +kernel
theorem dL_areCounts_127 : decode cL_areCounts 127 = .ok (.aload_n 0, 1) := by decide +kernel
theorem dL_areCounts_128 : decode cL_areCounts 128 = .ok (.iconst 0, 1) := by decide +kernel
theorem dL_areCounts_129 : decode cL_areCounts 129 = .ok (.invokevirtual 95, 3) := by decide +kernel
theorem dL_areCounts_132 : decode cL_areCounts 132 = .ok (.aload_n 1, 1) := by decide +kernel
theorem dL_areCounts_133 : decode cL_areCounts 133 = .ok (.iconst 0, 1) := by decide +kernel
theorem dL_areCounts_134 : decode cL_areCounts 134 = .ok (.iaload, 1) := by decide +kernel
theorem dL_areCounts_135 : decode cL_areCounts 135 = .ok (.if_icmp .ne 79, 3) := by decide +kernel
theorem dL_areCounts_138 : decode cL_areCounts 138 = .ok (.aload_n 0, 1) := by decide +kernel
theorem dL_areCounts_139 : decode cL_areCounts 139 = .ok (.iconst 1, 1) := by decide +kernel
theorem dL_areCounts_140 : decode cL_areCounts 140 = .ok (.invokevirtual 95, 3) := by decide +kernel
theorem dL_areCounts_143 : decode cL_areCounts 143 = .ok (.aload_n 1, 1) := by decide +kernel
theorem dL_areCounts_144 : decode cL_areCounts 144 = .ok (.iconst 1, 1) := by decide +kernel
theorem dL_areCounts_145 : decode cL_areCounts 145 = .ok (.iaload, 1) := by decide +kernel
theorem dL_areCounts_146 : decode cL_areCounts 146 = .ok (.if_icmp .ne 68, 3) := by decide +kernel
theorem dL_areCounts_149 : decode cL_areCounts 149 = .ok (.aload_n 0, 1) := by decide +kernel
theorem dL_areCounts_150 : decode cL_areCounts 150 = .ok (.iconst 2, 1) := by decide +kernel
theorem dL_areCounts_151 : decode cL_areCounts 151 = .ok (.invokevirtual 95, 3) := by decide +kernel
theorem dL_areCounts_154 : decode cL_areCounts 154 = .ok (.aload_n 1, 1) := by decide +kernel
theorem dL_areCounts_155 : decode cL_areCounts 155 = .ok (.iconst 2, 1) := by decide +kernel
theorem dL_areCounts_156 : decode cL_areCounts 156 = .ok (.iaload, 1) := by decide +kernel
theorem dL_areCounts_157 : decode cL_areCounts 157 = .ok (.if_icmp .ne 57, 3) := by decide +kernel
theorem dL_areCounts_160 : decode cL_areCounts 160 = .ok (.aload_n 0, 1) := by decide +kernel
theorem dL_areCounts_161 : decode cL_areCounts 161 = .ok (.iconst 3, 1) := by decide +kernel
theorem dL_areCounts_162 : decode cL_areCounts 162 = .ok (.invokevirtual 95, 3) := by decide +kernel
theorem dL_areCounts_165 : decode cL_areCounts 165 = .ok (.aload_n 1, 1) := by decide +kernel
theorem dL_areCounts_166 : decode cL_areCounts 166 = .ok (.iconst 3, 1) := by decide +kernel
theorem dL_areCounts_167 : decode cL_areCounts 167 = .ok (.iaload, 1) := by decide +kernel
theorem dL_areCounts_168 : decode cL_areCounts 168 = .ok (.if_icmp .ne 46, 3) := by decide +kernel
theorem dL_areCounts_171 : decode cL_areCounts 171 = .ok (.aload_n 0, 1) := by decide +kernel
theorem dL_areCounts_172 : decode cL_areCounts 172 = .ok (.bipush 9, 2) := by decide +kernel
theorem dL_areCounts_174 : decode cL_areCounts 174 = .ok (.invokevirtual 95, 3) := by decide +kernel
theorem dL_areCounts_177 : decode cL_areCounts 177 = .ok (.aload_n 1, 1) := by decide +kernel
theorem dL_areCounts_178 : decode cL_areCounts 178 = .ok (.bipush 9, 2) := by decide +kernel
theorem dL_areCounts_180 : decode cL_areCounts 180 = .ok (.iaload, 1) := by decide +kernel
theorem dL_areCounts_181 : decode cL_areCounts 181 = .ok (.if_icmp .ne 33, 3) := by decide +kernel
theorem dL_areCounts_184 : decode cL_areCounts 184 = .ok (.aload_n 0, 1) := by decide +kernel
theorem dL_areCounts_185 : decode cL_areCounts 185 = .ok (.bipush 10, 2) := by decide +kernel
theorem dL_areCounts_187 : decode cL_areCounts 187 = .ok (.invokevirtual 95, 3) := by decide +kernel
theorem dL_areCounts_190 : decode cL_areCounts 190 = .ok (.aload_n 1, 1) := by decide +kernel
theorem dL_areCounts_191 : decode cL_areCounts 191 = .ok (.bipush 10, 2) := by decide +kernel
theorem dL_areCounts_193 : decode cL_areCounts 193 = .ok (.iaload, 1) := by decide +kernel
theorem dL_areCounts_194 : decode cL_areCounts 194 = .ok (.if_icmp .ne 20, 3) := by decide +kernel
theorem dL_areCounts_197 : decode cL_areCounts 197 = .ok (.aload_n 0, 1) := by decide +kernel
theorem dL_areCounts_198 : decode cL_areCounts 198 = .ok (.bipush 11, 2) := by decide +kernel
theorem dL_areCounts_200 : decode cL_areCounts 200 = .ok (.invokevirtual 95, 3) := by decide +kernel
theorem dL_areCounts_203 : decode cL_areCounts 203 = .ok (.aload_n 1, 1) := by decide +kernel
theorem dL_areCounts_204 : decode cL_areCounts 204 = .ok (.bipush 12, 2) := by decide +kernel
theorem dL_areCounts_206 : decode cL_areCounts 206 = .ok (.iaload, 1) := by decide +kernel
theorem dL_areCounts_207 : decode cL_areCounts 207 = .ok (.if_icmp .ne 7, 3) := by decide +kernel
theorem dL_areCounts_210 : decode cL_areCounts 210 = .ok (.iconst 1, 1) := by decide +kernel
theorem dL_areCounts_211 : decode cL_areCounts 211 = .ok (.goto 4, 3) := by decide +kernel
theorem dL_areCounts_214 : decode cL_areCounts 214 = .ok (.iconst 0, 1) := by decide +kernel
theorem dL_areCounts_215 : decode cL_areCounts 215 = .ok (.istore 7, 2) := by decide +kernel
theorem dL_areCounts_217 : decode cL_areCounts 217 = .ok (.iload 7, 2) := by decide +kernel
theorem dL_areCounts_219 : decode cL_areCounts 219 = .ok (.ifCond .eq 94, 3) := by decide +kernel
theorem dL_areCounts_222 : decode cL_areCounts 222 = .ok (.aload_n 0, 1) := by decide +kernel
theorem dL_areCounts_223 : decode cL_areCounts 223 = .ok (.bipush 12, 2) := by decide +kernel
theorem dL_areCounts_225 : decode cL_areCounts 225 = .ok (.invokevirtual 95, 3) := by decide +kernel
theorem dL_areCounts_228 : decode cL_areCounts 228 = .ok (.aload_n 1, 1) := by decide +kernel
theorem dL_areCounts_229 : decode cL_areCounts 229 = .ok (.bipush 13, 2) := by decide +kernel
theorem dL_areCounts_231 : decode cL_areCounts 231 = .ok (.iaload, 1) := by decide +kernel
theorem dL_areCounts_232 : decode cL_areCounts 232 = .ok (.if_icmp .ne 81, 3) := by decide +kernel
theorem dL_areCounts_235 : decode cL_areCounts 235 = .ok (.aload_n 0, 1) := by decide +kernel
end
section
theorem dL_areCounts_236 : decode cL_areCounts 236 = .ok (.bipush 13, 2) := by decide +kernel
theorem dL_areCounts_238 : decode cL_areCounts 238 = .ok (.invokevirtual 95, 3) := by decide +kernel
theorem dL_areCounts_241 : decode cL_areCounts 241 = .ok (.aload_n 1, 1) := by decide +kernel
theorem dL_areCounts_242 : decode cL_areCounts 242 = .ok (.bipush 14, 2) := by decide +kernel
theorem dL_areCounts_244 : decode cL_areCounts 244 = .ok (.iaload, 1) := by decide +kernel
theorem dL_areCounts_245 : decode cL_areCounts 245 = .ok (.if_icmp .ne 68, 3) := by decide +kernel
theorem dL_areCounts_248 : decode cL_areCounts 248 = .ok (.aload_n 0, 1) := by decide +kernel
theorem dL_areCounts_249 : decode cL_areCounts 249 = .ok (.bipush 14, 2) := by decide +kernel
theorem dL_areCounts_251 : decode cL_areCounts 251 = .ok (.invokevirtual 95, 3) := by decide +kernel
theorem dL_areCounts_254 : decode cL_areCounts 254 = .ok (.aload_n 1, 1) := by decide +kernel
theorem dL_areCounts_255 : decode cL_areCounts 255 = .ok (.bipush 15, 2) := by decide +kernel
theorem dL_areCounts_257 : decode cL_areCounts 257 = .ok (.iaload, 1) := by decide +kernel
theorem dL_areCounts_258 : decode cL_areCounts 258 = .ok (.if_icmp .ne 55, 3) := by decide +kernel
theorem dL_areCounts_261 : decode cL_areCounts 261 = .ok (.aload_n 0, 1) := by decide +kernel
theorem dL_areCounts_262 : decode cL_areCounts 262 = .ok (.bipush 15, 2) := by decide +kernel
theorem dL_areCounts_264 : decode cL_areCounts 264 = .ok (.invokevirtual 95, 3) := by decide +kernel
theorem dL_areCounts_267 : decode cL_areCounts 267 = .ok (.aload_n 1, 1) := by decide +kernel
theorem dL_areCounts_268 : decode cL_areCounts 268 = .ok (.bipush 16, 2) := by decide +kernel
theorem dL_areCounts_270 : decode cL_areCounts 270 = .ok (.iaload, 1) := by decide +kernel
theorem dL_areCounts_271 : decode cL_areCounts 271 = .ok (.if_icmp .ne 42, 3) := by decide +kernel
theorem dL_areCounts_274 : decode cL_areCounts 274 = .ok (.aload_n 0, 1) := by decide +kernel
theorem dL_areCounts_275 : decode cL_areCounts 275 = .ok (.bipush 16, 2) := by decide +kernel
theorem dL_areCounts_277 : decode cL_areCounts 277 = .ok (.invokevirtual 95, 3) := by decide +kernel
theorem dL_areCounts_280 : decode cL_areCounts 280 = .ok (.aload_n 1, 1) := by decide +kernel
theorem dL_areCounts_281 : decode cL_areCounts 281 = .ok (.bipush 17, 2) := by decide +kernel
theorem dL_areCounts_283 : decode cL_areCounts 283 = .ok (.iaload, 1) := by decide +kernel
theorem dL_areCounts_284 : decode cL_areCounts 284 = .ok (.if_icmp .ne 29, 3) := by decide +kernel
theorem dL_areCounts_287 : decode cL_areCounts 287 = .ok (.aload_n 0, 1) := by decide +kernel
theorem dL_areCounts_288 : decode cL_areCounts 288 = .ok (.bipush 17, 2) := by decide +kernel
theorem dL_areCounts_290 : decode cL_areCounts 290 = .ok (.invokevirtual 95, 3) := by decide +kernel
theorem dL_areCounts_293 : decode cL_areCounts 293 = .ok (.iload 6, 2) := by decide +kernel
theorem dL_areCounts_295 : decode cL_areCounts 295 = .ok (.if_icmp .ne 18, 3) := by decide +kernel
theorem dL_areCounts_298 : decode cL_areCounts 298 = .ok (.aload_n 0, 1) := by decide +kernel
theorem dL_areCounts_299 : decode cL_areCounts 299 = .ok (.bipush 20, 2) := by decide +kernel
theorem dL_areCounts_301 : decode cL_areCounts 301 = .ok (.invokevirtual 95, 3) := by decide +kernel
theorem dL_areCounts_304 : decode cL_areCounts 304 = .ok (.bipush (-2), 2) := by decide +kernel
theorem dL_areCounts_306 : decode cL_areCounts 306 = .ok (.if_icmp .ne 7, 3) := by decide +kernel
theorem dL_areCounts_309 : decode cL_areCounts 309 = .ok (.iconst 1, 1) := by decide +kernel
theorem dL_areCounts_310 : decode cL_areCounts 310 = .ok (.goto 4, 3) := by decide +kernel
theorem dL_areCounts_313 : decode cL_areCounts 313 = .ok (.iconst 0, 1) := by decide +kernel
theorem dL_areCounts_314 : decode cL_areCounts 314 = .ok (.istore 7, 2) := by decide +kernel
theorem dL_areCounts_316 : decode cL_areCounts 316 = .ok (.iload 7, 2) := by decide +kernel
theorem dL_areCounts_318 : decode cL_areCounts 318 = .ok (.ifCond .eq 24, 3) := by decide +kernel
theorem dL_areCounts_321 : decode cL_areCounts 321 = .ok (.aload_n 0, 1) := by decide +kernel
theorem dL_areCounts_322 : decode cL_areCounts 322 = .ok (.invokevirtual 98, 3) := by decide +kernel
theorem dL_areCounts_325 : decode cL_areCounts 325 = .ok (.aload_n 1, 1) := by decide +kernel
theorem dL_areCounts_326 : decode cL_areCounts 326 = .ok (.aload_n 2, 1) := by decide +kernel
theorem dL_areCounts_327 : decode cL_areCounts 327 = .ok (.aload_n 3, 1) := by decide +kernel
theorem dL_areCounts_328 : decode cL_areCounts 328 = .ok (.aload 4, 2) := by decide +kernel
theorem dL_areCounts_330 : decode cL_areCounts 330 = .ok (.aload 5, 2) := by decide +kernel
theorem dL_areCounts_332 : decode cL_areCounts 332 = .ok (.invokestatic 59, 3) := by decide +kernel
theorem dL_areCounts_335 : decode cL_areCounts 335 = .ok (.if_icmp .ne 7, 3) := by decide +kernel
theorem dL_areCounts_338 : decode cL_areCounts 338 = .ok (.iconst 1, 1) := by decide +kernel
theorem dL_areCounts_339 : decode cL_areCounts 339 = .ok (.goto 4, 3) := by decide +kernel
theorem dL_areCounts_342 : decode cL_areCounts 342 = .ok (.iconst 0, 1) := by decide +kernel
theorem dL_areCounts_343 : decode cL_areCounts 343 = .ok (.ireturn, 1) := by decide +kernel
theorem dL_adds_0 : decode cL_adds 0 = .ok (.iload_n 3, 1) := by decide +kernel
theorem dL_adds_1 : decode cL_adds 1 = .ok (.bipush 24, 2) := by decide +kernel
theorem dL_adds_3 : decode cL_adds 3 = .ok (.invokestatic 102, 3) := by decide +kernel
theorem dL_adds_6 : decode cL_adds 6 = .ok (.istore 4, 2) := by decide +kernel
theorem dL_adds_8 : decode cL_adds 8 = .ok (.iload_n 3, 1) := by decide +kernel
theorem dL_adds_9 : decode cL_adds 9 = .ok (.bipush 6, 2) := by decide +kernel
theorem dL_adds_11 : decode cL_adds 11 = .ok (.ishr, 1) := by decide +kernel
theorem dL_adds_12 : decode cL_adds 12 = .ok (.iconst 3, 1) := by decide +kernel
theorem dL_adds_13 : decode cL_adds 13 = .ok (.invokestatic 102, 3) := by decide +kernel
theorem dL_adds_16 : decode cL_adds 16 = .ok (.ifCond .ne 7, 3) := by decide +kernel
theorem dL_adds_19 : decode cL_adds 19 = .ok (.iconst 1, 1) := by decide +kernel
theorem dL_adds_20 : decode cL_adds 20 = .ok (.goto 4, 3) := by decide +kernel
theorem dL_adds_23 : decode cL_adds 23 = .ok (.iconst 0, 1) := by decide +kernel
theorem dL_adds_24 : decode cL_adds 24 = .ok (.istore 5, 2) := by decide +kernel
theorem dL_adds_26 : decode cL_adds 26 = .ok (.iconst 1, 1) := by decide +kernel
theorem dL_adds_27 : decode cL_adds 27 = .ok (.iload_n 3, 1) := by decide +kernel
theorem dL_adds_28 : decode cL_adds 28 = .ok (.bipush 9, 2) := by decide +kernel
theorem dL_adds_30 : decode cL_adds 30 = .ok (.ishr, 1) := by decide +kernel
theorem dL_adds_31 : decode cL_adds 31 = .ok (.iconst 3, 1) := by decide +kernel
theorem dL_adds_32 : decode cL_adds 32 = .ok (.invokestatic 102, 3) := by decide +kernel
theorem dL_adds_35 : decode cL_adds 35 = .ok (.iadd, 1) := by decide +kernel
theorem dL_adds_36 : decode cL_adds 36 = .ok (.istore 6, 2) := by decide +kernel
theorem dL_adds_38 : decode cL_adds 38 = .ok (.iload_n 3, 1) := by decide +kernel
theorem dL_adds_39 : decode cL_adds 39 = .ok (.bipush 9, 2) := by decide +kernel
theorem dL_adds_41 : decode cL_adds 41 = .ok (.ishr, 1) := by decide +kernel
theorem dL_adds_42 : decode cL_adds 42 = .ok (.bipush 9, 2) := by decide +kernel
theorem dL_adds_44 : decode cL_adds 44 = .ok (.invokestatic 102, 3) := by decide +kernel
theorem dL_adds_47 : decode cL_adds 47 = .ok (.istore 7, 2) := by decide +kernel
theorem dL_adds_49 : decode cL_adds 49 = .ok (.aload_n 1, 1) := by decide +kernel
theorem dL_adds_50 : decode cL_adds 50 = .ok (.aload_n 2, 1) := by decide +kernel
theorem dL_adds_51 : decode cL_adds 51 = .ok (.iload 4, 2) := by decide +kernel
theorem dL_adds_53 : decode cL_adds 53 = .ok (.invokestatic 23, 3) := by decide +kernel
theorem dL_adds_56 : decode cL_adds 56 = .ok (.ifCond .lt 8, 3) := by decide +kernel
theorem dL_adds_59 : decode cL_adds 59 = .ok (.bipush (-4), 2) := by decide +kernel
theorem dL_adds_61 : decode cL_adds 61 = .ok (.goto 7, 3) := by decide +kernel
theorem dL_adds_64 : decode cL_adds 64 = .ok (.aload_n 1, 1) := by decide +kernel
theorem dL_adds_65 : decode cL_adds 65 = .ok (.bipush 9, 2) := by decide +kernel
theorem dL_adds_67 : decode cL_adds 67 = .ok (.iaload, 1) := by decide +kernel
theorem dL_adds_68 : decode cL_adds 68 = .ok (.istore 8, 2) := by decide +kernel
theorem dL_adds_70 : decode cL_adds 70 = .ok (.aload_n 1, 1) := by decide +kernel
theorem dL_adds_71 : decode cL_adds 71 = .ok (.iconst 3, 1) := by decide +kernel
theorem dL_adds_72 : decode cL_adds 72 = .ok (.iaload, 1) := by decide +kernel
theorem dL_adds_73 : decode cL_adds 73 = .ok (.ifCond .ge 12, 3) := by decide +kernel
theorem dL_adds_76 : decode cL_adds 76 = .ok (.aload_n 1, 1) := by decide +kernel
theorem dL_adds_77 : decode cL_adds 77 = .ok (.bipush 9, 2) := by decide +kernel
theorem dL_adds_79 : decode cL_adds 79 = .ok (.iaload, 1) := by decide +kernel
theorem dL_adds_80 : decode cL_adds 80 = .ok (.bipush 8, 2) := by decide +kernel
theorem dL_adds_82 : decode cL_adds 82 = .ok (.if_icmp .ne 66, 3) := by decide +kernel
theorem dL_adds_85 : decode cL_adds 85 = .ok (.aload_n 0, 1) := by decide +kernel
theorem dL_adds_86 : decode cL_adds 86 = .ok (.bipush 24, 2) := by decide +kernel
theorem dL_adds_88 : decode cL_adds 88 = .ok (.iload 7, 2) := by decide +kernel
theorem dL_adds_90 : decode cL_adds 90 = .ok (.invokestatic 73, 3) := by decide +kernel
theorem dL_adds_93 : decode cL_adds 93 = .ok (.invokevirtual 105, 3) := by decide +kernel
theorem dL_adds_96 : decode cL_adds 96 = .ok (.iconst (-1), 1) := by decide +kernel
theorem dL_adds_97 : decode cL_adds 97 = .ok (.if_icmp .ne 49, 3) := by decide +kernel
theorem dL_adds_100 : decode cL_adds 100 = .ok (.aload_n 0, 1) := by decide +kernel
theorem dL_adds_101 : decode cL_adds 101 = .ok (.iload 4, 2) := by decide +kernel
theorem dL_adds_103 : decode cL_adds 103 = .ok (.bipush 12, 2) := by decide +kernel
theorem dL_adds_105 : decode cL_adds 105 = .ok (.invokestatic 73, 3) := by decide +kernel
theorem dL_adds_108 : decode cL_adds 108 = .ok (.invokevirtual 105, 3) := by decide +kernel
theorem dL_adds_111 : decode cL_adds 111 = .ok (.bipush (-2), 2) := by decide +kernel
theorem dL_adds_113 : decode cL_adds 113 = .ok (.if_icmp .ne 33, 3) := by decide +kernel
theorem dL_adds_116 : decode cL_adds 116 = .ok (.aload_n 0, 1) := by decide +kernel
theorem dL_adds_117 : decode cL_adds 117 = .ok (.iload 4, 2) := by decide +kernel
theorem dL_adds_119 : decode cL_adds 119 = .ok (.ldc 108, 2) := by decide +kernel
theorem dL_adds_121 : decode cL_adds 121 = .ok (.invokevirtual 105, 3) := by decide +kernel
theorem dL_adds_124 : decode cL_adds 124 = .ok (.bipush (-2), 2) := by decide +kernel
theorem dL_adds_126 : decode cL_adds 126 = .ok (.if_icmp .ne 20, 3) := by decide +kernel
theorem dL_adds_129 : decode cL_adds 129 = .ok (.aload_n 0, 1) := by decide +kernel
theorem dL_adds_130 : decode cL_adds 130 = .ok (.iload 4, 2) := by decide +kernel
theorem dL_adds_132 : decode cL_adds 132 = .ok (.bipush 51, 2) := by decide +kernel
theorem dL_adds_134 : decode cL_adds 134 = .ok (.invokevirtual 109, 3) := by decide +kernel
theorem dL_adds_137 : decode cL_adds 137 = .ok (.bipush (-2), 2) := by decide +kernel
theorem dL_adds_139 : decode cL_adds 139 = .ok (.if_icmp .ne 7, 3) := by decide +kernel
theorem dL_adds_142 : decode cL_adds 142 = .ok (.iconst 1, 1) := by decide +kernel
theorem dL_adds_143 : decode cL_adds 143 = .ok (.goto 4, 3) := by decide +kernel
theorem dL_adds_146 : decode cL_adds 146 = .ok (.iconst 0, 1) := by decide +kernel
theorem dL_adds_147 : decode cL_adds 147 = .ok (.ireturn, 1) := by decide +kernel
theorem dL_adds_148 : decode cL_adds 148 = .ok (.iload 5, 2) := by decide +kernel
theorem dL_adds_150 : decode cL_adds 150 = .ok (.ifCond .eq 14, 3) := by decide +kernel
theorem dL_adds_153 : decode cL_adds 153 = .ok (.aload_n 0, 1) := by decide +kernel
theorem dL_adds_154 : decode cL_adds 154 = .ok (.iload 4, 2) := by decide +kernel
theorem dL_adds_156 : decode cL_adds 156 = .ok (.iload 6, 2) := by decide +kernel
theorem dL_adds_158 : decode cL_adds 158 = .ok (.invokevirtual 109, 3) := by decide +kernel
theorem dL_adds_161 : decode cL_adds 161 = .ok (.goto 14, 3) := by decide +kernel
theorem dL_adds_164 : decode cL_adds 164 = .ok (.aload_n 0, 1) := by decide +kernel
theorem dL_adds_165 : decode cL_adds 165 = .ok (.iload 4, 2) := by decide +kernel
theorem dL_adds_167 : decode cL_adds 167 = .ok (.iload 7, 2) := by decide +kernel
theorem dL_adds_169 : decode cL_adds 169 = .ok (.invokestatic 73, 3) := by decide +kernel
theorem dL_adds_172 : decode cL_adds 172 = .ok (.invokevirtual 105, 3) := by decide +kernel
theorem dL_adds_175 : decode cL_adds 175 = .ok (.istore 9, 2) := by decide +kernel
theorem dL_adds_177 : decode cL_adds 177 = .ok (.iload 8, 2) := by decide +kernel
theorem dL_adds_179 : decode cL_adds 179 = .ok (.ifCond .lt 87, 3) := by decide +kernel
theorem dL_adds_182 : decode cL_adds 182 = .ok (.aload_n 2, 1) := by decide +kernel
theorem dL_adds_183 : decode cL_adds 183 = .ok (.bipush 6, 2) := by decide +kernel
theorem dL_adds_185 : decode cL_adds 185 = .ok (.aload_n 1, 1) := by decide +kernel
theorem dL_adds_186 : decode cL_adds 186 = .ok (.bipush 9, 2) := by decide +kernel
theorem dL_adds_188 : decode cL_adds 188 = .ok (.iaload, 1) := by decide +kernel
theorem dL_adds_189 : decode cL_adds 189 = .ok (.imul, 1) := by decide +kernel
theorem dL_adds_190 : decode cL_adds 190 = .ok (.iload 5, 2) := by decide +kernel
theorem dL_adds_192 : decode cL_adds 192 = .ok (.ifCond .eq 7, 3) := by decide +kernel
theorem dL_adds_195 : decode cL_adds 195 = .ok (.iconst 1, 1) := by decide +kernel
theorem dL_adds_196 : decode cL_adds 196 = .ok (.goto 4, 3) := by decide +kernel
theorem dL_adds_199 : decode cL_adds 199 = .ok (.iconst 0, 1) := by decide +kernel
theorem dL_adds_200 : decode cL_adds 200 = .ok (.iastore, 1) := by decide +kernel
theorem dL_adds_201 : decode cL_adds 201 = .ok (.aload_n 2, 1) := by decide +kernel
theorem dL_adds_202 : decode cL_adds 202 = .ok (.bipush 6, 2) := by decide +kernel
theorem dL_adds_204 : decode cL_adds 204 = .ok (.aload_n 1, 1) := by decide +kernel
theorem dL_adds_205 : decode cL_adds 205 = .ok (.bipush 9, 2) := by decide +kernel
theorem dL_adds_207 : decode cL_adds 207 = .ok (.iaload, 1) := by decide +kernel
theorem dL_adds_208 : decode cL_adds 208 = .ok (.imul, 1) := by decide +kernel
theorem dL_adds_209 : decode cL_adds 209 = .ok (.iconst 1, 1) := by decide +kernel
theorem dL_adds_210 : decode cL_adds 210 = .ok (.iadd, 1) := by decide +kernel
theorem dL_adds_211 : decode cL_adds 211 = .ok (.iload 4, 2) := by decide +kernel
theorem dL_adds_213 : decode cL_adds 213 = .ok (.iastore, 1) := by decide +kernel
theorem dL_adds_214 : decode cL_adds 214 = .ok (.aload_n 2, 1) := by decide +kernel
theorem dL_adds_215 : decode cL_adds 215 = .ok (.bipush 6, 2) := by decide +kernel
theorem dL_adds_217 : decode cL_adds 217 = .ok (.aload_n 1, 1) := by decide +kernel
theorem dL_adds_218 : decode cL_adds 218 = .ok (.bipush 9, 2) := by decide +kernel
theorem dL_adds_220 : decode cL_adds 220 = .ok (.iaload, 1) := by decide +kernel
theorem dL_adds_221 : decode cL_adds 221 = .ok (.imul, 1) := by decide +kernel
theorem dL_adds_222 : decode cL_adds 222 = .ok (.iconst 3, 1) := by decide +kernel
theorem dL_adds_223 : decode cL_adds 223 = .ok (.iadd, 1) := by decide +kernel
theorem dL_adds_224 : decode cL_adds 224 = .ok (.iload 5, 2) := by decide +kernel
theorem dL_adds_226 : decode cL_adds 226 = .ok (.ifCond .eq 8, 3) := by decide +kernel
theorem dL_adds_229 : decode cL_adds 229 = .ok (.iload 6, 2) := by decide +kernel
theorem dL_adds_231 : decode cL_adds 231 = .ok (.goto 4, 3) := by decide +kernel
theorem dL_adds_234 : decode cL_adds 234 = .ok (.iconst 0, 1) := by decide +kernel
theorem dL_adds_235 : decode cL_adds 235 = .ok (.iastore, 1) := by decide +kernel
theorem dL_adds_236 : decode cL_adds 236 = .ok (.aload_n 2, 1) := by decide +kernel
theorem dL_adds_237 : decode cL_adds 237 = .ok (.bipush 6, 2) := by decide +kernel
theorem dL_adds_239 : decode cL_adds 239 = .ok (.aload_n 1, 1) := by decide +kernel
theorem dL_adds_240 : decode cL_adds 240 = .ok (.bipush 9, 2) := by decide +kernel
theorem dL_adds_242 : decode cL_adds 242 = .ok (.iaload, 1) := by decide +kernel
theorem dL_adds_243 : decode cL_adds 243 = .ok (.imul, 1) := by decide +kernel
theorem dL_adds_244 : decode cL_adds 244 = .ok (.iconst 4, 1) := by decide +kernel
theorem dL_adds_245 : decode cL_adds 245 = .ok (.iadd, 1) := by decide +kernel
theorem dL_adds_246 : decode cL_adds 246 = .ok (.iload 5, 2) := by decide +kernel
theorem dL_adds_248 : decode cL_adds 248 = .ok (.ifCond .eq 7, 3) := by decide +kernel
theorem dL_adds_251 : decode cL_adds 251 = .ok (.iconst 0, 1) := by decide +kernel
theorem dL_adds_252 : decode cL_adds 252 = .ok (.goto 5, 3) := by decide +kernel
theorem dL_adds_255 : decode cL_adds 255 = .ok (.iload 7, 2) := by decide +kernel
theorem dL_adds_257 : decode cL_adds 257 = .ok (.iastore, 1) := by decide +kernel
theorem dL_adds_258 : decode cL_adds 258 = .ok (.aload_n 1, 1) := by decide +kernel
theorem dL_adds_259 : decode cL_adds 259 = .ok (.bipush 9, 2) := by decide +kernel
theorem dL_adds_261 : decode cL_adds 261 = .ok (.dup2, 1) := by decide +kernel
theorem dL_adds_262 : decode cL_adds 262 = .ok (.iaload, 1) := by decide +kernel
theorem dL_adds_263 : decode cL_adds 263 = .ok (.iconst 1, 1) := by decide +kernel
theorem dL_adds_264 : decode cL_adds 264 = .ok (.iadd, 1) := by decide +kernel
theorem dL_adds_265 : decode cL_adds 265 = .ok (.iastore, 1) := by decide +kernel
theorem dL_adds_266 : decode cL_adds 266 = .ok (.iload 9, 2) := by decide +kernel
theorem dL_adds_268 : decode cL_adds 268 = .ok (.iload 8, 2) := by decide +kernel
theorem dL_adds_270 : decode cL_adds 270 = .ok (.if_icmp .ne 7, 3) := by decide +kernel
theorem dL_adds_273 : decode cL_adds 273 = .ok (.iconst 1, 1) := by decide +kernel
theorem dL_adds_274 : decode cL_adds 274 = .ok (.goto 4, 3) := by decide +kernel
theorem dL_adds_277 : decode cL_adds 277 = .ok (.iconst 0, 1) := by decide +kernel
theorem dL_adds_278 : decode cL_adds 278 = .ok (.ireturn, 1) := by decide +kernel
theorem dL_builds_0 : decode cL_builds 0 = .ok (.iload 4, 2) := by decide +kernel
theorem dL_builds_2 : decode cL_builds 2 = .ok (.bipush 24, 2) := by decide +kernel
theorem dL_builds_4 : decode cL_builds 4 = .ok (.invokestatic 102, 3) := by decide +kernel
theorem dL_builds_7 : decode cL_builds 7 = .ok (.istore 5, 2) := by decide +kernel
theorem dL_builds_9 : decode cL_builds 9 = .ok (.aload_n 1, 1) := by decide +kernel
theorem dL_builds_10 : decode cL_builds 10 = .ok (.bipush 10, 2) := by decide +kernel
theorem dL_builds_12 : decode cL_builds 12 = .ok (.iaload, 1) := by decide +kernel
theorem dL_builds_13 : decode cL_builds 13 = .ok (.istore 6, 2) := by decide +kernel
theorem dL_builds_15 : decode cL_builds 15 = .ok (.iconst 0, 1) := by decide +kernel
theorem dL_builds_16 : decode cL_builds 16 = .ok (.istore 7, 2) := by decide +kernel
theorem dL_builds_18 : decode cL_builds 18 = .ok (.iload 7, 2) := by decide +kernel
theorem dL_builds_20 : decode cL_builds 20 = .ok (.aload_n 1, 1) := by decide +kernel
theorem dL_builds_21 : decode cL_builds 21 = .ok (.bipush 10, 2) := by decide +kernel
theorem dL_builds_23 : decode cL_builds 23 = .ok (.iaload, 1) := by decide +kernel
theorem dL_builds_24 : decode cL_builds 24 = .ok (.if_icmp .ge 30, 3) := by decide +kernel
theorem dL_builds_27 : decode cL_builds 27 = .ok (.aload_n 2, 1) := by decide +kernel
theorem dL_builds_28 : decode cL_builds 28 = .ok (.bipush 7, 2) := by decide +kernel
theorem dL_builds_30 : decode cL_builds 30 = .ok (.iload 7, 2) := by decide +kernel
theorem dL_builds_32 : decode cL_builds 32 = .ok (.imul, 1) := by decide +kernel
theorem dL_builds_33 : decode cL_builds 33 = .ok (.iaload, 1) := by decide +kernel
theorem dL_builds_34 : decode cL_builds 34 = .ok (.iload 5, 2) := by decide +kernel
theorem dL_builds_36 : decode cL_builds 36 = .ok (.if_icmp .ne 8, 3) := by decide +kernel
theorem dL_builds_39 : decode cL_builds 39 = .ok (.bipush (-4), 2) := by decide +kernel
theorem dL_builds_41 : decode cL_builds 41 = .ok (.goto 5, 3) := by decide +kernel
theorem dL_builds_44 : decode cL_builds 44 = .ok (.iload 6, 2) := by decide +kernel
theorem dL_builds_46 : decode cL_builds 46 = .ok (.istore 6, 2) := by decide +kernel
theorem dL_builds_48 : decode cL_builds 48 = .ok (.iinc 7 1, 3) := by decide +kernel
theorem dL_builds_51 : decode cL_builds 51 = .ok (.goto (-33), 3) := by decide +kernel
theorem dL_builds_54 : decode cL_builds 54 = .ok (.iload 6, 2) := by decide +kernel
theorem dL_builds_56 : decode cL_builds 56 = .ok (.iconst 4, 1) := by decide +kernel
theorem dL_builds_57 : decode cL_builds 57 = .ok (.if_icmp .ne 8, 3) := by decide +kernel
theorem dL_builds_60 : decode cL_builds 60 = .ok (.bipush (-3), 2) := by decide +kernel
theorem dL_builds_62 : decode cL_builds 62 = .ok (.goto 5, 3) := by decide +kernel
theorem dL_builds_65 : decode cL_builds 65 = .ok (.iload 6, 2) := by decide +kernel
theorem dL_builds_67 : decode cL_builds 67 = .ok (.istore 6, 2) := by decide +kernel
theorem dL_builds_69 : decode cL_builds 69 = .ok (.iload 6, 2) := by decide +kernel
theorem dL_builds_71 : decode cL_builds 71 = .ok (.ifCond .lt 48, 3) := by decide +kernel
theorem dL_builds_74 : decode cL_builds 74 = .ok (.bipush 7, 2) := by decide +kernel
theorem dL_builds_76 : decode cL_builds 76 = .ok (.aload_n 1, 1) := by decide +kernel
theorem dL_builds_77 : decode cL_builds 77 = .ok (.bipush 10, 2) := by decide +kernel
theorem dL_builds_79 : decode cL_builds 79 = .ok (.iaload, 1) := by decide +kernel
theorem dL_builds_80 : decode cL_builds 80 = .ok (.imul, 1) := by decide +kernel
theorem dL_builds_81 : decode cL_builds 81 = .ok (.istore 7, 2) := by decide +kernel
theorem dL_builds_83 : decode cL_builds 83 = .ok (.aload_n 2, 1) := by decide +kernel
theorem dL_builds_84 : decode cL_builds 84 = .ok (.iload 7, 2) := by decide +kernel
theorem dL_builds_86 : decode cL_builds 86 = .ok (.iload 5, 2) := by decide +kernel
theorem dL_builds_88 : decode cL_builds 88 = .ok (.iastore, 1) := by decide +kernel
theorem dL_builds_89 : decode cL_builds 89 = .ok (.aload_n 3, 1) := by decide +kernel
theorem dL_builds_90 : decode cL_builds 90 = .ok (.iconst 2, 1) := by decide +kernel
theorem dL_builds_91 : decode cL_builds 91 = .ok (.aload_n 1, 1) := by decide +kernel
theorem dL_builds_92 : decode cL_builds 92 = .ok (.bipush 10, 2) := by decide +kernel
theorem dL_builds_94 : decode cL_builds 94 = .ok (.iaload, 1) := by decide +kernel
theorem dL_builds_95 : decode cL_builds 95 = .ok (.imul, 1) := by decide +kernel
theorem dL_builds_96 : decode cL_builds 96 = .ok (.iconst 1, 1) := by decide +kernel
theorem dL_builds_97 : decode cL_builds 97 = .ok (.iadd, 1) := by decide +kernel
theorem dL_builds_98 : decode cL_builds 98 = .ok (.ldc2_w 112, 3) := by decide +kernel
theorem dL_builds_101 : decode cL_builds 101 = .ok (.dastore, 1) := by decide +kernel
theorem dL_builds_102 : decode cL_builds 102 = .ok (.aload_n 2, 1) := by decide +kernel
theorem dL_builds_103 : decode cL_builds 103 = .ok (.iload 7, 2) := by decide +kernel
theorem dL_builds_105 : decode cL_builds 105 = .ok (.bipush 6, 2) := by decide +kernel
theorem dL_builds_107 : decode cL_builds 107 = .ok (.iadd, 1) := by decide +kernel
theorem dL_builds_108 : decode cL_builds 108 = .ok (.bipush (-5), 2) := by decide +kernel
theorem dL_builds_110 : decode cL_builds 110 = .ok (.iastore, 1) := by decide +kernel
theorem dL_builds_111 : decode cL_builds 111 = .ok (.aload_n 1, 1) := by decide +kernel
theorem dL_builds_112 : decode cL_builds 112 = .ok (.bipush 10, 2) := by decide +kernel
theorem dL_builds_114 : decode cL_builds 114 = .ok (.dup2, 1) := by decide +kernel
theorem dL_builds_115 : decode cL_builds 115 = .ok (.iaload, 1) := by decide +kernel
theorem dL_builds_116 : decode cL_builds 116 = .ok (.iconst 1, 1) := by decide +kernel
theorem dL_builds_117 : decode cL_builds 117 = .ok (.iadd, 1) := by decide +kernel
theorem dL_builds_118 : decode cL_builds 118 = .ok (.iastore, 1) := by decide +kernel
theorem dL_builds_119 : decode cL_builds 119 = .ok (.aload_n 0, 1) := by decide +kernel
theorem dL_builds_120 : decode cL_builds 120 = .ok (.iload 5, 2) := by decide +kernel
theorem dL_builds_122 : decode cL_builds 122 = .ok (.invokevirtual 114, 3) := by decide +kernel
theorem dL_builds_125 : decode cL_builds 125 = .ok (.iload 6, 2) := by decide +kernel
theorem dL_builds_127 : decode cL_builds 127 = .ok (.if_icmp .ne 17, 3) := by decide +kernel
theorem dL_builds_130 : decode cL_builds 130 = .ok (.aload_n 0, 1) := by decide +kernel
theorem dL_builds_131 : decode cL_builds 131 = .ok (.bipush 24, 2) := by decide +kernel
theorem dL_builds_133 : decode cL_builds 133 = .ok (.invokevirtual 114, 3) := by decide +kernel
theorem dL_builds_136 : decode cL_builds 136 = .ok (.iconst (-1), 1) := by decide +kernel
theorem dL_builds_137 : decode cL_builds 137 = .ok (.if_icmp .ne 7, 3) := by decide +kernel
theorem dL_builds_140 : decode cL_builds 140 = .ok (.iconst 1, 1) := by decide +kernel
theorem dL_builds_141 : decode cL_builds 141 = .ok (.goto 4, 3) := by decide +kernel
theorem dL_builds_144 : decode cL_builds 144 = .ok (.iconst 0, 1) := by decide +kernel
theorem dL_builds_145 : decode cL_builds 145 = .ok (.ireturn, 1) := by decide +kernel
theorem dL_gives_0 : decode cL_gives 0 = .ok (.iload 5, 2) := by decide +kernel
theorem dL_gives_2 : decode cL_gives 2 = .ok (.bipush 20, 2) := by decide +kernel
theorem dL_gives_4 : decode cL_gives 4 = .ok (.ishr, 1) := by decide +kernel
theorem dL_gives_5 : decode cL_gives 5 = .ok (.iconst 4, 1) := by decide +kernel
theorem dL_gives_6 : decode cL_gives 6 = .ok (.invokestatic 102, 3) := by decide +kernel
theorem dL_gives_9 : decode cL_gives 9 = .ok (.istore 6, 2) := by decide +kernel
theorem dL_gives_11 : decode cL_gives 11 = .ok (.iload 6, 2) := by decide +kernel
theorem dL_gives_13 : decode cL_gives 13 = .ok (.iconst 3, 1) := by decide +kernel
theorem dL_gives_14 : decode cL_gives 14 = .ok (.if_icmp .ne 7, 3) := by decide +kernel
theorem dL_gives_17 : decode cL_gives 17 = .ok (.iconst 0, 1) := by decide +kernel
theorem dL_gives_18 : decode cL_gives 18 = .ok (.goto 5, 3) := by decide +kernel
theorem dL_gives_21 : decode cL_gives 21 = .ok (.iload 6, 2) := by decide +kernel
theorem dL_gives_23 : decode cL_gives 23 = .ok (.istore 6, 2) := by decide +kernel
theorem dL_gives_25 : decode cL_gives 25 = .ok (.iload 5, 2) := by decide +kernel
theorem dL_gives_27 : decode cL_gives 27 = .ok (.iload 6, 2) := by decide +kernel
theorem dL_gives_29 : decode cL_gives 29 = .ok (.iconst 1, 1) := by decide +kernel
theorem dL_gives_30 : decode cL_gives 30 = .ok (.if_icmp .ne 12, 3) := by decide +kernel
theorem dL_gives_33 : decode cL_gives 33 = .ok (.aload_n 1, 1) := by decide +kernel
theorem dL_gives_34 : decode cL_gives 34 = .ok (.bipush 10, 2) := by decide +kernel
theorem dL_gives_36 : decode cL_gives 36 = .ok (.iaload, 1) := by decide +kernel
theorem dL_gives_37 : decode cL_gives 37 = .ok (.iconst 1, 1) := by decide +kernel
theorem dL_gives_38 : decode cL_gives 38 = .ok (.iadd, 1) := by decide +kernel
theorem dL_gives_39 : decode cL_gives 39 = .ok (.goto 9, 3) := by decide +kernel
theorem dL_gives_42 : decode cL_gives 42 = .ok (.aload_n 1, 1) := by decide +kernel
theorem dL_gives_43 : decode cL_gives 43 = .ok (.bipush 9, 2) := by decide +kernel
theorem dL_gives_45 : decode cL_gives 45 = .ok (.iaload, 1) := by decide +kernel
theorem dL_gives_46 : decode cL_gives 46 = .ok (.iconst 1, 1) := by decide +kernel
theorem dL_gives_47 : decode cL_gives 47 = .ok (.iadd, 1) := by decide +kernel
theorem dL_gives_48 : decode cL_gives 48 = .ok (.invokestatic 102, 3) := by decide +kernel
theorem dL_gives_51 : decode cL_gives 51 = .ok (.istore 7, 2) := by decide +kernel
theorem dL_gives_53 : decode cL_gives 53 = .ok (.iload 6, 2) := by decide +kernel
theorem dL_gives_55 : decode cL_gives 55 = .ok (.iconst 2, 1) := by decide +kernel
theorem dL_gives_56 : decode cL_gives 56 = .ok (.if_icmp .ne 15, 3) := by decide +kernel
theorem dL_gives_59 : decode cL_gives 59 = .ok (.iload 5, 2) := by decide +kernel
theorem dL_gives_61 : decode cL_gives 61 = .ok (.iconst 5, 1) := by decide +kernel
theorem dL_gives_62 : decode cL_gives 62 = .ok (.ishr, 1) := by decide +kernel
theorem dL_gives_63 : decode cL_gives 63 = .ok (.bipush 25, 2) := by decide +kernel
theorem dL_gives_65 : decode cL_gives 65 = .ok (.invokestatic 102, 3) := by decide +kernel
theorem dL_gives_68 : decode cL_gives 68 = .ok (.goto 5, 3) := by decide +kernel
theorem dL_gives_71 : decode cL_gives 71 = .ok (.bipush (-5), 2) := by decide +kernel
theorem dL_gives_73 : decode cL_gives 73 = .ok (.istore 8, 2) := by decide +kernel
theorem dL_gives_75 : decode cL_gives 75 = .ok (.iload 6, 2) := by decide +kernel
theorem dL_gives_77 : decode cL_gives 77 = .ok (.iconst 1, 1) := by decide +kernel
theorem dL_gives_78 : decode cL_gives 78 = .ok (.if_icmp .ne 20, 3) := by decide +kernel
theorem dL_gives_81 : decode cL_gives 81 = .ok (.iload 7, 2) := by decide +kernel
theorem dL_gives_83 : decode cL_gives 83 = .ok (.aload_n 1, 1) := by decide +kernel
theorem dL_gives_84 : decode cL_gives 84 = .ok (.bipush 10, 2) := by decide +kernel
theorem dL_gives_86 : decode cL_gives 86 = .ok (.iaload, 1) := by decide +kernel
theorem dL_gives_87 : decode cL_gives 87 = .ok (.if_icmp .ge 7, 3) := by decide +kernel
theorem dL_gives_90 : decode cL_gives 90 = .ok (.iconst 1, 1) := by decide +kernel
theorem dL_gives_91 : decode cL_gives 91 = .ok (.goto 33, 3) := by decide +kernel
theorem dL_gives_94 : decode cL_gives 94 = .ok (.iconst 0, 1) := by decide +kernel
theorem dL_gives_95 : decode cL_gives 95 = .ok (.goto 29, 3) := by decide +kernel
theorem dL_gives_98 : decode cL_gives 98 = .ok (.iload 7, 2) := by decide +kernel
theorem dL_gives_100 : decode cL_gives 100 = .ok (.aload_n 1, 1) := by decide +kernel
theorem dL_gives_101 : decode cL_gives 101 = .ok (.bipush 9, 2) := by decide +kernel
theorem dL_gives_103 : decode cL_gives 103 = .ok (.iaload, 1) := by decide +kernel
theorem dL_gives_104 : decode cL_gives 104 = .ok (.if_icmp .ge 19, 3) := by decide +kernel
theorem dL_gives_107 : decode cL_gives 107 = .ok (.iload 6, 2) := by decide +kernel
theorem dL_gives_109 : decode cL_gives 109 = .ok (.ifCond .eq 10, 3) := by decide +kernel
theorem dL_gives_112 : decode cL_gives 112 = .ok (.iload 8, 2) := by decide +kernel
theorem dL_gives_114 : decode cL_gives 114 = .ok (.bipush 24, 2) := by decide +kernel
theorem dL_gives_116 : decode cL_gives 116 = .ok (.if_icmp .ge 7, 3) := by decide +kernel
theorem dL_gives_119 : decode cL_gives 119 = .ok (.iconst 1, 1) := by decide +kernel
theorem dL_gives_120 : decode cL_gives 120 = .ok (.goto 4, 3) := by decide +kernel
theorem dL_gives_123 : decode cL_gives 123 = .ok (.iconst 0, 1) := by decide +kernel
theorem dL_gives_124 : decode cL_gives 124 = .ok (.istore 9, 2) := by decide +kernel
theorem dL_gives_126 : decode cL_gives 126 = .ok (.iload 9, 2) := by decide +kernel
theorem dL_gives_128 : decode cL_gives 128 = .ok (.ifCond .ne 7, 3) := by decide +kernel
theorem dL_gives_131 : decode cL_gives 131 = .ok (.iconst (-1), 1) := by decide +kernel
theorem dL_gives_132 : decode cL_gives 132 = .ok (.goto 28, 3) := by decide +kernel
theorem dL_gives_135 : decode cL_gives 135 = .ok (.iload 6, 2) := by decide +kernel
theorem dL_gives_137 : decode cL_gives 137 = .ok (.ifCond .ne 19, 3) := by decide +kernel
theorem dL_gives_140 : decode cL_gives 140 = .ok (.aload_n 2, 1) := by decide +kernel
theorem dL_gives_141 : decode cL_gives 141 = .ok (.bipush 6, 2) := by decide +kernel
theorem dL_gives_143 : decode cL_gives 143 = .ok (.iload 7, 2) := by decide +kernel
theorem dL_gives_145 : decode cL_gives 145 = .ok (.imul, 1) := by decide +kernel
theorem dL_gives_146 : decode cL_gives 146 = .ok (.iaload, 1) := by decide +kernel
theorem dL_gives_147 : decode cL_gives 147 = .ok (.iconst 1, 1) := by decide +kernel
theorem dL_gives_148 : decode cL_gives 148 = .ok (.if_icmp .ne 8, 3) := by decide +kernel
theorem dL_gives_151 : decode cL_gives 151 = .ok (.bipush (-4), 2) := by decide +kernel
theorem dL_gives_153 : decode cL_gives 153 = .ok (.goto 7, 3) := by decide +kernel
theorem dL_gives_156 : decode cL_gives 156 = .ok (.aload_n 1, 1) := by decide +kernel
theorem dL_gives_157 : decode cL_gives 157 = .ok (.bipush 11, 2) := by decide +kernel
theorem dL_gives_159 : decode cL_gives 159 = .ok (.iaload, 1) := by decide +kernel
theorem dL_gives_160 : decode cL_gives 160 = .ok (.istore 10, 2) := by decide +kernel
theorem dL_gives_162 : decode cL_gives 162 = .ok (.iload 10, 2) := by decide +kernel
theorem dL_gives_164 : decode cL_gives 164 = .ok (.ifCond .lt 14, 3) := by decide +kernel
theorem dL_gives_167 : decode cL_gives 167 = .ok (.aload_n 1, 1) := by decide +kernel
theorem dL_gives_168 : decode cL_gives 168 = .ok (.bipush 11, 2) := by decide +kernel
theorem dL_gives_170 : decode cL_gives 170 = .ok (.iaload, 1) := by decide +kernel
theorem dL_gives_171 : decode cL_gives 171 = .ok (.bipush 10, 2) := by decide +kernel
theorem dL_gives_173 : decode cL_gives 173 = .ok (.if_icmp .ne 5, 3) := by decide +kernel
theorem dL_gives_176 : decode cL_gives 176 = .ok (.iconst 1, 1) := by decide +kernel
theorem dL_gives_177 : decode cL_gives 177 = .ok (.ireturn, 1) := by decide +kernel
theorem dL_gives_178 : decode cL_gives 178 = .ok (.iload 10, 2) := by decide +kernel
theorem dL_gives_180 : decode cL_gives 180 = .ok (.ifCond .lt 115, 3) := by decide +kernel
theorem dL_gives_183 : decode cL_gives 183 = .ok (.bipush 6, 2) := by decide +kernel
theorem dL_gives_185 : decode cL_gives 185 = .ok (.aload_n 1, 1) := by decide +kernel
theorem dL_gives_186 : decode cL_gives 186 = .ok (.bipush 11, 2) := by decide +kernel
theorem dL_gives_188 : decode cL_gives 188 = .ok (.iaload, 1) := by decide +kernel
theorem dL_gives_189 : decode cL_gives 189 = .ok (.imul, 1) := by decide +kernel
theorem dL_gives_190 : decode cL_gives 190 = .ok (.istore 11, 2) := by decide +kernel
theorem dL_gives_192 : decode cL_gives 192 = .ok (.aload_n 3, 1) := by decide +kernel
theorem dL_gives_193 : decode cL_gives 193 = .ok (.iload 11, 2) := by decide +kernel
theorem dL_gives_195 : decode cL_gives 195 = .ok (.iload 6, 2) := by decide +kernel
theorem dL_gives_197 : decode cL_gives 197 = .ok (.iastore, 1) := by decide +kernel
theorem dL_gives_198 : decode cL_gives 198 = .ok (.aload_n 3, 1) := by decide +kernel
theorem dL_gives_199 : decode cL_gives 199 = .ok (.iload 11, 2) := by decide +kernel
theorem dL_gives_201 : decode cL_gives 201 = .ok (.iconst 1, 1) := by decide +kernel
theorem dL_gives_202 : decode cL_gives 202 = .ok (.iadd, 1) := by decide +kernel
theorem dL_gives_203 : decode cL_gives 203 = .ok (.iload 7, 2) := by decide +kernel
theorem dL_gives_205 : decode cL_gives 205 = .ok (.iastore, 1) := by decide +kernel
theorem dL_gives_206 : decode cL_gives 206 = .ok (.aload_n 3, 1) := by decide +kernel
theorem dL_gives_207 : decode cL_gives 207 = .ok (.iload 11, 2) := by decide +kernel
theorem dL_gives_209 : decode cL_gives 209 = .ok (.iconst 2, 1) := by decide +kernel
theorem dL_gives_210 : decode cL_gives 210 = .ok (.iadd, 1) := by decide +kernel
theorem dL_gives_211 : decode cL_gives 211 = .ok (.iload 8, 2) := by decide +kernel
theorem dL_gives_213 : decode cL_gives 213 = .ok (.iastore, 1) := by decide +kernel
theorem dL_gives_214 : decode cL_gives 214 = .ok (.aload_n 3, 1) := by decide +kernel
theorem dL_gives_215 : decode cL_gives 215 = .ok (.iload 11, 2) := by decide +kernel
theorem dL_gives_217 : decode cL_gives 217 = .ok (.iconst 3, 1) := by decide +kernel
theorem dL_gives_218 : decode cL_gives 218 = .ok (.iadd, 1) := by decide +kernel
theorem dL_gives_219 : decode cL_gives 219 = .ok (.iconst 0, 1) := by decide +kernel
theorem dL_gives_220 : decode cL_gives 220 = .ok (.iastore, 1) := by decide +kernel
theorem dL_gives_221 : decode cL_gives 221 = .ok (.aload_n 3, 1) := by decide +kernel
theorem dL_gives_222 : decode cL_gives 222 = .ok (.iload 11, 2) := by decide +kernel
theorem dL_gives_224 : decode cL_gives 224 = .ok (.iconst 4, 1) := by decide +kernel
theorem dL_gives_225 : decode cL_gives 225 = .ok (.iadd, 1) := by decide +kernel
theorem dL_gives_226 : decode cL_gives 226 = .ok (.bipush (-5), 2) := by decide +kernel
theorem dL_gives_228 : decode cL_gives 228 = .ok (.iastore, 1) := by decide +kernel
theorem dL_gives_229 : decode cL_gives 229 = .ok (.aload_n 3, 1) := by decide +kernel
theorem dL_gives_230 : decode cL_gives 230 = .ok (.iload 11, 2) := by decide +kernel
theorem dL_gives_232 : decode cL_gives 232 = .ok (.iconst 5, 1) := by decide +kernel
theorem dL_gives_233 : decode cL_gives 233 = .ok (.iadd, 1) := by decide +kernel
theorem dL_gives_234 : decode cL_gives 234 = .ok (.bipush (-5), 2) := by decide +kernel
theorem dL_gives_236 : decode cL_gives 236 = .ok (.iastore, 1) := by decide +kernel
theorem dL_gives_237 : decode cL_gives 237 = .ok (.aload 4, 2) := by decide +kernel
theorem dL_gives_239 : decode cL_gives 239 = .ok (.iload 11, 2) := by decide +kernel
theorem dL_gives_241 : decode cL_gives 241 = .ok (.bipush (-5), 2) := by decide +kernel
theorem dL_gives_243 : decode cL_gives 243 = .ok (.iastore, 1) := by decide +kernel
theorem dL_gives_244 : decode cL_gives 244 = .ok (.aload 4, 2) := by decide +kernel
theorem dL_gives_246 : decode cL_gives 246 = .ok (.iload 11, 2) := by decide +kernel
theorem dL_gives_248 : decode cL_gives 248 = .ok (.iconst 1, 1) := by decide +kernel
theorem dL_gives_249 : decode cL_gives 249 = .ok (.iadd, 1) := by decide +kernel
theorem dL_gives_250 : decode cL_gives 250 = .ok (.bipush (-5), 2) := by decide +kernel
theorem dL_gives_252 : decode cL_gives 252 = .ok (.iastore, 1) := by decide +kernel
theorem dL_gives_253 : decode cL_gives 253 = .ok (.aload 4, 2) := by decide +kernel
theorem dL_gives_255 : decode cL_gives 255 = .ok (.iload 11, 2) := by decide +kernel
theorem dL_gives_257 : decode cL_gives 257 = .ok (.iconst 2, 1) := by decide +kernel
theorem dL_gives_258 : decode cL_gives 258 = .ok (.iadd, 1) := by decide +kernel
theorem dL_gives_259 : decode cL_gives 259 = .ok (.iconst 0, 1) := by decide +kernel
theorem dL_gives_260 : decode cL_gives 260 = .ok (.iastore, 1) := by decide +kernel
theorem dL_gives_261 : decode cL_gives 261 = .ok (.aload 4, 2) := by decide +kernel
theorem dL_gives_263 : decode cL_gives 263 = .ok (.iload 11, 2) := by decide +kernel
theorem dL_gives_265 : decode cL_gives 265 = .ok (.iconst 3, 1) := by decide +kernel
theorem dL_gives_266 : decode cL_gives 266 = .ok (.iadd, 1) := by decide +kernel
theorem dL_gives_267 : decode cL_gives 267 = .ok (.iconst 0, 1) := by decide +kernel
theorem dL_gives_268 : decode cL_gives 268 = .ok (.iastore, 1) := by decide +kernel
theorem dL_gives_269 : decode cL_gives 269 = .ok (.aload 4, 2) := by decide +kernel
theorem dL_gives_271 : decode cL_gives 271 = .ok (.iload 11, 2) := by decide +kernel
theorem dL_gives_273 : decode cL_gives 273 = .ok (.iconst 4, 1) := by decide +kernel
theorem dL_gives_274 : decode cL_gives 274 = .ok (.iadd, 1) := by decide +kernel
theorem dL_gives_275 : decode cL_gives 275 = .ok (.bipush (-5), 2) := by decide +kernel
theorem dL_gives_277 : decode cL_gives 277 = .ok (.iastore, 1) := by decide +kernel
theorem dL_gives_278 : decode cL_gives 278 = .ok (.aload 4, 2) := by decide +kernel
theorem dL_gives_280 : decode cL_gives 280 = .ok (.iload 11, 2) := by decide +kernel
theorem dL_gives_282 : decode cL_gives 282 = .ok (.iconst 5, 1) := by decide +kernel
theorem dL_gives_283 : decode cL_gives 283 = .ok (.iadd, 1) := by decide +kernel
theorem dL_gives_284 : decode cL_gives 284 = .ok (.bipush (-5), 2) := by decide +kernel
theorem dL_gives_286 : decode cL_gives 286 = .ok (.iastore, 1) := by decide +kernel
theorem dL_gives_287 : decode cL_gives 287 = .ok (.aload_n 1, 1) := by decide +kernel
theorem dL_gives_288 : decode cL_gives 288 = .ok (.bipush 11, 2) := by decide +kernel
theorem dL_gives_290 : decode cL_gives 290 = .ok (.dup2, 1) := by decide +kernel
theorem dL_gives_291 : decode cL_gives 291 = .ok (.iaload, 1) := by decide +kernel
theorem dL_gives_292 : decode cL_gives 292 = .ok (.iconst 1, 1) := by decide +kernel
theorem dL_gives_293 : decode cL_gives 293 = .ok (.iadd, 1) := by decide +kernel
theorem dL_gives_294 : decode cL_gives 294 = .ok (.iastore, 1) := by decide +kernel
theorem dL_gives_295 : decode cL_gives 295 = .ok (.iload 10, 2) := by decide +kernel
theorem dL_gives_297 : decode cL_gives 297 = .ok (.iload 6, 2) := by decide +kernel
theorem dL_gives_299 : decode cL_gives 299 = .ok (.ifCond .ne 12, 3) := by decide +kernel
theorem dL_gives_302 : decode cL_gives 302 = .ok (.aload_n 0, 1) := by decide +kernel
theorem dL_gives_303 : decode cL_gives 303 = .ok (.iload 7, 2) := by decide +kernel
theorem dL_gives_305 : decode cL_gives 305 = .ok (.invokevirtual 117, 3) := by decide +kernel
theorem dL_gives_308 : decode cL_gives 308 = .ok (.goto 26, 3) := by decide +kernel
theorem dL_gives_311 : decode cL_gives 311 = .ok (.iload 6, 2) := by decide +kernel
theorem dL_gives_313 : decode cL_gives 313 = .ok (.iconst 1, 1) := by decide +kernel
theorem dL_gives_314 : decode cL_gives 314 = .ok (.if_icmp .ne 12, 3) := by decide +kernel
theorem dL_gives_317 : decode cL_gives 317 = .ok (.aload_n 0, 1) := by decide +kernel
theorem dL_gives_318 : decode cL_gives 318 = .ok (.iload 7, 2) := by decide +kernel
theorem dL_gives_320 : decode cL_gives 320 = .ok (.invokevirtual 120, 3) := by decide +kernel
theorem dL_gives_323 : decode cL_gives 323 = .ok (.goto 11, 3) := by decide +kernel
theorem dL_gives_326 : decode cL_gives 326 = .ok (.aload_n 0, 1) := by decide +kernel
theorem dL_gives_327 : decode cL_gives 327 = .ok (.iload 7, 2) := by decide +kernel
theorem dL_gives_329 : decode cL_gives 329 = .ok (.iload 8, 2) := by decide +kernel
theorem dL_gives_331 : decode cL_gives 331 = .ok (.invokevirtual 123, 3) := by decide +kernel
theorem dL_gives_334 : decode cL_gives 334 = .ok (.if_icmp .ne 7, 3) := by decide +kernel
theorem dL_gives_337 : decode cL_gives 337 = .ok (.iconst 1, 1) := by decide +kernel
theorem dL_gives_338 : decode cL_gives 338 = .ok (.goto 4, 3) := by decide +kernel
theorem dL_gives_341 : decode cL_gives 341 = .ok (.iconst 0, 1) := by decide +kernel
theorem dL_gives_342 : decode cL_gives 342 = .ok (.ireturn, 1) := by decide +kernel
theorem dL_holds_0 : decode cL_holds 0 = .ok (.aload_n 1, 1) := by decide +kernel
theorem dL_holds_1 : decode cL_holds 1 = .ok (.bipush 11, 2) := by decide +kernel
theorem dL_holds_3 : decode cL_holds 3 = .ok (.iaload, 1) := by decide +kernel
theorem dL_holds_4 : decode cL_holds 4 = .ok (.ifCond .ne 28, 3) := by decide +kernel
theorem dL_holds_7 : decode cL_holds 7 = .ok (.aload_n 0, 1) := by decide +kernel
theorem dL_holds_8 : decode cL_holds 8 = .ok (.iconst 0, 1) := by decide +kernel
theorem dL_holds_9 : decode cL_holds 9 = .ok (.iconst 0, 1) := by decide +kernel
theorem dL_holds_10 : decode cL_holds 10 = .ok (.invokevirtual 126, 3) := by decide +kernel
theorem dL_holds_13 : decode cL_holds 13 = .ok (.iconst (-1), 1) := by decide +kernel
theorem dL_holds_14 : decode cL_holds 14 = .ok (.if_icmp .ne 16, 3) := by decide +kernel
theorem dL_holds_17 : decode cL_holds 17 = .ok (.aload_n 0, 1) := by decide +kernel
theorem dL_holds_18 : decode cL_holds 18 = .ok (.iconst 0, 1) := by decide +kernel
theorem dL_holds_19 : decode cL_holds 19 = .ok (.invokevirtual 129, 3) := by decide +kernel
theorem dL_holds_22 : decode cL_holds 22 = .ok (.iconst (-1), 1) := by decide +kernel
theorem dL_holds_23 : decode cL_holds 23 = .ok (.if_icmp .ne 7, 3) := by decide +kernel
theorem dL_holds_26 : decode cL_holds 26 = .ok (.iconst 1, 1) := by decide +kernel
theorem dL_holds_27 : decode cL_holds 27 = .ok (.goto 4, 3) := by decide +kernel
theorem dL_holds_30 : decode cL_holds 30 = .ok (.iconst 0, 1) := by decide +kernel
theorem dL_holds_31 : decode cL_holds 31 = .ok (.ireturn, 1) := by decide +kernel
theorem dL_holds_32 : decode cL_holds 32 = .ok (.iload 4, 2) := by decide +kernel
theorem dL_holds_34 : decode cL_holds 34 = .ok (.aload_n 1, 1) := by decide +kernel
theorem dL_holds_35 : decode cL_holds 35 = .ok (.bipush 11, 2) := by decide +kernel
theorem dL_holds_37 : decode cL_holds 37 = .ok (.iaload, 1) := by decide +kernel
theorem dL_holds_38 : decode cL_holds 38 = .ok (.invokestatic 102, 3) := by decide +kernel
theorem dL_holds_41 : decode cL_holds 41 = .ok (.istore 5, 2) := by decide +kernel
theorem dL_holds_43 : decode cL_holds 43 = .ok (.aload_n 2, 1) := by decide +kernel
theorem dL_holds_44 : decode cL_holds 44 = .ok (.bipush 6, 2) := by decide +kernel
theorem dL_holds_46 : decode cL_holds 46 = .ok (.iload 5, 2) := by decide +kernel
theorem dL_holds_48 : decode cL_holds 48 = .ok (.imul, 1) := by decide +kernel
theorem dL_holds_49 : decode cL_holds 49 = .ok (.iconst 3, 1) := by decide +kernel
theorem dL_holds_50 : decode cL_holds 50 = .ok (.iadd, 1) := by decide +kernel
theorem dL_holds_51 : decode cL_holds 51 = .ok (.iaload, 1) := by decide +kernel
theorem dL_holds_52 : decode cL_holds 52 = .ok (.ifCond .ne 7, 3) := by decide +kernel
theorem dL_holds_55 : decode cL_holds 55 = .ok (.iconst 1, 1) := by decide +kernel
theorem dL_holds_56 : decode cL_holds 56 = .ok (.goto 4, 3) := by decide +kernel
theorem dL_holds_59 : decode cL_holds 59 = .ok (.iconst 0, 1) := by decide +kernel
theorem dL_holds_60 : decode cL_holds 60 = .ok (.istore 6, 2) := by decide +kernel
theorem dL_holds_62 : decode cL_holds 62 = .ok (.iload 4, 2) := by decide +kernel
theorem dL_holds_64 : decode cL_holds 64 = .ok (.bipush 8, 2) := by decide +kernel
theorem dL_holds_66 : decode cL_holds 66 = .ok (.ishr, 1) := by decide +kernel
theorem dL_holds_67 : decode cL_holds 67 = .ok (.iconst 3, 1) := by decide +kernel
theorem dL_holds_68 : decode cL_holds 68 = .ok (.invokestatic 102, 3) := by decide +kernel
theorem dL_holds_71 : decode cL_holds 71 = .ok (.ifCond .le 143, 3) := by decide +kernel
theorem dL_holds_74 : decode cL_holds 74 = .ok (.iload 4, 2) := by decide +kernel
theorem dL_holds_76 : decode cL_holds 76 = .ok (.iconst 5, 1) := by decide +kernel
theorem dL_holds_77 : decode cL_holds 77 = .ok (.ishr, 1) := by decide +kernel
theorem dL_holds_78 : decode cL_holds 78 = .ok (.iconst 2, 1) := by decide +kernel
theorem dL_holds_79 : decode cL_holds 79 = .ok (.invokestatic 102, 3) := by decide +kernel
theorem dL_holds_82 : decode cL_holds 82 = .ok (.ifCond .ne 15, 3) := by decide +kernel
theorem dL_holds_85 : decode cL_holds 85 = .ok (.aload_n 3, 1) := by decide +kernel
theorem dL_holds_86 : decode cL_holds 86 = .ok (.bipush 6, 2) := by decide +kernel
theorem dL_holds_88 : decode cL_holds 88 = .ok (.iload 5, 2) := by decide +kernel
theorem dL_holds_90 : decode cL_holds 90 = .ok (.imul, 1) := by decide +kernel
theorem dL_holds_91 : decode cL_holds 91 = .ok (.iconst 3, 1) := by decide +kernel
theorem dL_holds_92 : decode cL_holds 92 = .ok (.iadd, 1) := by decide +kernel
theorem dL_holds_93 : decode cL_holds 93 = .ok (.iaload, 1) := by decide +kernel
theorem dL_holds_94 : decode cL_holds 94 = .ok (.goto 17, 3) := by decide +kernel
theorem dL_holds_97 : decode cL_holds 97 = .ok (.aload_n 1, 1) := by decide +kernel
theorem dL_holds_98 : decode cL_holds 98 = .ok (.iconst 0, 1) := by decide +kernel
theorem dL_holds_99 : decode cL_holds 99 = .ok (.iaload, 1) := by decide +kernel
theorem dL_holds_100 : decode cL_holds 100 = .ok (.iload 4, 2) := by decide +kernel
theorem dL_holds_102 : decode cL_holds 102 = .ok (.bipush 11, 2) := by decide +kernel
theorem dL_holds_104 : decode cL_holds 104 = .ok (.ishr, 1) := by decide +kernel
theorem dL_holds_105 : decode cL_holds 105 = .ok (.bipush 30, 2) := by decide +kernel
theorem dL_holds_107 : decode cL_holds 107 = .ok (.invokestatic 102, 3) := by decide +kernel
theorem dL_holds_110 : decode cL_holds 110 = .ok (.iadd, 1) := by decide +kernel
theorem dL_holds_111 : decode cL_holds 111 = .ok (.istore 7, 2) := by decide +kernel
theorem dL_holds_113 : decode cL_holds 113 = .ok (.iload 6, 2) := by decide +kernel
theorem dL_holds_115 : decode cL_holds 115 = .ok (.ifCond .ne 8, 3) := by decide +kernel
theorem dL_holds_118 : decode cL_holds 118 = .ok (.bipush (-4), 2) := by decide +kernel
theorem dL_holds_120 : decode cL_holds 120 = .ok (.goto 31, 3) := by decide +kernel
theorem dL_holds_123 : decode cL_holds 123 = .ok (.iload 7, 2) := by decide +kernel
theorem dL_holds_125 : decode cL_holds 125 = .ok (.aload_n 3, 1) := by decide +kernel
theorem dL_holds_126 : decode cL_holds 126 = .ok (.bipush 6, 2) := by decide +kernel
theorem dL_holds_128 : decode cL_holds 128 = .ok (.iload 5, 2) := by decide +kernel
theorem dL_holds_130 : decode cL_holds 130 = .ok (.imul, 1) := by decide +kernel
theorem dL_holds_131 : decode cL_holds 131 = .ok (.iconst 3, 1) := by decide +kernel
theorem dL_holds_132 : decode cL_holds 132 = .ok (.iadd, 1) := by decide +kernel
theorem dL_holds_133 : decode cL_holds 133 = .ok (.iaload, 1) := by decide +kernel
theorem dL_holds_134 : decode cL_holds 134 = .ok (.if_icmp .ne 8, 3) := by decide +kernel
theorem dL_holds_137 : decode cL_holds 137 = .ok (.bipush (-5), 2) := by decide +kernel
theorem dL_holds_139 : decode cL_holds 139 = .ok (.goto 12, 3) := by decide +kernel
theorem dL_holds_142 : decode cL_holds 142 = .ok (.aload_n 3, 1) := by decide +kernel
theorem dL_holds_143 : decode cL_holds 143 = .ok (.bipush 6, 2) := by decide +kernel
theorem dL_holds_145 : decode cL_holds 145 = .ok (.iload 5, 2) := by decide +kernel
theorem dL_holds_147 : decode cL_holds 147 = .ok (.imul, 1) := by decide +kernel
theorem dL_holds_148 : decode cL_holds 148 = .ok (.iconst 3, 1) := by decide +kernel
theorem dL_holds_149 : decode cL_holds 149 = .ok (.iadd, 1) := by decide +kernel
theorem dL_holds_150 : decode cL_holds 150 = .ok (.iaload, 1) := by decide +kernel
theorem dL_holds_151 : decode cL_holds 151 = .ok (.istore 8, 2) := by decide +kernel
theorem dL_holds_153 : decode cL_holds 153 = .ok (.aload_n 3, 1) := by decide +kernel
theorem dL_holds_154 : decode cL_holds 154 = .ok (.bipush 6, 2) := by decide +kernel
theorem dL_holds_156 : decode cL_holds 156 = .ok (.iload 5, 2) := by decide +kernel
theorem dL_holds_158 : decode cL_holds 158 = .ok (.imul, 1) := by decide +kernel
theorem dL_holds_159 : decode cL_holds 159 = .ok (.iconst 3, 1) := by decide +kernel
theorem dL_holds_160 : decode cL_holds 160 = .ok (.iadd, 1) := by decide +kernel
theorem dL_holds_161 : decode cL_holds 161 = .ok (.iload 6, 2) := by decide +kernel
theorem dL_holds_163 : decode cL_holds 163 = .ok (.ifCond .eq 8, 3) := by decide +kernel
theorem dL_holds_166 : decode cL_holds 166 = .ok (.iload 7, 2) := by decide +kernel
theorem dL_holds_168 : decode cL_holds 168 = .ok (.goto 12, 3) := by decide +kernel
theorem dL_holds_171 : decode cL_holds 171 = .ok (.aload_n 3, 1) := by decide +kernel
theorem dL_holds_172 : decode cL_holds 172 = .ok (.bipush 6, 2) := by decide +kernel
theorem dL_holds_174 : decode cL_holds 174 = .ok (.iload 5, 2) := by decide +kernel
theorem dL_holds_176 : decode cL_holds 176 = .ok (.imul, 1) := by decide +kernel
theorem dL_holds_177 : decode cL_holds 177 = .ok (.iconst 3, 1) := by decide +kernel
theorem dL_holds_178 : decode cL_holds 178 = .ok (.iadd, 1) := by decide +kernel
theorem dL_holds_179 : decode cL_holds 179 = .ok (.iaload, 1) := by decide +kernel
theorem dL_holds_180 : decode cL_holds 180 = .ok (.iastore, 1) := by decide +kernel
theorem dL_holds_181 : decode cL_holds 181 = .ok (.aload_n 0, 1) := by decide +kernel
theorem dL_holds_182 : decode cL_holds 182 = .ok (.iload 5, 2) := by decide +kernel
theorem dL_holds_184 : decode cL_holds 184 = .ok (.iload 7, 2) := by decide +kernel
theorem dL_holds_186 : decode cL_holds 186 = .ok (.invokevirtual 126, 3) := by decide +kernel
theorem dL_holds_189 : decode cL_holds 189 = .ok (.iload 8, 2) := by decide +kernel
theorem dL_holds_191 : decode cL_holds 191 = .ok (.if_icmp .ne 21, 3) := by decide +kernel
theorem dL_holds_194 : decode cL_holds 194 = .ok (.aload_n 0, 1) := by decide +kernel
theorem dL_holds_195 : decode cL_holds 195 = .ok (.iload 5, 2) := by decide +kernel
theorem dL_holds_197 : decode cL_holds 197 = .ok (.sipush 10000, 3) := by decide +kernel
theorem dL_holds_200 : decode cL_holds 200 = .ok (.invokevirtual 126, 3) := by decide +kernel
theorem dL_holds_203 : decode cL_holds 203 = .ok (.bipush (-2), 2) := by decide +kernel
theorem dL_holds_205 : decode cL_holds 205 = .ok (.if_icmp .ne 7, 3) := by decide +kernel
theorem dL_holds_208 : decode cL_holds 208 = .ok (.iconst 1, 1) := by decide +kernel
theorem dL_holds_209 : decode cL_holds 209 = .ok (.goto 4, 3) := by decide +kernel
theorem dL_holds_212 : decode cL_holds 212 = .ok (.iconst 0, 1) := by decide +kernel
theorem dL_holds_213 : decode cL_holds 213 = .ok (.ireturn, 1) := by decide +kernel
theorem dL_holds_214 : decode cL_holds 214 = .ok (.iload 6, 2) := by decide +kernel
theorem dL_holds_216 : decode cL_holds 216 = .ok (.ifCond .ne 20, 3) := by decide +kernel
theorem dL_holds_219 : decode cL_holds 219 = .ok (.aload_n 0, 1) := by decide +kernel
theorem dL_holds_220 : decode cL_holds 220 = .ok (.iload 5, 2) := by decide +kernel
theorem dL_holds_222 : decode cL_holds 222 = .ok (.invokevirtual 129, 3) := by decide +kernel
theorem dL_holds_225 : decode cL_holds 225 = .ok (.bipush (-4), 2) := by decide +kernel
theorem dL_holds_227 : decode cL_holds 227 = .ok (.if_icmp .ne 7, 3) := by decide +kernel
theorem dL_holds_230 : decode cL_holds 230 = .ok (.iconst 1, 1) := by decide +kernel
theorem dL_holds_231 : decode cL_holds 231 = .ok (.goto 4, 3) := by decide +kernel
theorem dL_holds_234 : decode cL_holds 234 = .ok (.iconst 0, 1) := by decide +kernel
theorem dL_holds_235 : decode cL_holds 235 = .ok (.ireturn, 1) := by decide +kernel
theorem dL_holds_236 : decode cL_holds 236 = .ok (.aload_n 2, 1) := by decide +kernel
theorem dL_holds_237 : decode cL_holds 237 = .ok (.bipush 6, 2) := by decide +kernel
theorem dL_holds_239 : decode cL_holds 239 = .ok (.iload 5, 2) := by decide +kernel
theorem dL_holds_241 : decode cL_holds 241 = .ok (.imul, 1) := by decide +kernel
theorem dL_holds_242 : decode cL_holds 242 = .ok (.iconst 3, 1) := by decide +kernel
theorem dL_holds_243 : decode cL_holds 243 = .ok (.iadd, 1) := by decide +kernel
theorem dL_holds_244 : decode cL_holds 244 = .ok (.iconst 4, 1) := by decide +kernel
theorem dL_holds_245 : decode cL_holds 245 = .ok (.iastore, 1) := by decide +kernel
theorem dL_holds_246 : decode cL_holds 246 = .ok (.aload_n 3, 1) := by decide +kernel
theorem dL_holds_247 : decode cL_holds 247 = .ok (.bipush 6, 2) := by decide +kernel
theorem dL_holds_249 : decode cL_holds 249 = .ok (.iload 5, 2) := by decide +kernel
theorem dL_holds_251 : decode cL_holds 251 = .ok (.imul, 1) := by decide +kernel
theorem dL_holds_252 : decode cL_holds 252 = .ok (.iconst 5, 1) := by decide +kernel
theorem dL_holds_253 : decode cL_holds 253 = .ok (.iadd, 1) := by decide +kernel
theorem dL_holds_254 : decode cL_holds 254 = .ok (.aload_n 1, 1) := by decide +kernel
theorem dL_holds_255 : decode cL_holds 255 = .ok (.iconst 0, 1) := by decide +kernel
theorem dL_holds_256 : decode cL_holds 256 = .ok (.iaload, 1) := by decide +kernel
theorem dL_holds_257 : decode cL_holds 257 = .ok (.iastore, 1) := by decide +kernel
theorem dL_holds_258 : decode cL_holds 258 = .ok (.iconst 0, 1) := by decide +kernel
theorem dL_holds_259 : decode cL_holds 259 = .ok (.istore 7, 2) := by decide +kernel
theorem dL_holds_261 : decode cL_holds 261 = .ok (.iconst 0, 1) := by decide +kernel
theorem dL_holds_262 : decode cL_holds 262 = .ok (.istore 8, 2) := by decide +kernel
theorem dL_holds_264 : decode cL_holds 264 = .ok (.iload 8, 2) := by decide +kernel
theorem dL_holds_266 : decode cL_holds 266 = .ok (.aload_n 1, 1) := by decide +kernel
theorem dL_holds_267 : decode cL_holds 267 = .ok (.bipush 11, 2) := by decide +kernel
theorem dL_holds_269 : decode cL_holds 269 = .ok (.iaload, 1) := by decide +kernel
theorem dL_holds_270 : decode cL_holds 270 = .ok (.if_icmp .ge 31, 3) := by decide +kernel
theorem dL_holds_273 : decode cL_holds 273 = .ok (.iload 7, 2) := by decide +kernel
theorem dL_holds_275 : decode cL_holds 275 = .ok (.aload_n 2, 1) := by decide +kernel
theorem dL_holds_276 : decode cL_holds 276 = .ok (.bipush 6, 2) := by decide +kernel
theorem dL_holds_278 : decode cL_holds 278 = .ok (.iload 8, 2) := by decide +kernel
theorem dL_holds_280 : decode cL_holds 280 = .ok (.imul, 1) := by decide +kernel
theorem dL_holds_281 : decode cL_holds 281 = .ok (.iconst 3, 1) := by decide +kernel
theorem dL_holds_282 : decode cL_holds 282 = .ok (.iadd, 1) := by decide +kernel
theorem dL_holds_283 : decode cL_holds 283 = .ok (.iaload, 1) := by decide +kernel
theorem dL_holds_284 : decode cL_holds 284 = .ok (.ifCond .ne 7, 3) := by decide +kernel
theorem dL_holds_287 : decode cL_holds 287 = .ok (.iconst 1, 1) := by decide +kernel
theorem dL_holds_288 : decode cL_holds 288 = .ok (.goto 4, 3) := by decide +kernel
theorem dL_holds_291 : decode cL_holds 291 = .ok (.iconst 0, 1) := by decide +kernel
theorem dL_holds_292 : decode cL_holds 292 = .ok (.iadd, 1) := by decide +kernel
theorem dL_holds_293 : decode cL_holds 293 = .ok (.istore 7, 2) := by decide +kernel
theorem dL_holds_295 : decode cL_holds 295 = .ok (.iinc 8 1, 3) := by decide +kernel
theorem dL_holds_298 : decode cL_holds 298 = .ok (.goto (-34), 3) := by decide +kernel
theorem dL_holds_301 : decode cL_holds 301 = .ok (.aload_n 0, 1) := by decide +kernel
theorem dL_holds_302 : decode cL_holds 302 = .ok (.iload 5, 2) := by decide +kernel
theorem dL_holds_304 : decode cL_holds 304 = .ok (.invokevirtual 129, 3) := by decide +kernel
theorem dL_holds_307 : decode cL_holds 307 = .ok (.iload 7, 2) := by decide +kernel
theorem dL_holds_309 : decode cL_holds 309 = .ok (.if_icmp .ne 18, 3) := by decide +kernel
theorem dL_holds_312 : decode cL_holds 312 = .ok (.aload_n 0, 1) := by decide +kernel
theorem dL_holds_313 : decode cL_holds 313 = .ok (.iload 5, 2) := by decide +kernel
theorem dL_holds_315 : decode cL_holds 315 = .ok (.invokevirtual 129, 3) := by decide +kernel
theorem dL_holds_318 : decode cL_holds 318 = .ok (.bipush (-4), 2) := by decide +kernel
theorem dL_holds_320 : decode cL_holds 320 = .ok (.if_icmp .ne 7, 3) := by decide +kernel
theorem dL_holds_323 : decode cL_holds 323 = .ok (.iconst 1, 1) := by decide +kernel
theorem dL_holds_324 : decode cL_holds 324 = .ok (.goto 4, 3) := by decide +kernel
theorem dL_holds_327 : decode cL_holds 327 = .ok (.iconst 0, 1) := by decide +kernel
theorem dL_holds_328 : decode cL_holds 328 = .ok (.ireturn, 1) := by decide +kernel
theorem dL_sets_0 : decode cL_sets 0 = .ok (.iload 4, 2) := by decide +kernel
theorem dL_sets_2 : decode cL_sets 2 = .ok (.iconst 3, 1) := by decide +kernel
theorem dL_sets_3 : decode cL_sets 3 = .ok (.invokestatic 102, 3) := by decide +kernel
theorem dL_sets_6 : decode cL_sets 6 = .ok (.ifCond .ne 100, 3) := by decide +kernel
theorem dL_sets_9 : decode cL_sets 9 = .ok (.bipush 8, 2) := by decide +kernel
theorem dL_sets_11 : decode cL_sets 11 = .ok (.iconst 4, 1) := by decide +kernel
theorem dL_sets_12 : decode cL_sets 12 = .ok (.iload 4, 2) := by decide +kernel
theorem dL_sets_14 : decode cL_sets 14 = .ok (.iconst 4, 1) := by decide +kernel
theorem dL_sets_15 : decode cL_sets 15 = .ok (.ishr, 1) := by decide +kernel
theorem dL_sets_16 : decode cL_sets 16 = .ok (.bipush 60, 2) := by decide +kernel
theorem dL_sets_18 : decode cL_sets 18 = .ok (.invokestatic 102, 3) := by decide +kernel
theorem dL_sets_21 : decode cL_sets 21 = .ok (.imul, 1) := by decide +kernel
theorem dL_sets_22 : decode cL_sets 22 = .ok (.iadd, 1) := by decide +kernel
theorem dL_sets_23 : decode cL_sets 23 = .ok (.istore 5, 2) := by decide +kernel
theorem dL_sets_25 : decode cL_sets 25 = .ok (.aload_n 3, 1) := by decide +kernel
theorem dL_sets_26 : decode cL_sets 26 = .ok (.bipush 9, 2) := by decide +kernel
theorem dL_sets_28 : decode cL_sets 28 = .ok (.daload, 1) := by decide +kernel
theorem dL_sets_29 : decode cL_sets 29 = .ok (.iload 5, 2) := by decide +kernel
theorem dL_sets_31 : decode cL_sets 31 = .ok (.i2d, 1) := by decide +kernel
theorem dL_sets_32 : decode cL_sets 32 = .ok (.ldc2_w 132, 3) := by decide +kernel
theorem dL_sets_35 : decode cL_sets 35 = .ok (.dmul, 1) := by decide +kernel
theorem dL_sets_36 : decode cL_sets 36 = .ok (.dcmp .l, 1) := by decide +kernel
theorem dL_sets_37 : decode cL_sets 37 = .ok (.ifCond .ne 8, 3) := by decide +kernel
theorem dL_sets_40 : decode cL_sets 40 = .ok (.bipush (-5), 2) := by decide +kernel
theorem dL_sets_42 : decode cL_sets 42 = .ok (.goto 4, 3) := by decide +kernel
theorem dL_sets_45 : decode cL_sets 45 = .ok (.iconst 1, 1) := by decide +kernel
theorem dL_sets_46 : decode cL_sets 46 = .ok (.istore 6, 2) := by decide +kernel
theorem dL_sets_48 : decode cL_sets 48 = .ok (.aload_n 3, 1) := by decide +kernel
theorem dL_sets_49 : decode cL_sets 49 = .ok (.bipush 9, 2) := by decide +kernel
theorem dL_sets_51 : decode cL_sets 51 = .ok (.iload 5, 2) := by decide +kernel
theorem dL_sets_53 : decode cL_sets 53 = .ok (.i2d, 1) := by decide +kernel
theorem dL_sets_54 : decode cL_sets 54 = .ok (.ldc2_w 132, 3) := by decide +kernel
theorem dL_sets_57 : decode cL_sets 57 = .ok (.dmul, 1) := by decide +kernel
theorem dL_sets_58 : decode cL_sets 58 = .ok (.dastore, 1) := by decide +kernel
theorem dL_sets_59 : decode cL_sets 59 = .ok (.aload_n 0, 1) := by decide +kernel
theorem dL_sets_60 : decode cL_sets 60 = .ok (.iload 5, 2) := by decide +kernel
theorem dL_sets_62 : decode cL_sets 62 = .ok (.invokestatic 73, 3) := by decide +kernel
theorem dL_sets_65 : decode cL_sets 65 = .ok (.invokevirtual 134, 3) := by decide +kernel
theorem dL_sets_68 : decode cL_sets 68 = .ok (.iload 6, 2) := by decide +kernel
theorem dL_sets_70 : decode cL_sets 70 = .ok (.if_icmp .ne 34, 3) := by decide +kernel
theorem dL_sets_73 : decode cL_sets 73 = .ok (.aload_n 0, 1) := by decide +kernel
theorem dL_sets_74 : decode cL_sets 74 = .ok (.iload 5, 2) := by decide +kernel
theorem dL_sets_76 : decode cL_sets 76 = .ok (.invokestatic 73, 3) := by decide +kernel
theorem dL_sets_79 : decode cL_sets 79 = .ok (.invokevirtual 134, 3) := by decide +kernel
theorem dL_sets_82 : decode cL_sets 82 = .ok (.bipush (-5), 2) := by decide +kernel
theorem dL_sets_84 : decode cL_sets 84 = .ok (.if_icmp .ne 20, 3) := by decide +kernel
theorem dL_sets_87 : decode cL_sets 87 = .ok (.aload_n 0, 1) := by decide +kernel
theorem dL_sets_88 : decode cL_sets 88 = .ok (.iconst 4, 1) := by decide +kernel
theorem dL_sets_89 : decode cL_sets 89 = .ok (.invokestatic 73, 3) := by decide +kernel
theorem dL_sets_92 : decode cL_sets 92 = .ok (.invokevirtual 134, 3) := by decide +kernel
theorem dL_sets_95 : decode cL_sets 95 = .ok (.bipush (-2), 2) := by decide +kernel
theorem dL_sets_97 : decode cL_sets 97 = .ok (.if_icmp .ne 7, 3) := by decide +kernel
theorem dL_sets_100 : decode cL_sets 100 = .ok (.iconst 1, 1) := by decide +kernel
theorem dL_sets_101 : decode cL_sets 101 = .ok (.goto 4, 3) := by decide +kernel
theorem dL_sets_104 : decode cL_sets 104 = .ok (.iconst 0, 1) := by decide +kernel
theorem dL_sets_105 : decode cL_sets 105 = .ok (.ireturn, 1) := by decide +kernel
theorem dL_sets_106 : decode cL_sets 106 = .ok (.iload 4, 2) := by decide +kernel
theorem dL_sets_108 : decode cL_sets 108 = .ok (.iconst 3, 1) := by decide +kernel
theorem dL_sets_109 : decode cL_sets 109 = .ok (.invokestatic 102, 3) := by decide +kernel
theorem dL_sets_112 : decode cL_sets 112 = .ok (.iconst 1, 1) := by decide +kernel
theorem dL_sets_113 : decode cL_sets 113 = .ok (.if_icmp .ne 126, 3) := by decide +kernel
theorem dL_sets_116 : decode cL_sets 116 = .ok (.aload_n 1, 1) := by decide +kernel
theorem dL_sets_117 : decode cL_sets 117 = .ok (.bipush 10, 2) := by decide +kernel
theorem dL_sets_119 : decode cL_sets 119 = .ok (.iaload, 1) := by decide +kernel
theorem dL_sets_120 : decode cL_sets 120 = .ok (.ifCond .le 119, 3) := by decide +kernel
theorem dL_sets_123 : decode cL_sets 123 = .ok (.iload 4, 2) := by decide +kernel
theorem dL_sets_125 : decode cL_sets 125 = .ok (.iconst 4, 1) := by decide +kernel
theorem dL_sets_126 : decode cL_sets 126 = .ok (.ishr, 1) := by decide +kernel
theorem dL_sets_127 : decode cL_sets 127 = .ok (.aload_n 1, 1) := by decide +kernel
theorem dL_sets_128 : decode cL_sets 128 = .ok (.bipush 10, 2) := by decide +kernel
theorem dL_sets_130 : decode cL_sets 130 = .ok (.iaload, 1) := by decide +kernel
theorem dL_sets_131 : decode cL_sets 131 = .ok (.invokestatic 102, 3) := by decide +kernel
theorem dL_sets_134 : decode cL_sets 134 = .ok (.istore 5, 2) := by decide +kernel
theorem dL_sets_136 : decode cL_sets 136 = .ok (.iconst 1, 1) := by decide +kernel
theorem dL_sets_137 : decode cL_sets 137 = .ok (.iload 4, 2) := by decide +kernel
theorem dL_sets_139 : decode cL_sets 139 = .ok (.bipush 7, 2) := by decide +kernel
theorem dL_sets_141 : decode cL_sets 141 = .ok (.ishr, 1) := by decide +kernel
theorem dL_sets_142 : decode cL_sets 142 = .ok (.bipush 12, 2) := by decide +kernel
theorem dL_sets_144 : decode cL_sets 144 = .ok (.invokestatic 102, 3) := by decide +kernel
theorem dL_sets_147 : decode cL_sets 147 = .ok (.iadd, 1) := by decide +kernel
theorem dL_sets_148 : decode cL_sets 148 = .ok (.istore 6, 2) := by decide +kernel
theorem dL_sets_150 : decode cL_sets 150 = .ok (.aload_n 3, 1) := by decide +kernel
theorem dL_sets_151 : decode cL_sets 151 = .ok (.iconst 2, 1) := by decide +kernel
theorem dL_sets_152 : decode cL_sets 152 = .ok (.iload 5, 2) := by decide +kernel
theorem dL_sets_154 : decode cL_sets 154 = .ok (.imul, 1) := by decide +kernel
theorem dL_sets_155 : decode cL_sets 155 = .ok (.iconst 1, 1) := by decide +kernel
theorem dL_sets_156 : decode cL_sets 156 = .ok (.iadd, 1) := by decide +kernel
theorem dL_sets_157 : decode cL_sets 157 = .ok (.daload, 1) := by decide +kernel
theorem dL_sets_158 : decode cL_sets 158 = .ok (.iload 6, 2) := by decide +kernel
theorem dL_sets_160 : decode cL_sets 160 = .ok (.i2d, 1) := by decide +kernel
theorem dL_sets_161 : decode cL_sets 161 = .ok (.dcmp .l, 1) := by decide +kernel
theorem dL_sets_162 : decode cL_sets 162 = .ok (.ifCond .ne 8, 3) := by decide +kernel
theorem dL_sets_165 : decode cL_sets 165 = .ok (.bipush (-5), 2) := by decide +kernel
theorem dL_sets_167 : decode cL_sets 167 = .ok (.goto 4, 3) := by decide +kernel
theorem dL_sets_170 : decode cL_sets 170 = .ok (.iconst 1, 1) := by decide +kernel
theorem dL_sets_171 : decode cL_sets 171 = .ok (.istore 7, 2) := by decide +kernel
theorem dL_sets_173 : decode cL_sets 173 = .ok (.aload_n 3, 1) := by decide +kernel
theorem dL_sets_174 : decode cL_sets 174 = .ok (.iconst 2, 1) := by decide +kernel
theorem dL_sets_175 : decode cL_sets 175 = .ok (.iload 5, 2) := by decide +kernel
theorem dL_sets_177 : decode cL_sets 177 = .ok (.imul, 1) := by decide +kernel
theorem dL_sets_178 : decode cL_sets 178 = .ok (.iconst 1, 1) := by decide +kernel
theorem dL_sets_179 : decode cL_sets 179 = .ok (.iadd, 1) := by decide +kernel
theorem dL_sets_180 : decode cL_sets 180 = .ok (.iload 6, 2) := by decide +kernel
theorem dL_sets_182 : decode cL_sets 182 = .ok (.i2d, 1) := by decide +kernel
theorem dL_sets_183 : decode cL_sets 183 = .ok (.dastore, 1) := by decide +kernel
theorem dL_sets_184 : decode cL_sets 184 = .ok (.aload_n 0, 1) := by decide +kernel
theorem dL_sets_185 : decode cL_sets 185 = .ok (.iload 5, 2) := by decide +kernel
theorem dL_sets_187 : decode cL_sets 187 = .ok (.bipush 8, 2) := by decide +kernel
theorem dL_sets_189 : decode cL_sets 189 = .ok (.iload 6, 2) := by decide +kernel
theorem dL_sets_191 : decode cL_sets 191 = .ok (.imul, 1) := by decide +kernel
theorem dL_sets_192 : decode cL_sets 192 = .ok (.invokestatic 73, 3) := by decide +kernel
theorem dL_sets_195 : decode cL_sets 195 = .ok (.invokevirtual 137, 3) := by decide +kernel
theorem dL_sets_198 : decode cL_sets 198 = .ok (.iload 7, 2) := by decide +kernel
theorem dL_sets_200 : decode cL_sets 200 = .ok (.if_icmp .ne 37, 3) := by decide +kernel
theorem dL_sets_203 : decode cL_sets 203 = .ok (.aload_n 0, 1) := by decide +kernel
theorem dL_sets_204 : decode cL_sets 204 = .ok (.aload_n 1, 1) := by decide +kernel
theorem dL_sets_205 : decode cL_sets 205 = .ok (.bipush 10, 2) := by decide +kernel
theorem dL_sets_207 : decode cL_sets 207 = .ok (.iaload, 1) := by decide +kernel
theorem dL_sets_208 : decode cL_sets 208 = .ok (.bipush 8, 2) := by decide +kernel
theorem dL_sets_210 : decode cL_sets 210 = .ok (.invokestatic 73, 3) := by decide +kernel
theorem dL_sets_213 : decode cL_sets 213 = .ok (.invokevirtual 137, 3) := by decide +kernel
theorem dL_sets_216 : decode cL_sets 216 = .ok (.iconst (-1), 1) := by decide +kernel
theorem dL_sets_217 : decode cL_sets 217 = .ok (.if_icmp .ne 20, 3) := by decide +kernel
theorem dL_sets_220 : decode cL_sets 220 = .ok (.aload_n 0, 1) := by decide +kernel
theorem dL_sets_221 : decode cL_sets 221 = .ok (.iload 5, 2) := by decide +kernel
theorem dL_sets_223 : decode cL_sets 223 = .ok (.ldc 140, 2) := by decide +kernel
theorem dL_sets_225 : decode cL_sets 225 = .ok (.invokevirtual 137, 3) := by decide +kernel
theorem dL_sets_228 : decode cL_sets 228 = .ok (.bipush (-2), 2) := by decide +kernel
theorem dL_sets_230 : decode cL_sets 230 = .ok (.if_icmp .ne 7, 3) := by decide +kernel
theorem dL_sets_233 : decode cL_sets 233 = .ok (.iconst 1, 1) := by decide +kernel
theorem dL_sets_234 : decode cL_sets 234 = .ok (.goto 4, 3) := by decide +kernel
theorem dL_sets_237 : decode cL_sets 237 = .ok (.iconst 0, 1) := by decide +kernel
theorem dL_sets_238 : decode cL_sets 238 = .ok (.ireturn, 1) := by decide +kernel
theorem dL_sets_239 : decode cL_sets 239 = .ok (.iload 4, 2) := by decide +kernel
theorem dL_sets_241 : decode cL_sets 241 = .ok (.iconst 4, 1) := by decide +kernel
theorem dL_sets_242 : decode cL_sets 242 = .ok (.ishr, 1) := by decide +kernel
theorem dL_sets_243 : decode cL_sets 243 = .ok (.iconst 2, 1) := by decide +kernel
theorem dL_sets_244 : decode cL_sets 244 = .ok (.invokestatic 102, 3) := by decide +kernel
theorem dL_sets_247 : decode cL_sets 247 = .ok (.ifCond .ne 146, 3) := by decide +kernel
theorem dL_sets_250 : decode cL_sets 250 = .ok (.aload_n 1, 1) := by decide +kernel
theorem dL_sets_251 : decode cL_sets 251 = .ok (.bipush 9, 2) := by decide +kernel
theorem dL_sets_253 : decode cL_sets 253 = .ok (.iaload, 1) := by decide +kernel
theorem dL_sets_254 : decode cL_sets 254 = .ok (.ifCond .le 139, 3) := by decide +kernel
theorem dL_sets_257 : decode cL_sets 257 = .ok (.iload 4, 2) := by decide +kernel
theorem dL_sets_259 : decode cL_sets 259 = .ok (.bipush 6, 2) := by decide +kernel
theorem dL_sets_261 : decode cL_sets 261 = .ok (.ishr, 1) := by decide +kernel
theorem dL_sets_262 : decode cL_sets 262 = .ok (.aload_n 1, 1) := by decide +kernel
theorem dL_sets_263 : decode cL_sets 263 = .ok (.bipush 9, 2) := by decide +kernel
theorem dL_sets_265 : decode cL_sets 265 = .ok (.iaload, 1) := by decide +kernel
theorem dL_sets_266 : decode cL_sets 266 = .ok (.invokestatic 102, 3) := by decide +kernel
theorem dL_sets_269 : decode cL_sets 269 = .ok (.istore 5, 2) := by decide +kernel
theorem dL_sets_271 : decode cL_sets 271 = .ok (.iconst 1, 1) := by decide +kernel
theorem dL_sets_272 : decode cL_sets 272 = .ok (.iload 4, 2) := by decide +kernel
theorem dL_sets_274 : decode cL_sets 274 = .ok (.bipush 9, 2) := by decide +kernel
theorem dL_sets_276 : decode cL_sets 276 = .ok (.ishr, 1) := by decide +kernel
theorem dL_sets_277 : decode cL_sets 277 = .ok (.iconst 4, 1) := by decide +kernel
theorem dL_sets_278 : decode cL_sets 278 = .ok (.invokestatic 102, 3) := by decide +kernel
theorem dL_sets_281 : decode cL_sets 281 = .ok (.iadd, 1) := by decide +kernel
theorem dL_sets_282 : decode cL_sets 282 = .ok (.istore 6, 2) := by decide +kernel
theorem dL_sets_284 : decode cL_sets 284 = .ok (.aload_n 2, 1) := by decide +kernel
theorem dL_sets_285 : decode cL_sets 285 = .ok (.bipush 6, 2) := by decide +kernel
theorem dL_sets_287 : decode cL_sets 287 = .ok (.iload 5, 2) := by decide +kernel
theorem dL_sets_289 : decode cL_sets 289 = .ok (.imul, 1) := by decide +kernel
theorem dL_sets_290 : decode cL_sets 290 = .ok (.iaload, 1) := by decide +kernel
theorem dL_sets_291 : decode cL_sets 291 = .ok (.ifCond .ne 8, 3) := by decide +kernel
theorem dL_sets_294 : decode cL_sets 294 = .ok (.bipush (-4), 2) := by decide +kernel
theorem dL_sets_296 : decode cL_sets 296 = .ok (.goto 31, 3) := by decide +kernel
theorem dL_sets_299 : decode cL_sets 299 = .ok (.aload_n 2, 1) := by decide +kernel
theorem dL_sets_300 : decode cL_sets 300 = .ok (.bipush 6, 2) := by decide +kernel
theorem dL_sets_302 : decode cL_sets 302 = .ok (.iload 5, 2) := by decide +kernel
theorem dL_sets_304 : decode cL_sets 304 = .ok (.imul, 1) := by decide +kernel
theorem dL_sets_305 : decode cL_sets 305 = .ok (.iconst 3, 1) := by decide +kernel
theorem dL_sets_306 : decode cL_sets 306 = .ok (.iadd, 1) := by decide +kernel
theorem dL_sets_307 : decode cL_sets 307 = .ok (.iaload, 1) := by decide +kernel
theorem dL_sets_308 : decode cL_sets 308 = .ok (.iload 6, 2) := by decide +kernel
theorem dL_sets_310 : decode cL_sets 310 = .ok (.if_icmp .ne 8, 3) := by decide +kernel
theorem dL_sets_313 : decode cL_sets 313 = .ok (.bipush (-5), 2) := by decide +kernel
theorem dL_sets_315 : decode cL_sets 315 = .ok (.goto 12, 3) := by decide +kernel
theorem dL_sets_318 : decode cL_sets 318 = .ok (.aload_n 2, 1) := by decide +kernel
theorem dL_sets_319 : decode cL_sets 319 = .ok (.bipush 6, 2) := by decide +kernel
theorem dL_sets_321 : decode cL_sets 321 = .ok (.iload 5, 2) := by decide +kernel
theorem dL_sets_323 : decode cL_sets 323 = .ok (.imul, 1) := by decide +kernel
theorem dL_sets_324 : decode cL_sets 324 = .ok (.iconst 3, 1) := by decide +kernel
theorem dL_sets_325 : decode cL_sets 325 = .ok (.iadd, 1) := by decide +kernel
theorem dL_sets_326 : decode cL_sets 326 = .ok (.iaload, 1) := by decide +kernel
theorem dL_sets_327 : decode cL_sets 327 = .ok (.istore 7, 2) := by decide +kernel
theorem dL_sets_329 : decode cL_sets 329 = .ok (.aload_n 2, 1) := by decide +kernel
theorem dL_sets_330 : decode cL_sets 330 = .ok (.bipush 6, 2) := by decide +kernel
theorem dL_sets_332 : decode cL_sets 332 = .ok (.iload 5, 2) := by decide +kernel
theorem dL_sets_334 : decode cL_sets 334 = .ok (.imul, 1) := by decide +kernel
theorem dL_sets_335 : decode cL_sets 335 = .ok (.iconst 3, 1) := by decide +kernel
theorem dL_sets_336 : decode cL_sets 336 = .ok (.iadd, 1) := by decide +kernel
theorem dL_sets_337 : decode cL_sets 337 = .ok (.aload_n 2, 1) := by decide +kernel
theorem dL_sets_338 : decode cL_sets 338 = .ok (.bipush 6, 2) := by decide +kernel
theorem dL_sets_340 : decode cL_sets 340 = .ok (.iload 5, 2) := by decide +kernel
theorem dL_sets_342 : decode cL_sets 342 = .ok (.imul, 1) := by decide +kernel
theorem dL_sets_343 : decode cL_sets 343 = .ok (.iaload, 1) := by decide +kernel
theorem dL_sets_344 : decode cL_sets 344 = .ok (.ifCond .ne 15, 3) := by decide +kernel
theorem dL_sets_347 : decode cL_sets 347 = .ok (.aload_n 2, 1) := by decide +kernel
theorem dL_sets_348 : decode cL_sets 348 = .ok (.bipush 6, 2) := by decide +kernel
theorem dL_sets_350 : decode cL_sets 350 = .ok (.iload 5, 2) := by decide +kernel
theorem dL_sets_352 : decode cL_sets 352 = .ok (.imul, 1) := by decide +kernel
theorem dL_sets_353 : decode cL_sets 353 = .ok (.iconst 3, 1) := by decide +kernel
theorem dL_sets_354 : decode cL_sets 354 = .ok (.iadd, 1) := by decide +kernel
theorem dL_sets_355 : decode cL_sets 355 = .ok (.iaload, 1) := by decide +kernel
theorem dL_sets_356 : decode cL_sets 356 = .ok (.goto 5, 3) := by decide +kernel
theorem dL_sets_359 : decode cL_sets 359 = .ok (.iload 6, 2) := by decide +kernel
theorem dL_sets_361 : decode cL_sets 361 = .ok (.iastore, 1) := by decide +kernel
theorem dL_sets_362 : decode cL_sets 362 = .ok (.aload_n 0, 1) := by decide +kernel
theorem dL_sets_363 : decode cL_sets 363 = .ok (.iload 5, 2) := by decide +kernel
end
section
theorem dL_sets_365 : decode cL_sets 365 = .ok (.iload 6, 2) := by decide +kernel
theorem dL_sets_367 : decode cL_sets 367 = .ok (.invokevirtual 141, 3) := by decide +kernel
theorem dL_sets_370 : decode cL_sets 370 = .ok (.iload 7, 2) := by decide +kernel
theorem dL_sets_372 : decode cL_sets 372 = .ok (.if_icmp .ne 19, 3) := by decide +kernel
theorem dL_sets_375 : decode cL_sets 375 = .ok (.aload_n 0, 1) := by decide +kernel
theorem dL_sets_376 : decode cL_sets 376 = .ok (.iload 5, 2) := by decide +kernel
theorem dL_sets_378 : decode cL_sets 378 = .ok (.iconst 0, 1) := by decide +kernel
theorem dL_sets_379 : decode cL_sets 379 = .ok (.invokevirtual 141, 3) := by decide +kernel
theorem dL_sets_382 : decode cL_sets 382 = .ok (.bipush (-2), 2) := by decide +kernel
theorem dL_sets_384 : decode cL_sets 384 = .ok (.if_icmp .ne 7, 3) := by decide +kernel
theorem dL_sets_387 : decode cL_sets 387 = .ok (.iconst 1, 1) := by decide +kernel
theorem dL_sets_388 : decode cL_sets 388 = .ok (.goto 4, 3) := by decide +kernel
theorem dL_sets_391 : decode cL_sets 391 = .ok (.iconst 0, 1) := by decide +kernel
theorem dL_sets_392 : decode cL_sets 392 = .ok (.ireturn, 1) := by decide +kernel
theorem dL_sets_393 : decode cL_sets 393 = .ok (.iload 4, 2) := by decide +kernel
theorem dL_sets_395 : decode cL_sets 395 = .ok (.bipush 6, 2) := by decide +kernel
theorem dL_sets_397 : decode cL_sets 397 = .ok (.ishr, 1) := by decide +kernel
theorem dL_sets_398 : decode cL_sets 398 = .ok (.iconst 3, 1) := by decide +kernel
theorem dL_sets_399 : decode cL_sets 399 = .ok (.invokestatic 102, 3) := by decide +kernel
theorem dL_sets_402 : decode cL_sets 402 = .ok (.istore 5, 2) := by decide +kernel
theorem dL_sets_404 : decode cL_sets 404 = .ok (.iload 5, 2) := by decide +kernel
theorem dL_sets_406 : decode cL_sets 406 = .ok (.iconst 1, 1) := by decide +kernel
theorem dL_sets_407 : decode cL_sets 407 = .ok (.iadd, 1) := by decide +kernel
theorem dL_sets_408 : decode cL_sets 408 = .ok (.iload 4, 2) := by decide +kernel
theorem dL_sets_410 : decode cL_sets 410 = .ok (.bipush 9, 2) := by decide +kernel
theorem dL_sets_412 : decode cL_sets 412 = .ok (.ishr, 1) := by decide +kernel
theorem dL_sets_413 : decode cL_sets 413 = .ok (.iconst 2, 1) := by decide +kernel
theorem dL_sets_414 : decode cL_sets 414 = .ok (.invokestatic 102, 3) := by decide +kernel
theorem dL_sets_417 : decode cL_sets 417 = .ok (.iadd, 1) := by decide +kernel
theorem dL_sets_418 : decode cL_sets 418 = .ok (.iconst 3, 1) := by decide +kernel
theorem dL_sets_419 : decode cL_sets 419 = .ok (.irem, 1) := by decide +kernel
theorem dL_sets_420 : decode cL_sets 420 = .ok (.istore 6, 2) := by decide +kernel
theorem dL_sets_422 : decode cL_sets 422 = .ok (.aload_n 1, 1) := by decide +kernel
theorem dL_sets_423 : decode cL_sets 423 = .ok (.bipush 6, 2) := by decide +kernel
theorem dL_sets_425 : decode cL_sets 425 = .ok (.iaload, 1) := by decide +kernel
theorem dL_sets_426 : decode cL_sets 426 = .ok (.iload 5, 2) := by decide +kernel
theorem dL_sets_428 : decode cL_sets 428 = .ok (.if_icmp .ne 17, 3) := by decide +kernel
theorem dL_sets_431 : decode cL_sets 431 = .ok (.aload_n 1, 1) := by decide +kernel
theorem dL_sets_432 : decode cL_sets 432 = .ok (.bipush 7, 2) := by decide +kernel
theorem dL_sets_434 : decode cL_sets 434 = .ok (.iaload, 1) := by decide +kernel
theorem dL_sets_435 : decode cL_sets 435 = .ok (.iload 6, 2) := by decide +kernel
theorem dL_sets_437 : decode cL_sets 437 = .ok (.if_icmp .ne 8, 3) := by decide +kernel
theorem dL_sets_440 : decode cL_sets 440 = .ok (.bipush (-5), 2) := by decide +kernel
theorem dL_sets_442 : decode cL_sets 442 = .ok (.goto 10, 3) := by decide +kernel
theorem dL_sets_445 : decode cL_sets 445 = .ok (.iconst 3, 1) := by decide +kernel
theorem dL_sets_446 : decode cL_sets 446 = .ok (.iload 5, 2) := by decide +kernel
theorem dL_sets_448 : decode cL_sets 448 = .ok (.isub, 1) := by decide +kernel
theorem dL_sets_449 : decode cL_sets 449 = .ok (.iload 6, 2) := by decide +kernel
theorem dL_sets_451 : decode cL_sets 451 = .ok (.isub, 1) := by decide +kernel
theorem dL_sets_452 : decode cL_sets 452 = .ok (.istore 7, 2) := by decide +kernel
theorem dL_sets_454 : decode cL_sets 454 = .ok (.aload_n 1, 1) := by decide +kernel
theorem dL_sets_455 : decode cL_sets 455 = .ok (.bipush 6, 2) := by decide +kernel
theorem dL_sets_457 : decode cL_sets 457 = .ok (.iload 5, 2) := by decide +kernel
theorem dL_sets_459 : decode cL_sets 459 = .ok (.iastore, 1) := by decide +kernel
theorem dL_sets_460 : decode cL_sets 460 = .ok (.aload_n 1, 1) := by decide +kernel
theorem dL_sets_461 : decode cL_sets 461 = .ok (.bipush 7, 2) := by decide +kernel
theorem dL_sets_463 : decode cL_sets 463 = .ok (.iload 6, 2) := by decide +kernel
theorem dL_sets_465 : decode cL_sets 465 = .ok (.iastore, 1) := by decide +kernel
theorem dL_sets_466 : decode cL_sets 466 = .ok (.aload_n 1, 1) := by decide +kernel
theorem dL_sets_467 : decode cL_sets 467 = .ok (.bipush 8, 2) := by decide +kernel
theorem dL_sets_469 : decode cL_sets 469 = .ok (.iconst 3, 1) := by decide +kernel
theorem dL_sets_470 : decode cL_sets 470 = .ok (.iload 5, 2) := by decide +kernel
theorem dL_sets_472 : decode cL_sets 472 = .ok (.isub, 1) := by decide +kernel
theorem dL_sets_473 : decode cL_sets 473 = .ok (.iload 6, 2) := by decide +kernel
theorem dL_sets_475 : decode cL_sets 475 = .ok (.isub, 1) := by decide +kernel
theorem dL_sets_476 : decode cL_sets 476 = .ok (.iastore, 1) := by decide +kernel
theorem dL_sets_477 : decode cL_sets 477 = .ok (.aload_n 0, 1) := by decide +kernel
theorem dL_sets_478 : decode cL_sets 478 = .ok (.iload 5, 2) := by decide +kernel
theorem dL_sets_480 : decode cL_sets 480 = .ok (.iload 6, 2) := by decide +kernel
theorem dL_sets_482 : decode cL_sets 482 = .ok (.invokevirtual 144, 3) := by decide +kernel
theorem dL_sets_485 : decode cL_sets 485 = .ok (.iload 7, 2) := by decide +kernel
theorem dL_sets_487 : decode cL_sets 487 = .ok (.if_icmp .ne 20, 3) := by decide +kernel
theorem dL_sets_490 : decode cL_sets 490 = .ok (.aload_n 0, 1) := by decide +kernel
theorem dL_sets_491 : decode cL_sets 491 = .ok (.iload 5, 2) := by decide +kernel
theorem dL_sets_493 : decode cL_sets 493 = .ok (.iload 5, 2) := by decide +kernel
theorem dL_sets_495 : decode cL_sets 495 = .ok (.invokevirtual 144, 3) := by decide +kernel
theorem dL_sets_498 : decode cL_sets 498 = .ok (.bipush (-2), 2) := by decide +kernel
theorem dL_sets_500 : decode cL_sets 500 = .ok (.if_icmp .ne 7, 3) := by decide +kernel
theorem dL_sets_503 : decode cL_sets 503 = .ok (.iconst 1, 1) := by decide +kernel
theorem dL_sets_504 : decode cL_sets 504 = .ok (.goto 4, 3) := by decide +kernel
theorem dL_sets_507 : decode cL_sets 507 = .ok (.iconst 0, 1) := by decide +kernel
theorem dL_sets_508 : decode cL_sets 508 = .ok (.ireturn, 1) := by decide +kernel
theorem dL_passes_0 : decode cL_passes 0 = .ok (.iconst 0, 1) := by decide +kernel
theorem dL_passes_1 : decode cL_passes 1 = .ok (.istore 9, 2) := by decide +kernel
theorem dL_passes_3 : decode cL_passes 3 = .ok (.iconst 0, 1) := by decide +kernel
theorem dL_passes_4 : decode cL_passes 4 = .ok (.istore 10, 2) := by decide +kernel
theorem dL_passes_6 : decode cL_passes 6 = .ok (.iload 10, 2) := by decide +kernel
theorem dL_passes_8 : decode cL_passes 8 = .ok (.iload 8, 2) := by decide +kernel
theorem dL_passes_10 : decode cL_passes 10 = .ok (.if_icmp .ge 28, 3) := by decide +kernel
theorem dL_passes_13 : decode cL_passes 13 = .ok (.iload 9, 2) := by decide +kernel
theorem dL_passes_15 : decode cL_passes 15 = .ok (.aload_n 1, 1) := by decide +kernel
theorem dL_passes_16 : decode cL_passes 16 = .ok (.aload_n 2, 1) := by decide +kernel
theorem dL_passes_17 : decode cL_passes 17 = .ok (.aload_n 3, 1) := by decide +kernel
theorem dL_passes_18 : decode cL_passes 18 = .ok (.aload 4, 2) := by decide +kernel
theorem dL_passes_20 : decode cL_passes 20 = .ok (.aload 5, 2) := by decide +kernel
theorem dL_passes_22 : decode cL_passes 22 = .ok (.aload 6, 2) := by decide +kernel
theorem dL_passes_24 : decode cL_passes 24 = .ok (.aload 7, 2) := by decide +kernel
theorem dL_passes_26 : decode cL_passes 26 = .ok (.invokestatic 147, 3) := by decide +kernel
theorem dL_passes_29 : decode cL_passes 29 = .ok (.iadd, 1) := by decide +kernel
theorem dL_passes_30 : decode cL_passes 30 = .ok (.istore 9, 2) := by decide +kernel
theorem dL_passes_32 : decode cL_passes 32 = .ok (.iinc 10 1, 3) := by decide +kernel
theorem dL_passes_35 : decode cL_passes 35 = .ok (.goto (-29), 3) := by decide +kernel
theorem dL_passes_38 : decode cL_passes 38 = .ok (.aload_n 0, 1) := by decide +kernel
theorem dL_passes_39 : decode cL_passes 39 = .ok (.iload 8, 2) := by decide +kernel
theorem dL_passes_41 : decode cL_passes 41 = .ok (.invokevirtual 151, 3) := by decide +kernel
theorem dL_passes_44 : decode cL_passes 44 = .ok (.iload 9, 2) := by decide +kernel
theorem dL_passes_46 : decode cL_passes 46 = .ok (.if_icmp .ne 17, 3) := by decide +kernel
theorem dL_passes_49 : decode cL_passes 49 = .ok (.aload_n 0, 1) := by decide +kernel
theorem dL_passes_50 : decode cL_passes 50 = .ok (.iconst 0, 1) := by decide +kernel
theorem dL_passes_51 : decode cL_passes 51 = .ok (.invokevirtual 151, 3) := by decide +kernel
theorem dL_passes_54 : decode cL_passes 54 = .ok (.bipush (-2), 2) := by decide +kernel
theorem dL_passes_56 : decode cL_passes 56 = .ok (.if_icmp .ne 7, 3) := by decide +kernel
theorem dL_passes_59 : decode cL_passes 59 = .ok (.iconst 1, 1) := by decide +kernel
theorem dL_passes_60 : decode cL_passes 60 = .ok (.goto 4, 3) := by decide +kernel
theorem dL_passes_63 : decode cL_passes 63 = .ok (.iconst 0, 1) := by decide +kernel
theorem dL_passes_64 : decode cL_passes 64 = .ok (.ireturn, 1) := by decide +kernel
theorem dL_law_0 : decode cL_law 0 = .ok (.new 69, 3) := by decide +kernel
theorem dL_law_3 : decode cL_law 3 = .ok (.dup, 1) := by decide +kernel
theorem dL_law_4 : decode cL_law 4 = .ok (.invokespecial 154, 3) := by decide +kernel
theorem dL_law_7 : decode cL_law 7 = .ok (.astore_n 1, 1) := by decide +kernel
theorem dL_law_8 : decode cL_law 8 = .ok (.bipush 18, 2) := by decide +kernel
theorem dL_law_10 : decode cL_law 10 = .ok (.newarray .int, 2) := by decide +kernel
theorem dL_law_12 : decode cL_law 12 = .ok (.astore_n 2, 1) := by decide +kernel
theorem dL_law_13 : decode cL_law 13 = .ok (.bipush 48, 2) := by decide +kernel
theorem dL_law_15 : decode cL_law 15 = .ok (.newarray .int, 2) := by decide +kernel
theorem dL_law_17 : decode cL_law 17 = .ok (.astore_n 3, 1) := by decide +kernel
theorem dL_law_18 : decode cL_law 18 = .ok (.bipush 28, 2) := by decide +kernel
theorem dL_law_20 : decode cL_law 20 = .ok (.newarray .int, 2) := by decide +kernel
theorem dL_law_22 : decode cL_law 22 = .ok (.astore 4, 2) := by decide +kernel
theorem dL_law_24 : decode cL_law 24 = .ok (.bipush 10, 2) := by decide +kernel
theorem dL_law_26 : decode cL_law 26 = .ok (.newarray .double, 2) := by decide +kernel
theorem dL_law_28 : decode cL_law 28 = .ok (.astore 5, 2) := by decide +kernel
theorem dL_law_30 : decode cL_law 30 = .ok (.bipush 60, 2) := by decide +kernel
theorem dL_law_32 : decode cL_law 32 = .ok (.newarray .int, 2) := by decide +kernel
theorem dL_law_34 : decode cL_law 34 = .ok (.astore 6, 2) := by decide +kernel
theorem dL_law_36 : decode cL_law 36 = .ok (.bipush 60, 2) := by decide +kernel
theorem dL_law_38 : decode cL_law 38 = .ok (.newarray .int, 2) := by decide +kernel
theorem dL_law_40 : decode cL_law 40 = .ok (.astore 7, 2) := by decide +kernel
theorem dL_law_42 : decode cL_law 42 = .ok (.bipush 10, 2) := by decide +kernel
theorem dL_law_44 : decode cL_law 44 = .ok (.newarray .int, 2) := by decide +kernel
theorem dL_law_46 : decode cL_law 46 = .ok (.astore 8, 2) := by decide +kernel
theorem dL_law_48 : decode cL_law 48 = .ok (.aload_n 2, 1) := by decide +kernel
theorem dL_law_49 : decode cL_law 49 = .ok (.iconst 2, 1) := by decide +kernel
theorem dL_law_50 : decode cL_law 50 = .ok (.bipush (-5), 2) := by decide +kernel
theorem dL_law_52 : decode cL_law 52 = .ok (.iastore, 1) := by decide +kernel
theorem dL_law_53 : decode cL_law 53 = .ok (.aload_n 2, 1) := by decide +kernel
theorem dL_law_54 : decode cL_law 54 = .ok (.iconst 3, 1) := by decide +kernel
theorem dL_law_55 : decode cL_law 55 = .ok (.bipush (-5), 2) := by decide +kernel
theorem dL_law_57 : decode cL_law 57 = .ok (.iastore, 1) := by decide +kernel
theorem dL_law_58 : decode cL_law 58 = .ok (.aload 5, 2) := by decide +kernel
theorem dL_law_60 : decode cL_law 60 = .ok (.bipush 9, 2) := by decide +kernel
theorem dL_law_62 : decode cL_law 62 = .ok (.ldc2_w 155, 3) := by decide +kernel
theorem dL_law_65 : decode cL_law 65 = .ok (.dastore, 1) := by decide +kernel
theorem dL_law_66 : decode cL_law 66 = .ok (.aload_n 2, 1) := by decide +kernel
theorem dL_law_67 : decode cL_law 67 = .ok (.bipush 7, 2) := by decide +kernel
theorem dL_law_69 : decode cL_law 69 = .ok (.iconst 1, 1) := by decide +kernel
theorem dL_law_70 : decode cL_law 70 = .ok (.iastore, 1) := by decide +kernel
theorem dL_law_71 : decode cL_law 71 = .ok (.aload_n 2, 1) := by decide +kernel
theorem dL_law_72 : decode cL_law 72 = .ok (.bipush 8, 2) := by decide +kernel
theorem dL_law_74 : decode cL_law 74 = .ok (.iconst 2, 1) := by decide +kernel
theorem dL_law_75 : decode cL_law 75 = .ok (.iastore, 1) := by decide +kernel
theorem dL_law_76 : decode cL_law 76 = .ok (.iconst 0, 1) := by decide +kernel
theorem dL_law_77 : decode cL_law 77 = .ok (.istore 9, 2) := by decide +kernel
theorem dL_law_79 : decode cL_law 79 = .ok (.iload 9, 2) := by decide +kernel
theorem dL_law_81 : decode cL_law 81 = .ok (.bipush 48, 2) := by decide +kernel
theorem dL_law_83 : decode cL_law 83 = .ok (.if_icmp .ge 318, 3) := by decide +kernel
theorem dL_law_86 : decode cL_law 86 = .ok (.aload_n 0, 1) := by decide +kernel
theorem dL_law_87 : decode cL_law 87 = .ok (.iload 9, 2) := by decide +kernel
theorem dL_law_89 : decode cL_law 89 = .ok (.invokestatic 157, 3) := by decide +kernel
theorem dL_law_92 : decode cL_law 92 = .ok (.istore 10, 2) := by decide +kernel
theorem dL_law_94 : decode cL_law 94 = .ok (.iload 9, 2) := by decide +kernel
theorem dL_law_96 : decode cL_law 96 = .ok (.bipush 7, 2) := by decide +kernel
theorem dL_law_98 : decode cL_law 98 = .ok (.if_icmp .ge 20, 3) := by decide +kernel
theorem dL_law_101 : decode cL_law 101 = .ok (.iload 9, 2) := by decide +kernel
theorem dL_law_103 : decode cL_law 103 = .ok (.iconst 2, 1) := by decide +kernel
theorem dL_law_104 : decode cL_law 104 = .ok (.irem, 1) := by decide +kernel
theorem dL_law_105 : decode cL_law 105 = .ok (.ifCond .ne 8, 3) := by decide +kernel
theorem dL_law_108 : decode cL_law 108 = .ok (.bipush 10, 2) := by decide +kernel
theorem dL_law_110 : decode cL_law 110 = .ok (.goto 18, 3) := by decide +kernel
theorem dL_law_113 : decode cL_law 113 = .ok (.bipush 11, 2) := by decide +kernel
theorem dL_law_115 : decode cL_law 115 = .ok (.goto 13, 3) := by decide +kernel
theorem dL_law_118 : decode cL_law 118 = .ok (.iload 10, 2) := by decide +kernel
theorem dL_law_120 : decode cL_law 120 = .ok (.bipush 27, 2) := by decide +kernel
theorem dL_law_122 : decode cL_law 122 = .ok (.ishr, 1) := by decide +kernel
theorem dL_law_123 : decode cL_law 123 = .ok (.bipush 10, 2) := by decide +kernel
theorem dL_law_125 : decode cL_law 125 = .ok (.invokestatic 102, 3) := by decide +kernel
theorem dL_law_128 : decode cL_law 128 = .ok (.tableswitch 163 0 11 #[64, 80, 95, 95, 95, 163, 163, 163, 163, 163, 112, 147], 64) := by decide +kernel
theorem dL_law_192 : decode cL_law 192 = .ok (.aload_n 1, 1) := by decide +kernel
theorem dL_law_193 : decode cL_law 193 = .ok (.aload_n 2, 1) := by decide +kernel
theorem dL_law_194 : decode cL_law 194 = .ok (.aload 6, 2) := by decide +kernel
theorem dL_law_196 : decode cL_law 196 = .ok (.aload 7, 2) := by decide +kernel
theorem dL_law_198 : decode cL_law 198 = .ok (.iload 10, 2) := by decide +kernel
theorem dL_law_200 : decode cL_law 200 = .ok (.invokestatic 160, 3) := by decide +kernel
theorem dL_law_203 : decode cL_law 203 = .ok (.istore 11, 2) := by decide +kernel
theorem dL_law_205 : decode cL_law 205 = .ok (.goto 129, 3) := by decide +kernel
theorem dL_law_208 : decode cL_law 208 = .ok (.aload_n 1, 1) := by decide +kernel
theorem dL_law_209 : decode cL_law 209 = .ok (.aload_n 2, 1) := by decide +kernel
theorem dL_law_210 : decode cL_law 210 = .ok (.aload_n 3, 1) := by decide +kernel
theorem dL_law_211 : decode cL_law 211 = .ok (.aload 5, 2) := by decide +kernel
theorem dL_law_213 : decode cL_law 213 = .ok (.iload 10, 2) := by decide +kernel
theorem dL_law_215 : decode cL_law 215 = .ok (.invokestatic 164, 3) := by decide +kernel
theorem dL_law_218 : decode cL_law 218 = .ok (.istore 11, 2) := by decide +kernel
theorem dL_law_220 : decode cL_law 220 = .ok (.goto 114, 3) := by decide +kernel
theorem dL_law_223 : decode cL_law 223 = .ok (.aload_n 1, 1) := by decide +kernel
theorem dL_law_224 : decode cL_law 224 = .ok (.aload_n 2, 1) := by decide +kernel
theorem dL_law_225 : decode cL_law 225 = .ok (.aload_n 3, 1) := by decide +kernel
theorem dL_law_226 : decode cL_law 226 = .ok (.aload 6, 2) := by decide +kernel
theorem dL_law_228 : decode cL_law 228 = .ok (.aload 7, 2) := by decide +kernel
theorem dL_law_230 : decode cL_law 230 = .ok (.iload 10, 2) := by decide +kernel
theorem dL_law_232 : decode cL_law 232 = .ok (.invokestatic 168, 3) := by decide +kernel
theorem dL_law_235 : decode cL_law 235 = .ok (.istore 11, 2) := by decide +kernel
theorem dL_law_237 : decode cL_law 237 = .ok (.goto 97, 3) := by decide +kernel
theorem dL_law_240 : decode cL_law 240 = .ok (.aload_n 1, 1) := by decide +kernel
theorem dL_law_241 : decode cL_law 241 = .ok (.aload_n 2, 1) := by decide +kernel
theorem dL_law_242 : decode cL_law 242 = .ok (.aload_n 3, 1) := by decide +kernel
theorem dL_law_243 : decode cL_law 243 = .ok (.iload 10, 2) := by decide +kernel
theorem dL_law_245 : decode cL_law 245 = .ok (.invokestatic 172, 3) := by decide +kernel
theorem dL_law_248 : decode cL_law 248 = .ok (.ifCond .eq 21, 3) := by decide +kernel
theorem dL_law_251 : decode cL_law 251 = .ok (.aload_n 1, 1) := by decide +kernel
theorem dL_law_252 : decode cL_law 252 = .ok (.aload_n 2, 1) := by decide +kernel
theorem dL_law_253 : decode cL_law 253 = .ok (.aload_n 3, 1) := by decide +kernel
theorem dL_law_254 : decode cL_law 254 = .ok (.iload 10, 2) := by decide +kernel
theorem dL_law_256 : decode cL_law 256 = .ok (.bipush 11, 2) := by decide +kernel
theorem dL_law_258 : decode cL_law 258 = .ok (.ishr, 1) := by decide +kernel
theorem dL_law_259 : decode cL_law 259 = .ok (.invokestatic 172, 3) := by decide +kernel
theorem dL_law_262 : decode cL_law 262 = .ok (.ifCond .eq 7, 3) := by decide +kernel
theorem dL_law_265 : decode cL_law 265 = .ok (.iconst 1, 1) := by decide +kernel
theorem dL_law_266 : decode cL_law 266 = .ok (.goto 4, 3) := by decide +kernel
theorem dL_law_269 : decode cL_law 269 = .ok (.iconst 0, 1) := by decide +kernel
theorem dL_law_270 : decode cL_law 270 = .ok (.istore 11, 2) := by decide +kernel
theorem dL_law_272 : decode cL_law 272 = .ok (.goto 62, 3) := by decide +kernel
theorem dL_law_275 : decode cL_law 275 = .ok (.aload_n 1, 1) := by decide +kernel
theorem dL_law_276 : decode cL_law 276 = .ok (.aload_n 2, 1) := by decide +kernel
theorem dL_law_277 : decode cL_law 277 = .ok (.aload 4, 2) := by decide +kernel
theorem dL_law_279 : decode cL_law 279 = .ok (.aload 5, 2) := by decide +kernel
theorem dL_law_281 : decode cL_law 281 = .ok (.iload 10, 2) := by decide +kernel
theorem dL_law_283 : decode cL_law 283 = .ok (.invokestatic 176, 3) := by decide +kernel
theorem dL_law_286 : decode cL_law 286 = .ok (.istore 11, 2) := by decide +kernel
theorem dL_law_288 : decode cL_law 288 = .ok (.goto 46, 3) := by decide +kernel
theorem dL_law_291 : decode cL_law 291 = .ok (.aload_n 1, 1) := by decide +kernel
theorem dL_law_292 : decode cL_law 292 = .ok (.aload_n 2, 1) := by decide +kernel
theorem dL_law_293 : decode cL_law 293 = .ok (.aload_n 3, 1) := by decide +kernel
theorem dL_law_294 : decode cL_law 294 = .ok (.aload 4, 2) := by decide +kernel
theorem dL_law_296 : decode cL_law 296 = .ok (.aload 5, 2) := by decide +kernel
theorem dL_law_298 : decode cL_law 298 = .ok (.aload 6, 2) := by decide +kernel
theorem dL_law_300 : decode cL_law 300 = .ok (.aload 7, 2) := by decide +kernel
theorem dL_law_302 : decode cL_law 302 = .ok (.aload 8, 2) := by decide +kernel
theorem dL_law_304 : decode cL_law 304 = .ok (.iconst 1, 1) := by decide +kernel
theorem dL_law_305 : decode cL_law 305 = .ok (.iload 10, 2) := by decide +kernel
theorem dL_law_307 : decode cL_law 307 = .ok (.iload 10, 2) := by decide +kernel
theorem dL_law_309 : decode cL_law 309 = .ok (.bipush 8, 2) := by decide +kernel
theorem dL_law_311 : decode cL_law 311 = .ok (.ishr, 1) := by decide +kernel
theorem dL_law_312 : decode cL_law 312 = .ok (.iconst 4, 1) := by decide +kernel
theorem dL_law_313 : decode cL_law 313 = .ok (.invokestatic 102, 3) := by decide +kernel
theorem dL_law_316 : decode cL_law 316 = .ok (.ifCond .ne 8, 3) := by decide +kernel
theorem dL_law_319 : decode cL_law 319 = .ok (.bipush 30, 2) := by decide +kernel
theorem dL_law_321 : decode cL_law 321 = .ok (.goto 4, 3) := by decide +kernel
theorem dL_law_324 : decode cL_law 324 = .ok (.iconst 4, 1) := by decide +kernel
theorem dL_law_325 : decode cL_law 325 = .ok (.invokestatic 102, 3) := by decide +kernel
theorem dL_law_328 : decode cL_law 328 = .ok (.iadd, 1) := by decide +kernel
theorem dL_law_329 : decode cL_law 329 = .ok (.invokestatic 179, 3) := by decide +kernel
theorem dL_law_332 : decode cL_law 332 = .ok (.istore 11, 2) := by decide +kernel
theorem dL_law_334 : decode cL_law 334 = .ok (.iload 11, 2) := by decide +kernel
theorem dL_law_336 : decode cL_law 336 = .ok (.ifCond .eq 57, 3) := by decide +kernel
theorem dL_law_339 : decode cL_law 339 = .ok (.aload_n 1, 1) := by decide +kernel
theorem dL_law_340 : decode cL_law 340 = .ok (.aload_n 2, 1) := by decide +kernel
theorem dL_law_341 : decode cL_law 341 = .ok (.aload_n 3, 1) := by decide +kernel
theorem dL_law_342 : decode cL_law 342 = .ok (.aload 4, 2) := by decide +kernel
theorem dL_law_344 : decode cL_law 344 = .ok (.aload 6, 2) := by decide +kernel
theorem dL_law_346 : decode cL_law 346 = .ok (.aload 7, 2) := by decide +kernel
theorem dL_law_348 : decode cL_law 348 = .ok (.invokestatic 183, 3) := by decide +kernel
theorem dL_law_351 : decode cL_law 351 = .ok (.ifCond .eq 42, 3) := by decide +kernel
theorem dL_law_354 : decode cL_law 354 = .ok (.aload_n 1, 1) := by decide +kernel
theorem dL_law_355 : decode cL_law 355 = .ok (.aload_n 2, 1) := by decide +kernel
theorem dL_law_356 : decode cL_law 356 = .ok (.aload 4, 2) := by decide +kernel
theorem dL_law_358 : decode cL_law 358 = .ok (.aload 5, 2) := by decide +kernel
theorem dL_law_360 : decode cL_law 360 = .ok (.invokestatic 187, 3) := by decide +kernel
theorem dL_law_363 : decode cL_law 363 = .ok (.ifCond .eq 30, 3) := by decide +kernel
theorem dL_law_366 : decode cL_law 366 = .ok (.aload_n 1, 1) := by decide +kernel
theorem dL_law_367 : decode cL_law 367 = .ok (.aload_n 2, 1) := by decide +kernel
theorem dL_law_368 : decode cL_law 368 = .ok (.aload 6, 2) := by decide +kernel
theorem dL_law_370 : decode cL_law 370 = .ok (.aload 7, 2) := by decide +kernel
theorem dL_law_372 : decode cL_law 372 = .ok (.invokestatic 191, 3) := by decide +kernel
theorem dL_law_375 : decode cL_law 375 = .ok (.ifCond .eq 18, 3) := by decide +kernel
theorem dL_law_378 : decode cL_law 378 = .ok (.aload_n 1, 1) := by decide +kernel
theorem dL_law_379 : decode cL_law 379 = .ok (.aload_n 2, 1) := by decide +kernel
theorem dL_law_380 : decode cL_law 380 = .ok (.aload_n 3, 1) := by decide +kernel
theorem dL_law_381 : decode cL_law 381 = .ok (.aload 5, 2) := by decide +kernel
theorem dL_law_383 : decode cL_law 383 = .ok (.aload 6, 2) := by decide +kernel
theorem dL_law_385 : decode cL_law 385 = .ok (.aload 7, 2) := by decide +kernel
theorem dL_law_387 : decode cL_law 387 = .ok (.invokestatic 195, 3) := by decide +kernel
theorem dL_law_390 : decode cL_law 390 = .ok (.ifCond .ne 5, 3) := by decide +kernel
theorem dL_law_393 : decode cL_law 393 = .ok (.iconst 0, 1) := by decide +kernel
theorem dL_law_394 : decode cL_law 394 = .ok (.ireturn, 1) := by decide +kernel
theorem dL_law_395 : decode cL_law 395 = .ok (.iinc 9 1, 3) := by decide +kernel
theorem dL_law_398 : decode cL_law 398 = .ok (.goto (-319), 3) := by decide +kernel
theorem dL_law_401 : decode cL_law 401 = .ok (.iconst 1, 1) := by decide +kernel
theorem dL_law_402 : decode cL_law 402 = .ok (.ireturn, 1) := by decide +kernel
end
section
theorem mWs {w : Cond} {i : Nat} (h : (k2_sels lw_privs)[i]? = some w) (g : goodWord w = true) : w ∈ Wt := List.mem_filter.mpr ⟨List.mem_append_left _ (List.mem_of_getElem? h), g⟩
theorem mW1 {w : Cond} {i : Nat} (h : tables_1_1[i]? = some w) (g : goodWord w = true) : w ∈ Wt := List.mem_filter.mpr ⟨List.mem_append_right _ (List.mem_append_left _ (List.mem_of_getElem? h)), g⟩
theorem mW2 {w : Cond} {i : Nat} (h : tables_1_2[i]? = some w) (g : goodWord w = true) : w ∈ Wt := List.mem_filter.mpr ⟨List.mem_append_right _ (List.mem_append_right _ (List.mem_append_left _ (List.mem_of_getElem? h))), g⟩
theorem mW3 {w : Cond} {i : Nat} (h : tables_1_3[i]? = some w) (g : goodWord w = true) : w ∈ Wt := List.mem_filter.mpr ⟨List.mem_append_right _ (List.mem_append_right _ (List.mem_append_right _ (List.mem_append_left _ (List.mem_of_getElem? h)))), g⟩
theorem mW4 {w : Cond} {i : Nat} (h : tables_1_4[i]? = some w) (g : goodWord w = true) : w ∈ Wt := List.mem_filter.mpr ⟨List.mem_append_right _ (List.mem_append_right _ (List.mem_append_right _ (List.mem_append_right _ (List.mem_of_getElem? h)))), g⟩
theorem Wt_all {P : Cond → Prop} {b : Bool} (_ : b = true) (h : ∀ w, w ∈ lw_tbl → P w) : ∀ w ∈ Wt, P w := fun w hw => h w (List.mem_filter.mp hw).1
theorem Wt_in : ∀ w ∈ Wt, w ∈ lw_tbl := fun _ hw => (List.mem_filter.mp hw).1
theorem Wt_good : GoodIn Wt Wt := fun _ hw => ⟨hw, good_of_word (List.mem_filter.mp hw).2⟩
set_option maxRecDepth 20000 in
theorem mw_1_0 : (Cond.initialized "DustRobotLaw") ∈ Wt := mW1 (i := 0) rfl rfl
set_option maxRecDepth 20000 in
theorem mw_1_1 : (Cond.initialized "DustRobot") ∈ Wt := mW1 (i := 1) rfl rfl
set_option maxRecDepth 20000 in
theorem mw_1_2 : (Cond.initialized "DustRobot$State") ∈ Wt := mW1 (i := 2) rfl rfl
set_option maxRecDepth 20000 in
theorem mw_1_3 : (Cond.initialized "DustRobot$Store") ∈ Wt := mW1 (i := 3) rfl rfl
set_option maxRecDepth 20000 in
theorem mw_1_4 : (Cond.initialized "DustRobot$Item") ∈ Wt := mW1 (i := 4) rfl rfl
set_option maxRecDepth 20000 in
theorem mw_1_5 : (Cond.initialized "DustRobot$Drive") ∈ Wt := mW1 (i := 5) rfl rfl
set_option maxRecDepth 20000 in
theorem mw_1_6 : (Cond.initialized "DustRobot$Queue") ∈ Wt := mW1 (i := 6) rfl rfl
set_option maxRecDepth 20000 in
theorem mw_1_7 : (Cond.initialized "DustRobot$Job") ∈ Wt := mW1 (i := 7) rfl rfl
set_option maxRecDepth 20000 in
theorem mw_1_8 : (Cond.initialized "DustRobot$Log") ∈ Wt := mW1 (i := 8) rfl rfl
set_option maxRecDepth 20000 in
theorem mw_1_9 : (Cond.initialized "DustRobot$History") ∈ Wt := mW1 (i := 9) rfl rfl
set_option maxRecDepth 20000 in
theorem mw_1_10 : (Cond.initialized "DustRobot$Text") ∈ Wt := mW1 (i := 10) rfl rfl
set_option maxRecDepth 20000 in
theorem mw_1_11 : (Cond.initialized "java/lang/System") ∈ Wt := mW1 (i := 11) rfl rfl
set_option maxRecDepth 20000 in
theorem mw_1_12 : (Cond.initialized "java/lang/Math") ∈ Wt := mW1 (i := 12) rfl rfl
set_option maxRecDepth 20000 in
theorem mw_1_13 : (Cond.classLink "DustRobotLaw" 69 "DustRobot") ∈ Wt := mW1 (i := 13) rfl rfl
set_option maxRecDepth 20000 in
theorem mw_1_14 : (Cond.instantiable "DustRobot" 6) ∈ Wt := mW1 (i := 14) rfl rfl
set_option maxRecDepth 20000 in
theorem mw_1_15 : (Cond.methodLink "DustRobotLaw" 154 yX9_init) ∈ Wt := mW1 (i := 15) rfl rfl
set_option maxRecDepth 20000 in
theorem mw_1_16 : (Cond.instanceMethod yX9_init) ∈ Wt := mW1 (i := 16) rfl rfl
set_option maxRecDepth 20000 in
theorem mw_1_17 : (Cond.code yX9_init cX9_init 1 (Option.none : Option Jvm.ClassFile.FieldType)) ∈ Wt := mW1 (i := 17) rfl rfl
set_option maxRecDepth 20000 in
theorem mw_1_18 : (Cond.methodLink "DustRobot" 1 (⟨"java/lang/Object", "<init>", "()V"⟩ : MethodName)) ∈ Wt := mW1 (i := 18) rfl rfl
set_option maxRecDepth 20000 in
theorem mw_1_19 : (Cond.instanceMethod (⟨"java/lang/Object", "<init>", "()V"⟩ : MethodName)) ∈ Wt := mW1 (i := 19) rfl rfl
set_option maxRecDepth 20000 in
theorem mw_1_20 : (Cond.code (⟨"java/lang/Object", "<init>", "()V"⟩ : MethodName) object_method_1_code 1 (Option.none : Option Jvm.ClassFile.FieldType)) ∈ Wt := mW1 (i := 20) rfl rfl
set_option maxRecDepth 20000 in
theorem mw_1_21 : (Cond.classLink "DustRobot" 7 "DustRobot$State") ∈ Wt := mW1 (i := 21) rfl rfl
set_option maxRecDepth 20000 in
theorem mw_1_22 : (Cond.instantiable "DustRobot$State" 12) ∈ Wt := mW1 (i := 22) rfl rfl
set_option maxRecDepth 20000 in
theorem mw_1_23 : (Cond.methodLink "DustRobot" 9 yX6_init) ∈ Wt := mW1 (i := 23) rfl rfl
set_option maxRecDepth 20000 in
theorem mw_1_24 : (Cond.instanceMethod yX6_init) ∈ Wt := mW1 (i := 24) rfl rfl
set_option maxRecDepth 20000 in
theorem mw_1_25 : (Cond.code yX6_init cX6_init 1 (Option.none : Option Jvm.ClassFile.FieldType)) ∈ Wt := mW1 (i := 25) rfl rfl
set_option maxRecDepth 20000 in
theorem mw_1_26 : (Cond.methodLink "DustRobot$State" 3 (⟨"java/lang/Object", "<init>", "()V"⟩ : MethodName)) ∈ Wt := mW1 (i := 26) rfl rfl
set_option maxRecDepth 20000 in
theorem mw_1_27 : (Cond.classLink "DustRobot$State" 9 "DustRobot$Store") ∈ Wt := mW1 (i := 27) rfl rfl
set_option maxRecDepth 20000 in
theorem mw_1_28 : (Cond.instantiable "DustRobot$Store" 4) ∈ Wt := mW1 (i := 28) rfl rfl
set_option maxRecDepth 20000 in
theorem mw_1_29 : (Cond.methodLink "DustRobot$State" 11 yX7_init) ∈ Wt := mW1 (i := 29) rfl rfl
set_option maxRecDepth 20000 in
theorem mw_1_30 : (Cond.instanceMethod yX7_init) ∈ Wt := mW1 (i := 30) rfl rfl
set_option maxRecDepth 20000 in
theorem mw_1_31 : (Cond.code yX7_init cX7_init 2 (Option.none : Option Jvm.ClassFile.FieldType)) ∈ Wt := mW1 (i := 31) rfl rfl
set_option maxRecDepth 20000 in
theorem mw_1_32 : (Cond.methodLink "DustRobot$Store" 3 (⟨"java/lang/Object", "<init>", "()V"⟩ : MethodName)) ∈ Wt := mW1 (i := 32) rfl rfl
set_option maxRecDepth 20000 in
theorem mw_1_33 : (Cond.classLink "DustRobot$Store" 9 "DustRobot$Item") ∈ Wt := mW1 (i := 33) rfl rfl
set_option maxRecDepth 20000 in
theorem mw_1_35 : (Cond.instantiable "DustRobot$Item" 8) ∈ Wt := mW1 (i := 35) rfl rfl
set_option maxRecDepth 20000 in
theorem mw_1_36 : (Cond.methodLink "DustRobot$Store" 17 yX2_init) ∈ Wt := mW1 (i := 36) rfl rfl
set_option maxRecDepth 20000 in
theorem mw_1_37 : (Cond.instanceMethod yX2_init) ∈ Wt := mW1 (i := 37) rfl rfl
set_option maxRecDepth 20000 in
theorem mw_1_38 : (Cond.code yX2_init cX2_init 1 (Option.none : Option Jvm.ClassFile.FieldType)) ∈ Wt := mW1 (i := 38) rfl rfl
set_option maxRecDepth 20000 in
theorem mw_1_39 : (Cond.methodLink "DustRobot$Item" 3 (⟨"java/lang/Object", "<init>", "()V"⟩ : MethodName)) ∈ Wt := mW1 (i := 39) rfl rfl
set_option maxRecDepth 20000 in
theorem mw_1_40 : (Cond.fieldLink "DustRobot$Item" 15 "DustRobot$Item" "isCleaner" "Z") ∈ Wt := mW1 (i := 40) rfl rfl
set_option maxRecDepth 20000 in
theorem mw_1_41 : (Cond.fieldLink "DustRobot$State" 100 "DustRobot$Item" "isCleaner" "Z") ∈ Wt := mW1 (i := 41) rfl rfl
set_option maxRecDepth 20000 in
theorem mw_1_42 : (Cond.fieldLink "DustRobot" 105 "DustRobot$Item" "isCleaner" "Z") ∈ Wt := mW1 (i := 42) rfl rfl
set_option maxRecDepth 20000 in
theorem mw_1_43 : (Cond.fieldLink "DustRobot$Store" 59 "DustRobot$Item" "isCleaner" "Z") ∈ Wt := mW1 (i := 43) rfl rfl
set_option maxRecDepth 20000 in
theorem mw_1_44 : (Cond.fieldLink "DustRobot$Item" 30 "DustRobot$Item" "home" "I") ∈ Wt := mW1 (i := 44) rfl rfl
set_option maxRecDepth 20000 in
theorem mw_1_45 : (Cond.fieldLink "DustRobot$Store" 39 "DustRobot$Item" "home" "I") ∈ Wt := mW1 (i := 45) rfl rfl
set_option maxRecDepth 20000 in
theorem mw_1_46 : (Cond.fieldLink "DustRobot$State" 201 "DustRobot$Item" "home" "I") ∈ Wt := mW1 (i := 46) rfl rfl
set_option maxRecDepth 20000 in
theorem mw_1_47 : (Cond.fieldLink "DustRobot$Item" 33 "DustRobot$Item" "where" "I") ∈ Wt := mW1 (i := 47) rfl rfl
set_option maxRecDepth 20000 in
theorem mw_1_48 : (Cond.fieldLink "DustRobot$State" 230 "DustRobot$Item" "where" "I") ∈ Wt := mW1 (i := 48) rfl rfl
set_option maxRecDepth 20000 in
theorem mw_1_49 : (Cond.fieldLink "DustRobot$Item" 36 "DustRobot$Item" "drive" "I") ∈ Wt := mW1 (i := 49) rfl rfl
set_option maxRecDepth 20000 in
theorem mw_1_50 : (Cond.fieldLink "DustRobot$State" 233 "DustRobot$Item" "drive" "I") ∈ Wt := mW1 (i := 50) rfl rfl
set_option maxRecDepth 20000 in
theorem mw_1_51 : (Cond.fieldLink "DustRobot$Item" 19 "DustRobot$Item" "amount" "I") ∈ Wt := mW1 (i := 51) rfl rfl
set_option maxRecDepth 20000 in
theorem mw_1_52 : (Cond.fieldLink "DustRobot$Drive" 41 "DustRobot$Item" "amount" "I") ∈ Wt := mW1 (i := 52) rfl rfl
set_option maxRecDepth 20000 in
theorem mw_1_53 : (Cond.fieldLink "DustRobot" 108 "DustRobot$Item" "amount" "I") ∈ Wt := mW1 (i := 53) rfl rfl
set_option maxRecDepth 20000 in
theorem mw_1_54 : (Cond.fieldLink "DustRobot$Store" 63 "DustRobot$Item" "amount" "I") ∈ Wt := mW1 (i := 54) rfl rfl
set_option maxRecDepth 20000 in
theorem mw_1_55 : (Cond.fieldLink "DustRobot$Item" 23 "DustRobot$Item" "frailtyBits" "I") ∈ Wt := mW1 (i := 55) rfl rfl
set_option maxRecDepth 20000 in
theorem mw_1_56 : (Cond.fieldLink "DustRobot$Item" 26 "DustRobot$Item" "frailty" "F") ∈ Wt := mW1 (i := 56) rfl rfl
set_option maxRecDepth 20000 in
theorem mw_1_57 : (Cond.fieldLink "DustRobot$Drive" 35 "DustRobot$Item" "frailty" "F") ∈ Wt := mW1 (i := 57) rfl rfl
set_option maxRecDepth 20000 in
theorem mw_1_58 : (Cond.fieldLink "DustRobot$Item" 39 "DustRobot$Item" "lostReads" "I") ∈ Wt := mW1 (i := 58) rfl rfl
set_option maxRecDepth 20000 in
theorem mw_1_59 : (Cond.fieldLink "DustRobot$Drive" 45 "DustRobot$Item" "lostReads" "I") ∈ Wt := mW1 (i := 59) rfl rfl
set_option maxRecDepth 20000 in
theorem mw_1_60 : (Cond.lays "DustRobot$Item" "DustRobot$Item" "isCleaner" "Z") ∈ Wt := mW1 (i := 60) rfl rfl
set_option maxRecDepth 20000 in
theorem mw_1_62 : (Cond.lays "DustRobot$Item" "DustRobot$Item" "home" "I") ∈ Wt := mW1 (i := 62) rfl rfl
set_option maxRecDepth 20000 in
theorem mw_1_64 : (Cond.lays "DustRobot$Item" "DustRobot$Item" "where" "I") ∈ Wt := mW1 (i := 64) rfl rfl
set_option maxRecDepth 20000 in
theorem mw_1_66 : (Cond.lays "DustRobot$Item" "DustRobot$Item" "drive" "I") ∈ Wt := mW1 (i := 66) rfl rfl
set_option maxRecDepth 20000 in
theorem mw_1_68 : (Cond.lays "DustRobot$Item" "DustRobot$Item" "amount" "I") ∈ Wt := mW1 (i := 68) rfl rfl
set_option maxRecDepth 20000 in
theorem mw_1_70 : (Cond.lays "DustRobot$Item" "DustRobot$Item" "frailtyBits" "I") ∈ Wt := mW1 (i := 70) rfl rfl
set_option maxRecDepth 20000 in
theorem mw_1_72 : (Cond.lays "DustRobot$Item" "DustRobot$Item" "frailty" "F") ∈ Wt := mW1 (i := 72) rfl rfl
set_option maxRecDepth 20000 in
theorem mw_1_74 : (Cond.lays "DustRobot$Item" "DustRobot$Item" "lostReads" "I") ∈ Wt := mW1 (i := 74) rfl rfl
set_option maxRecDepth 20000 in
theorem mw_1_77 : (Cond.classLink "DustRobot$Store" 22 "DustRobot$Drive") ∈ Wt := mW1 (i := 77) rfl rfl
set_option maxRecDepth 20000 in
theorem mw_1_79 : (Cond.instantiable "DustRobot$Drive" 7) ∈ Wt := mW1 (i := 79) rfl rfl
set_option maxRecDepth 20000 in
theorem mw_1_80 : (Cond.methodLink "DustRobot$Store" 28 yX0_init) ∈ Wt := mW1 (i := 80) rfl rfl
set_option maxRecDepth 20000 in
theorem mw_1_81 : (Cond.instanceMethod yX0_init) ∈ Wt := mW1 (i := 81) rfl rfl
set_option maxRecDepth 20000 in
theorem mw_1_82 : (Cond.code yX0_init cX0_init 1 (Option.none : Option Jvm.ClassFile.FieldType)) ∈ Wt := mW1 (i := 82) rfl rfl
set_option maxRecDepth 20000 in
theorem mw_1_83 : (Cond.methodLink "DustRobot$Drive" 3 (⟨"java/lang/Object", "<init>", "()V"⟩ : MethodName)) ∈ Wt := mW1 (i := 83) rfl rfl
set_option maxRecDepth 20000 in
theorem mw_1_84 : (Cond.fieldLink "DustRobot$Drive" 9 "DustRobot$Drive" "slot" "I") ∈ Wt := mW1 (i := 84) rfl rfl
set_option maxRecDepth 20000 in
theorem mw_1_85 : (Cond.fieldLink "DustRobot$Store" 42 "DustRobot$Drive" "slot" "I") ∈ Wt := mW1 (i := 85) rfl rfl
set_option maxRecDepth 20000 in
theorem mw_1_86 : (Cond.fieldLink "DustRobot$State" 216 "DustRobot$Drive" "slot" "I") ∈ Wt := mW1 (i := 86) rfl rfl
set_option maxRecDepth 20000 in
theorem mw_1_87 : (Cond.fieldLink "DustRobot$Drive" 15 "DustRobot$Drive" "dust" "F") ∈ Wt := mW1 (i := 87) rfl rfl
set_option maxRecDepth 20000 in
theorem mw_1_88 : (Cond.fieldLink "DustRobot$Store" 49 "DustRobot$Drive" "dust" "F") ∈ Wt := mW1 (i := 88) rfl rfl
set_option maxRecDepth 20000 in
theorem mw_1_89 : (Cond.fieldLink "DustRobot" 224 "DustRobot$Drive" "dust" "F") ∈ Wt := mW1 (i := 89) rfl rfl
set_option maxRecDepth 20000 in
theorem mw_1_90 : (Cond.fieldLink "DustRobot$Drive" 20 "DustRobot$Drive" "ceiling" "F") ∈ Wt := mW1 (i := 90) rfl rfl
set_option maxRecDepth 20000 in
theorem mw_1_91 : (Cond.fieldLink "DustRobot" 121 "DustRobot$Drive" "ceiling" "F") ∈ Wt := mW1 (i := 91) rfl rfl
set_option maxRecDepth 20000 in
theorem mw_1_92 : (Cond.fieldLink "DustRobot$Drive" 23 "DustRobot$Drive" "reads" "I") ∈ Wt := mW1 (i := 92) rfl rfl
set_option maxRecDepth 20000 in
theorem mw_1_93 : (Cond.fieldLink "DustRobot$Drive" 26 "DustRobot$Drive" "lostReads" "I") ∈ Wt := mW1 (i := 93) rfl rfl
set_option maxRecDepth 20000 in
theorem mw_1_94 : (Cond.fieldLink "DustRobot$Drive" 29 "DustRobot$Drive" "cleanings" "I") ∈ Wt := mW1 (i := 94) rfl rfl
set_option maxRecDepth 20000 in
theorem mw_1_95 : (Cond.fieldLink "DustRobot$Drive" 32 "DustRobot$Drive" "loaded" "I") ∈ Wt := mW1 (i := 95) rfl rfl
set_option maxRecDepth 20000 in
theorem mw_1_96 : (Cond.fieldLink "DustRobot$State" 234 "DustRobot$Drive" "loaded" "I") ∈ Wt := mW1 (i := 96) rfl rfl
set_option maxRecDepth 20000 in
theorem mw_1_97 : (Cond.lays "DustRobot$Drive" "DustRobot$Drive" "slot" "I") ∈ Wt := mW1 (i := 97) rfl rfl
set_option maxRecDepth 20000 in
theorem mw_1_99 : (Cond.lays "DustRobot$Drive" "DustRobot$Drive" "dust" "F") ∈ Wt := mW1 (i := 99) rfl rfl
set_option maxRecDepth 20000 in
theorem mw_1_101 : (Cond.lays "DustRobot$Drive" "DustRobot$Drive" "ceiling" "F") ∈ Wt := mW1 (i := 101) rfl rfl
set_option maxRecDepth 20000 in
theorem mw_1_103 : (Cond.lays "DustRobot$Drive" "DustRobot$Drive" "reads" "I") ∈ Wt := mW1 (i := 103) rfl rfl
set_option maxRecDepth 20000 in
theorem mw_1_105 : (Cond.lays "DustRobot$Drive" "DustRobot$Drive" "lostReads" "I") ∈ Wt := mW1 (i := 105) rfl rfl
set_option maxRecDepth 20000 in
theorem mw_1_107 : (Cond.lays "DustRobot$Drive" "DustRobot$Drive" "cleanings" "I") ∈ Wt := mW1 (i := 107) rfl rfl
set_option maxRecDepth 20000 in
theorem mw_1_109 : (Cond.lays "DustRobot$Drive" "DustRobot$Drive" "loaded" "I") ∈ Wt := mW1 (i := 109) rfl rfl
set_option maxRecDepth 20000 in
theorem mw_1_112 : (Cond.fieldLink "DustRobot$Store" 11 "DustRobot$Store" "items" "[LDustRobot$Item;") ∈ Wt := mW1 (i := 112) rfl rfl
set_option maxRecDepth 20000 in
theorem mw_1_113 : (Cond.fieldLink "DustRobot$Store" 18 "DustRobot$Store" "itemCount" "I") ∈ Wt := mW1 (i := 113) rfl rfl
set_option maxRecDepth 20000 in
theorem mw_1_114 : (Cond.fieldLink "DustRobot" 94 "DustRobot$Store" "itemCount" "I") ∈ Wt := mW1 (i := 114) rfl rfl
set_option maxRecDepth 20000 in
theorem mw_1_115 : (Cond.fieldLink "DustRobot$Store" 24 "DustRobot$Store" "drives" "[LDustRobot$Drive;") ∈ Wt := mW1 (i := 115) rfl rfl
set_option maxRecDepth 20000 in
theorem mw_1_116 : (Cond.fieldLink "DustRobot$Store" 29 "DustRobot$Store" "driveCount" "I") ∈ Wt := mW1 (i := 116) rfl rfl
set_option maxRecDepth 20000 in
theorem mw_1_117 : (Cond.fieldLink "DustRobot" 68 "DustRobot$Store" "driveCount" "I") ∈ Wt := mW1 (i := 117) rfl rfl
set_option maxRecDepth 20000 in
theorem mw_1_118 : (Cond.laysFinal "DustRobot$Store" "DustRobot$Store" "items" "[LDustRobot$Item;") ∈ Wt := mW1 (i := 118) rfl rfl
set_option maxRecDepth 20000 in
theorem mw_1_120 : (Cond.lays "DustRobot$Store" "DustRobot$Store" "itemCount" "I") ∈ Wt := mW1 (i := 120) rfl rfl
set_option maxRecDepth 20000 in
theorem mw_1_122 : (Cond.laysFinal "DustRobot$Store" "DustRobot$Store" "drives" "[LDustRobot$Drive;") ∈ Wt := mW1 (i := 122) rfl rfl
set_option maxRecDepth 20000 in
theorem mw_1_124 : (Cond.lays "DustRobot$Store" "DustRobot$Store" "driveCount" "I") ∈ Wt := mW1 (i := 124) rfl rfl
set_option maxRecDepth 20000 in
theorem mw_1_127 : (Cond.classLink "DustRobot$State" 18 "DustRobot$Queue") ∈ Wt := mW1 (i := 127) rfl rfl
set_option maxRecDepth 20000 in
theorem mw_1_128 : (Cond.instantiable "DustRobot$Queue" 4) ∈ Wt := mW1 (i := 128) rfl rfl
set_option maxRecDepth 20000 in
theorem mw_1_129 : (Cond.methodLink "DustRobot$State" 20 yX5_init) ∈ Wt := mW1 (i := 129) rfl rfl
set_option maxRecDepth 20000 in
theorem mw_1_130 : (Cond.instanceMethod yX5_init) ∈ Wt := mW1 (i := 130) rfl rfl
set_option maxRecDepth 20000 in
theorem mw_1_131 : (Cond.code yX5_init cX5_init 2 (Option.none : Option Jvm.ClassFile.FieldType)) ∈ Wt := mW1 (i := 131) rfl rfl
set_option maxRecDepth 20000 in
theorem mw_1_132 : (Cond.methodLink "DustRobot$Queue" 3 (⟨"java/lang/Object", "<init>", "()V"⟩ : MethodName)) ∈ Wt := mW1 (i := 132) rfl rfl
set_option maxRecDepth 20000 in
theorem mw_1_133 : (Cond.classLink "DustRobot$Queue" 9 "DustRobot$Job") ∈ Wt := mW1 (i := 133) rfl rfl
set_option maxRecDepth 20000 in
theorem mw_1_135 : (Cond.instantiable "DustRobot$Job" 13) ∈ Wt := mW1 (i := 135) rfl rfl
set_option maxRecDepth 20000 in
theorem mw_1_136 : (Cond.methodLink "DustRobot$Queue" 17 yX3_init) ∈ Wt := mW1 (i := 136) rfl rfl
set_option maxRecDepth 20000 in
theorem mw_1_137 : (Cond.instanceMethod yX3_init) ∈ Wt := mW1 (i := 137) rfl rfl
set_option maxRecDepth 20000 in
theorem mw_1_138 : (Cond.code yX3_init cX3_init 1 (Option.none : Option Jvm.ClassFile.FieldType)) ∈ Wt := mW1 (i := 138) rfl rfl
set_option maxRecDepth 20000 in
theorem mw_1_139 : (Cond.methodLink "DustRobot$Job" 3 (⟨"java/lang/Object", "<init>", "()V"⟩ : MethodName)) ∈ Wt := mW1 (i := 139) rfl rfl
set_option maxRecDepth 20000 in
theorem mw_1_140 : (Cond.fieldLink "DustRobot$Job" 9 "DustRobot$Job" "kind" "I") ∈ Wt := mW1 (i := 140) rfl rfl
set_option maxRecDepth 20000 in
theorem mw_1_141 : (Cond.fieldLink "DustRobot$State" 76 "DustRobot$Job" "kind" "I") ∈ Wt := mW1 (i := 141) rfl rfl
set_option maxRecDepth 20000 in
theorem mw_1_142 : (Cond.fieldLink "DustRobot$Job" 15 "DustRobot$Job" "target" "I") ∈ Wt := mW1 (i := 142) rfl rfl
set_option maxRecDepth 20000 in
theorem mw_1_143 : (Cond.fieldLink "DustRobot$State" 127 "DustRobot$Job" "target" "I") ∈ Wt := mW1 (i := 143) rfl rfl
set_option maxRecDepth 20000 in
theorem mw_1_144 : (Cond.fieldLink "DustRobot$Job" 18 "DustRobot$Job" "slot" "I") ∈ Wt := mW1 (i := 144) rfl rfl
set_option maxRecDepth 20000 in
theorem mw_1_145 : (Cond.fieldLink "DustRobot$State" 81 "DustRobot$Job" "slot" "I") ∈ Wt := mW1 (i := 145) rfl rfl
set_option maxRecDepth 20000 in
theorem mw_1_146 : (Cond.fieldLink "DustRobot$Job" 21 "DustRobot$Job" "state" "I") ∈ Wt := mW1 (i := 146) rfl rfl
set_option maxRecDepth 20000 in
theorem mw_1_147 : (Cond.fieldLink "DustRobot$State" 113 "DustRobot$Job" "state" "I") ∈ Wt := mW1 (i := 147) rfl rfl
set_option maxRecDepth 20000 in
theorem mw_1_148 : (Cond.fieldLink "DustRobot$Queue" 36 "DustRobot$Job" "state" "I") ∈ Wt := mW1 (i := 148) rfl rfl
set_option maxRecDepth 20000 in
theorem mw_1_149 : (Cond.fieldLink "DustRobot" 145 "DustRobot$Job" "state" "I") ∈ Wt := mW1 (i := 149) rfl rfl
set_option maxRecDepth 20000 in
theorem mw_1_150 : (Cond.fieldLink "DustRobot$Job" 24 "DustRobot$Job" "began" "I") ∈ Wt := mW1 (i := 150) rfl rfl
set_option maxRecDepth 20000 in
theorem mw_1_151 : (Cond.fieldLink "DustRobot$State" 174 "DustRobot$Job" "began" "I") ∈ Wt := mW1 (i := 151) rfl rfl
set_option maxRecDepth 20000 in
theorem mw_1_152 : (Cond.fieldLink "DustRobot$Job" 27 "DustRobot$Job" "ended" "I") ∈ Wt := mW1 (i := 152) rfl rfl
set_option maxRecDepth 20000 in
theorem mw_1_153 : (Cond.fieldLink "DustRobot" 156 "DustRobot$Job" "ended" "I") ∈ Wt := mW1 (i := 153) rfl rfl
set_option maxRecDepth 20000 in
theorem mw_1_154 : (Cond.fieldLink "DustRobot$State" 253 "DustRobot$Job" "ended" "I") ∈ Wt := mW1 (i := 154) rfl rfl
set_option maxRecDepth 20000 in
theorem mw_1_155 : (Cond.fieldLink "DustRobot$Job" 30 "DustRobot$Job" "step" "I") ∈ Wt := mW1 (i := 155) rfl rfl
set_option maxRecDepth 20000 in
theorem mw_1_156 : (Cond.fieldLink "DustRobot$State" 198 "DustRobot$Job" "step" "I") ∈ Wt := mW1 (i := 156) rfl rfl
set_option maxRecDepth 20000 in
theorem mw_1_157 : (Cond.fieldLink "DustRobot$Job" 33 "DustRobot$Job" "drive" "I") ∈ Wt := mW1 (i := 157) rfl rfl
set_option maxRecDepth 20000 in
theorem mw_1_158 : (Cond.fieldLink "DustRobot$State" 177 "DustRobot$Job" "drive" "I") ∈ Wt := mW1 (i := 158) rfl rfl
set_option maxRecDepth 20000 in
theorem mw_1_159 : (Cond.fieldLink "DustRobot$Job" 36 "DustRobot$Job" "cleaner" "I") ∈ Wt := mW1 (i := 159) rfl rfl
set_option maxRecDepth 20000 in
theorem mw_1_160 : (Cond.fieldLink "DustRobot$State" 180 "DustRobot$Job" "cleaner" "I") ∈ Wt := mW1 (i := 160) rfl rfl
set_option maxRecDepth 20000 in
theorem mw_1_161 : (Cond.fieldLink "DustRobot$Job" 39 "DustRobot$Job" "reason" "I") ∈ Wt := mW1 (i := 161) rfl rfl
set_option maxRecDepth 20000 in
theorem mw_1_162 : (Cond.fieldLink "DustRobot$State" 237 "DustRobot$Job" "reason" "I") ∈ Wt := mW1 (i := 162) rfl rfl
set_option maxRecDepth 20000 in
theorem mw_1_163 : (Cond.fieldLink "DustRobot$Job" 42 "DustRobot$Job" "pleas" "I") ∈ Wt := mW1 (i := 163) rfl rfl
set_option maxRecDepth 20000 in
theorem mw_1_164 : (Cond.fieldLink "DustRobot$State" 229 "DustRobot$Job" "pleas" "I") ∈ Wt := mW1 (i := 164) rfl rfl
set_option maxRecDepth 20000 in
theorem mw_1_165 : (Cond.fieldLink "DustRobot$Job" 45 "DustRobot$Job" "until" "I") ∈ Wt := mW1 (i := 165) rfl rfl
set_option maxRecDepth 20000 in
theorem mw_1_166 : (Cond.fieldLink "DustRobot$State" 120 "DustRobot$Job" "until" "I") ∈ Wt := mW1 (i := 166) rfl rfl
set_option maxRecDepth 20000 in
theorem mw_1_167 : (Cond.fieldLink "DustRobot" 150 "DustRobot$Job" "until" "I") ∈ Wt := mW1 (i := 167) rfl rfl
set_option maxRecDepth 20000 in
theorem mw_1_168 : (Cond.fieldLink "DustRobot$Job" 48 "DustRobot$Job" "lostReads" "I") ∈ Wt := mW1 (i := 168) rfl rfl
set_option maxRecDepth 20000 in
theorem mw_1_169 : (Cond.fieldLink "DustRobot$State" 243 "DustRobot$Job" "lostReads" "I") ∈ Wt := mW1 (i := 169) rfl rfl
set_option maxRecDepth 20000 in
theorem mw_1_170 : (Cond.lays "DustRobot$Job" "DustRobot$Job" "kind" "I") ∈ Wt := mW1 (i := 170) rfl rfl
set_option maxRecDepth 20000 in
theorem mw_1_172 : (Cond.lays "DustRobot$Job" "DustRobot$Job" "target" "I") ∈ Wt := mW1 (i := 172) rfl rfl
set_option maxRecDepth 20000 in
theorem mw_1_174 : (Cond.lays "DustRobot$Job" "DustRobot$Job" "slot" "I") ∈ Wt := mW1 (i := 174) rfl rfl
set_option maxRecDepth 20000 in
theorem mw_1_176 : (Cond.lays "DustRobot$Job" "DustRobot$Job" "state" "I") ∈ Wt := mW1 (i := 176) rfl rfl
set_option maxRecDepth 20000 in
theorem mw_1_178 : (Cond.lays "DustRobot$Job" "DustRobot$Job" "began" "I") ∈ Wt := mW1 (i := 178) rfl rfl
set_option maxRecDepth 20000 in
theorem mw_1_180 : (Cond.lays "DustRobot$Job" "DustRobot$Job" "ended" "I") ∈ Wt := mW1 (i := 180) rfl rfl
set_option maxRecDepth 20000 in
theorem mw_1_182 : (Cond.lays "DustRobot$Job" "DustRobot$Job" "step" "I") ∈ Wt := mW1 (i := 182) rfl rfl
set_option maxRecDepth 20000 in
theorem mw_1_184 : (Cond.lays "DustRobot$Job" "DustRobot$Job" "drive" "I") ∈ Wt := mW1 (i := 184) rfl rfl
set_option maxRecDepth 20000 in
theorem mw_1_186 : (Cond.lays "DustRobot$Job" "DustRobot$Job" "cleaner" "I") ∈ Wt := mW1 (i := 186) rfl rfl
set_option maxRecDepth 20000 in
theorem mw_1_188 : (Cond.lays "DustRobot$Job" "DustRobot$Job" "reason" "I") ∈ Wt := mW1 (i := 188) rfl rfl
set_option maxRecDepth 20000 in
theorem mw_1_190 : (Cond.lays "DustRobot$Job" "DustRobot$Job" "pleas" "I") ∈ Wt := mW1 (i := 190) rfl rfl
set_option maxRecDepth 20000 in
theorem mw_1_192 : (Cond.lays "DustRobot$Job" "DustRobot$Job" "until" "I") ∈ Wt := mW1 (i := 192) rfl rfl
set_option maxRecDepth 20000 in
theorem mw_1_194 : (Cond.lays "DustRobot$Job" "DustRobot$Job" "lostReads" "I") ∈ Wt := mW1 (i := 194) rfl rfl
set_option maxRecDepth 20000 in
theorem mw_1_197 : (Cond.fieldLink "DustRobot$Queue" 11 "DustRobot$Queue" "jobs" "[LDustRobot$Job;") ∈ Wt := mW1 (i := 197) rfl rfl
set_option maxRecDepth 20000 in
theorem mw_1_198 : (Cond.fieldLink "DustRobot$State" 109 "DustRobot$Queue" "jobs" "[LDustRobot$Job;") ∈ Wt := mW1 (i := 198) rfl rfl
set_option maxRecDepth 20000 in
theorem mw_1_199 : (Cond.fieldLink "DustRobot$Queue" 18 "DustRobot$Queue" "jobCount" "I") ∈ Wt := mW1 (i := 199) rfl rfl
set_option maxRecDepth 20000 in
theorem mw_1_200 : (Cond.fieldLink "DustRobot$State" 106 "DustRobot$Queue" "jobCount" "I") ∈ Wt := mW1 (i := 200) rfl rfl
set_option maxRecDepth 20000 in
theorem mw_1_201 : (Cond.fieldLink "DustRobot" 196 "DustRobot$Queue" "jobCount" "I") ∈ Wt := mW1 (i := 201) rfl rfl
set_option maxRecDepth 20000 in
theorem mw_1_202 : (Cond.fieldLink "DustRobot$Queue" 22 "DustRobot$Queue" "firstKind" "I") ∈ Wt := mW1 (i := 202) rfl rfl
set_option maxRecDepth 20000 in
theorem mw_1_203 : (Cond.fieldLink "DustRobot$Queue" 25 "DustRobot$Queue" "secondKind" "I") ∈ Wt := mW1 (i := 203) rfl rfl
set_option maxRecDepth 20000 in
theorem mw_1_204 : (Cond.laysFinal "DustRobot$Queue" "DustRobot$Queue" "jobs" "[LDustRobot$Job;") ∈ Wt := mW1 (i := 204) rfl rfl
set_option maxRecDepth 20000 in
theorem mw_1_206 : (Cond.lays "DustRobot$Queue" "DustRobot$Queue" "jobCount" "I") ∈ Wt := mW1 (i := 206) rfl rfl
set_option maxRecDepth 20000 in
theorem mw_1_208 : (Cond.lays "DustRobot$Queue" "DustRobot$Queue" "firstKind" "I") ∈ Wt := mW1 (i := 208) rfl rfl
set_option maxRecDepth 20000 in
theorem mw_1_210 : (Cond.lays "DustRobot$Queue" "DustRobot$Queue" "secondKind" "I") ∈ Wt := mW1 (i := 210) rfl rfl
set_option maxRecDepth 20000 in
theorem mw_1_213 : (Cond.classLink "DustRobot$State" 25 "DustRobot$Log") ∈ Wt := mW1 (i := 213) rfl rfl
set_option maxRecDepth 20000 in
theorem mw_1_214 : (Cond.instantiable "DustRobot$Log" 6) ∈ Wt := mW1 (i := 214) rfl rfl
set_option maxRecDepth 20000 in
theorem mw_1_215 : (Cond.methodLink "DustRobot$State" 27 yX4_init) ∈ Wt := mW1 (i := 215) rfl rfl
set_option maxRecDepth 20000 in
theorem mw_1_216 : (Cond.instanceMethod yX4_init) ∈ Wt := mW1 (i := 216) rfl rfl
set_option maxRecDepth 20000 in
theorem mw_1_217 : (Cond.code yX4_init cX4_init 1 (Option.none : Option Jvm.ClassFile.FieldType)) ∈ Wt := mW1 (i := 217) rfl rfl
set_option maxRecDepth 20000 in
theorem mw_1_218 : (Cond.methodLink "DustRobot$Log" 3 (⟨"java/lang/Object", "<init>", "()V"⟩ : MethodName)) ∈ Wt := mW1 (i := 218) rfl rfl
set_option maxRecDepth 20000 in
theorem mw_1_219 : (Cond.fieldLink "DustRobot$Log" 9 "DustRobot$Log" "kinds" "[I") ∈ Wt := mW1 (i := 219) rfl rfl
set_option maxRecDepth 20000 in
theorem mw_1_220 : (Cond.fieldLink "DustRobot$Log" 15 "DustRobot$Log" "jobs" "[I") ∈ Wt := mW1 (i := 220) rfl rfl
set_option maxRecDepth 20000 in
theorem mw_1_221 : (Cond.fieldLink "DustRobot$Log" 18 "DustRobot$Log" "drives" "[I") ∈ Wt := mW1 (i := 221) rfl rfl
set_option maxRecDepth 20000 in
theorem mw_1_222 : (Cond.fieldLink "DustRobot$Log" 21 "DustRobot$Log" "ticks" "[I") ∈ Wt := mW1 (i := 222) rfl rfl
set_option maxRecDepth 20000 in
theorem mw_1_223 : (Cond.fieldLink "DustRobot$Log" 24 "DustRobot$Log" "held" "I") ∈ Wt := mW1 (i := 223) rfl rfl
set_option maxRecDepth 20000 in
theorem mw_1_224 : (Cond.fieldLink "DustRobot$Log" 28 "DustRobot$Log" "newest" "I") ∈ Wt := mW1 (i := 224) rfl rfl
set_option maxRecDepth 20000 in
theorem mw_1_225 : (Cond.laysFinal "DustRobot$Log" "DustRobot$Log" "kinds" "[I") ∈ Wt := mW1 (i := 225) rfl rfl
set_option maxRecDepth 20000 in
theorem mw_1_227 : (Cond.laysFinal "DustRobot$Log" "DustRobot$Log" "jobs" "[I") ∈ Wt := mW1 (i := 227) rfl rfl
set_option maxRecDepth 20000 in
theorem mw_1_229 : (Cond.laysFinal "DustRobot$Log" "DustRobot$Log" "drives" "[I") ∈ Wt := mW1 (i := 229) rfl rfl
set_option maxRecDepth 20000 in
theorem mw_1_231 : (Cond.laysFinal "DustRobot$Log" "DustRobot$Log" "ticks" "[I") ∈ Wt := mW1 (i := 231) rfl rfl
set_option maxRecDepth 20000 in
theorem mw_1_233 : (Cond.lays "DustRobot$Log" "DustRobot$Log" "held" "I") ∈ Wt := mW1 (i := 233) rfl rfl
set_option maxRecDepth 20000 in
theorem mw_1_235 : (Cond.lays "DustRobot$Log" "DustRobot$Log" "newest" "I") ∈ Wt := mW1 (i := 235) rfl rfl
set_option maxRecDepth 20000 in
theorem mw_1_238 : (Cond.arrayClass FieldType.int) ∈ Wt := mW1 (i := 238) rfl rfl
set_option maxRecDepth 20000 in
theorem mw_1_239 : (Cond.constantFloat "DustRobot$State" 36 (1101004800 : UInt32)) ∈ Wt := mW1 (i := 239) rfl rfl
set_option maxRecDepth 20000 in
theorem mw_2_0 : (Cond.fieldLink "DustRobot$State" 12 "DustRobot$State" "store" "LDustRobot$Store;") ∈ Wt := mW2 (i := 0) rfl rfl
set_option maxRecDepth 20000 in
theorem mw_2_1 : (Cond.fieldLink "DustRobot" 46 "DustRobot$State" "store" "LDustRobot$Store;") ∈ Wt := mW2 (i := 1) rfl rfl
set_option maxRecDepth 20000 in
theorem mw_2_2 : (Cond.fieldLink "DustRobot$State" 21 "DustRobot$State" "queue" "LDustRobot$Queue;") ∈ Wt := mW2 (i := 2) rfl rfl
set_option maxRecDepth 20000 in
theorem mw_2_3 : (Cond.fieldLink "DustRobot" 124 "DustRobot$State" "queue" "LDustRobot$Queue;") ∈ Wt := mW2 (i := 3) rfl rfl
set_option maxRecDepth 20000 in
theorem mw_2_4 : (Cond.fieldLink "DustRobot$State" 28 "DustRobot$State" "log" "LDustRobot$Log;") ∈ Wt := mW2 (i := 4) rfl rfl
set_option maxRecDepth 20000 in
theorem mw_2_5 : (Cond.fieldLink "DustRobot$State" 32 "DustRobot$State" "meter" "F") ∈ Wt := mW2 (i := 5) rfl rfl
set_option maxRecDepth 20000 in
theorem mw_2_6 : (Cond.fieldLink "DustRobot" 227 "DustRobot$State" "meter" "F") ∈ Wt := mW2 (i := 6) rfl rfl
set_option maxRecDepth 20000 in
theorem mw_2_7 : (Cond.fieldLink "DustRobot$State" 37 "DustRobot$State" "limit" "F") ∈ Wt := mW2 (i := 7) rfl rfl
set_option maxRecDepth 20000 in
theorem mw_2_8 : (Cond.fieldLink "DustRobot" 112 "DustRobot$State" "limit" "F") ∈ Wt := mW2 (i := 8) rfl rfl
set_option maxRecDepth 20000 in
theorem mw_2_9 : (Cond.fieldLink "DustRobot$State" 40 "DustRobot$State" "tick" "I") ∈ Wt := mW2 (i := 9) rfl rfl
set_option maxRecDepth 20000 in
theorem mw_2_10 : (Cond.fieldLink "DustRobot" 153 "DustRobot$State" "tick" "I") ∈ Wt := mW2 (i := 10) rfl rfl
set_option maxRecDepth 20000 in
theorem mw_2_11 : (Cond.fieldLink "DustRobot$State" 44 "DustRobot$State" "place" "I") ∈ Wt := mW2 (i := 11) rfl rfl
set_option maxRecDepth 20000 in
theorem mw_2_12 : (Cond.fieldLink "DustRobot" 257 "DustRobot$State" "place" "I") ∈ Wt := mW2 (i := 12) rfl rfl
set_option maxRecDepth 20000 in
theorem mw_2_13 : (Cond.fieldLink "DustRobot$State" 47 "DustRobot$State" "hand" "I") ∈ Wt := mW2 (i := 13) rfl rfl
set_option maxRecDepth 20000 in
theorem mw_2_14 : (Cond.fieldLink "DustRobot" 260 "DustRobot$State" "hand" "I") ∈ Wt := mW2 (i := 14) rfl rfl
set_option maxRecDepth 20000 in
theorem mw_2_15 : (Cond.fieldLink "DustRobot$State" 50 "DustRobot$State" "ownJob" "I") ∈ Wt := mW2 (i := 15) rfl rfl
set_option maxRecDepth 20000 in
theorem mw_2_16 : (Cond.fieldLink "DustRobot" 263 "DustRobot$State" "ownJob" "I") ∈ Wt := mW2 (i := 16) rfl rfl
set_option maxRecDepth 20000 in
theorem mw_2_17 : (Cond.fieldLink "DustRobot$State" 53 "DustRobot$State" "pleas" "I") ∈ Wt := mW2 (i := 17) rfl rfl
set_option maxRecDepth 20000 in
theorem mw_2_18 : (Cond.fieldLink "DustRobot" 269 "DustRobot$State" "pleas" "I") ∈ Wt := mW2 (i := 18) rfl rfl
set_option maxRecDepth 20000 in
theorem mw_2_19 : (Cond.fieldLink "DustRobot$State" 56 "DustRobot$State" "slotsGone" "I") ∈ Wt := mW2 (i := 19) rfl rfl
set_option maxRecDepth 20000 in
theorem mw_2_20 : (Cond.fieldLink "DustRobot" 270 "DustRobot$State" "slotsGone" "I") ∈ Wt := mW2 (i := 20) rfl rfl
set_option maxRecDepth 20000 in
theorem mw_2_21 : (Cond.fieldLink "DustRobot$State" 59 "DustRobot$State" "idleTicks" "I") ∈ Wt := mW2 (i := 21) rfl rfl
set_option maxRecDepth 20000 in
theorem mw_2_22 : (Cond.fieldLink "DustRobot" 273 "DustRobot$State" "idleTicks" "I") ∈ Wt := mW2 (i := 22) rfl rfl
set_option maxRecDepth 20000 in
theorem mw_2_23 : (Cond.laysFinal "DustRobot$State" "DustRobot$State" "store" "LDustRobot$Store;") ∈ Wt := mW2 (i := 23) rfl rfl
set_option maxRecDepth 20000 in
theorem mw_2_25 : (Cond.laysFinal "DustRobot$State" "DustRobot$State" "queue" "LDustRobot$Queue;") ∈ Wt := mW2 (i := 25) rfl rfl
set_option maxRecDepth 20000 in
theorem mw_2_27 : (Cond.laysFinal "DustRobot$State" "DustRobot$State" "log" "LDustRobot$Log;") ∈ Wt := mW2 (i := 27) rfl rfl
set_option maxRecDepth 20000 in
theorem mw_2_29 : (Cond.lays "DustRobot$State" "DustRobot$State" "meter" "F") ∈ Wt := mW2 (i := 29) rfl rfl
set_option maxRecDepth 20000 in
theorem mw_2_31 : (Cond.lays "DustRobot$State" "DustRobot$State" "limit" "F") ∈ Wt := mW2 (i := 31) rfl rfl
set_option maxRecDepth 20000 in
theorem mw_2_33 : (Cond.lays "DustRobot$State" "DustRobot$State" "tick" "I") ∈ Wt := mW2 (i := 33) rfl rfl
set_option maxRecDepth 20000 in
theorem mw_2_35 : (Cond.lays "DustRobot$State" "DustRobot$State" "place" "I") ∈ Wt := mW2 (i := 35) rfl rfl
set_option maxRecDepth 20000 in
theorem mw_2_37 : (Cond.lays "DustRobot$State" "DustRobot$State" "hand" "I") ∈ Wt := mW2 (i := 37) rfl rfl
set_option maxRecDepth 20000 in
theorem mw_2_39 : (Cond.lays "DustRobot$State" "DustRobot$State" "ownJob" "I") ∈ Wt := mW2 (i := 39) rfl rfl
set_option maxRecDepth 20000 in
theorem mw_2_41 : (Cond.lays "DustRobot$State" "DustRobot$State" "pleas" "I") ∈ Wt := mW2 (i := 41) rfl rfl
set_option maxRecDepth 20000 in
theorem mw_2_43 : (Cond.lays "DustRobot$State" "DustRobot$State" "slotsGone" "I") ∈ Wt := mW2 (i := 43) rfl rfl
set_option maxRecDepth 20000 in
theorem mw_2_45 : (Cond.lays "DustRobot$State" "DustRobot$State" "idleTicks" "I") ∈ Wt := mW2 (i := 45) rfl rfl
set_option maxRecDepth 20000 in
theorem mw_2_48 : (Cond.classLink "DustRobot" 16 "DustRobot$History") ∈ Wt := mW2 (i := 48) rfl rfl
set_option maxRecDepth 20000 in
theorem mw_2_49 : (Cond.instantiable "DustRobot$History" 2) ∈ Wt := mW2 (i := 49) rfl rfl
set_option maxRecDepth 20000 in
theorem mw_2_50 : (Cond.methodLink "DustRobot" 18 yX1_init) ∈ Wt := mW2 (i := 50) rfl rfl
set_option maxRecDepth 20000 in
theorem mw_2_51 : (Cond.instanceMethod yX1_init) ∈ Wt := mW2 (i := 51) rfl rfl
set_option maxRecDepth 20000 in
theorem mw_2_52 : (Cond.code yX1_init cX1_init 2 (Option.none : Option Jvm.ClassFile.FieldType)) ∈ Wt := mW2 (i := 52) rfl rfl
set_option maxRecDepth 20000 in
theorem mw_2_53 : (Cond.methodLink "DustRobot$History" 3 (⟨"java/lang/Object", "<init>", "()V"⟩ : MethodName)) ∈ Wt := mW2 (i := 53) rfl rfl
set_option maxRecDepth 20000 in
theorem mw_2_54 : (Cond.classLink "DustRobot$History" 9 "DustRobot$State") ∈ Wt := mW2 (i := 54) rfl rfl
set_option maxRecDepth 20000 in
theorem mw_2_56 : (Cond.methodLink "DustRobot$History" 17 yX6_init) ∈ Wt := mW2 (i := 56) rfl rfl
set_option maxRecDepth 20000 in
theorem mw_2_57 : (Cond.fieldLink "DustRobot$History" 11 "DustRobot$History" "states" "[LDustRobot$State;") ∈ Wt := mW2 (i := 57) rfl rfl
set_option maxRecDepth 20000 in
theorem mw_2_58 : (Cond.fieldLink "DustRobot$History" 18 "DustRobot$History" "held" "I") ∈ Wt := mW2 (i := 58) rfl rfl
set_option maxRecDepth 20000 in
theorem mw_2_59 : (Cond.fieldLink "DustRobot" 204 "DustRobot$History" "held" "I") ∈ Wt := mW2 (i := 59) rfl rfl
set_option maxRecDepth 20000 in
theorem mw_2_60 : (Cond.laysFinal "DustRobot$History" "DustRobot$History" "states" "[LDustRobot$State;") ∈ Wt := mW2 (i := 60) rfl rfl
set_option maxRecDepth 20000 in
theorem mw_2_62 : (Cond.lays "DustRobot$History" "DustRobot$History" "held" "I") ∈ Wt := mW2 (i := 62) rfl rfl
set_option maxRecDepth 20000 in
theorem mw_2_65 : (Cond.classLink "DustRobot" 33 "DustRobot$Text") ∈ Wt := mW2 (i := 65) rfl rfl
set_option maxRecDepth 20000 in
theorem mw_2_66 : (Cond.instantiable "DustRobot$Text" 7) ∈ Wt := mW2 (i := 66) rfl rfl
set_option maxRecDepth 20000 in
theorem mw_2_67 : (Cond.methodLink "DustRobot" 35 yX8_init) ∈ Wt := mW2 (i := 67) rfl rfl
set_option maxRecDepth 20000 in
theorem mw_2_68 : (Cond.instanceMethod yX8_init) ∈ Wt := mW2 (i := 68) rfl rfl
set_option maxRecDepth 20000 in
theorem mw_2_69 : (Cond.code yX8_init cX8_init 1 (Option.none : Option Jvm.ClassFile.FieldType)) ∈ Wt := mW2 (i := 69) rfl rfl
set_option maxRecDepth 20000 in
theorem mw_2_70 : (Cond.methodLink "DustRobot$Text" 3 (⟨"java/lang/Object", "<init>", "()V"⟩ : MethodName)) ∈ Wt := mW2 (i := 70) rfl rfl
set_option maxRecDepth 20000 in
theorem mw_2_71 : (Cond.fieldLink "DustRobot$Text" 9 "DustRobot$Text" "signs" "[C") ∈ Wt := mW2 (i := 71) rfl rfl
set_option maxRecDepth 20000 in
theorem mw_2_72 : (Cond.fieldLink "DustRobot$Text" 15 "DustRobot$Text" "length" "I") ∈ Wt := mW2 (i := 72) rfl rfl
set_option maxRecDepth 20000 in
theorem mw_2_73 : (Cond.fieldLink "DustRobot" 170 "DustRobot$Text" "length" "I") ∈ Wt := mW2 (i := 73) rfl rfl
set_option maxRecDepth 20000 in
theorem mw_2_74 : (Cond.fieldLink "DustRobot$Text" 19 "DustRobot$Text" "at" "I") ∈ Wt := mW2 (i := 74) rfl rfl
set_option maxRecDepth 20000 in
theorem mw_2_75 : (Cond.fieldLink "DustRobot$Text" 22 "DustRobot$Text" "kinds" "[I") ∈ Wt := mW2 (i := 75) rfl rfl
set_option maxRecDepth 20000 in
theorem mw_2_76 : (Cond.fieldLink "DustRobot$Text" 26 "DustRobot$Text" "targets" "[I") ∈ Wt := mW2 (i := 76) rfl rfl
set_option maxRecDepth 20000 in
theorem mw_2_77 : (Cond.fieldLink "DustRobot$Text" 29 "DustRobot$Text" "slots" "[I") ∈ Wt := mW2 (i := 77) rfl rfl
set_option maxRecDepth 20000 in
theorem mw_2_78 : (Cond.fieldLink "DustRobot$Text" 32 "DustRobot$Text" "jobCount" "I") ∈ Wt := mW2 (i := 78) rfl rfl
set_option maxRecDepth 20000 in
theorem mw_2_79 : (Cond.laysFinal "DustRobot$Text" "DustRobot$Text" "signs" "[C") ∈ Wt := mW2 (i := 79) rfl rfl
set_option maxRecDepth 20000 in
theorem mw_2_81 : (Cond.lays "DustRobot$Text" "DustRobot$Text" "length" "I") ∈ Wt := mW2 (i := 81) rfl rfl
set_option maxRecDepth 20000 in
theorem mw_2_83 : (Cond.lays "DustRobot$Text" "DustRobot$Text" "at" "I") ∈ Wt := mW2 (i := 83) rfl rfl
set_option maxRecDepth 20000 in
theorem mw_2_85 : (Cond.laysFinal "DustRobot$Text" "DustRobot$Text" "kinds" "[I") ∈ Wt := mW2 (i := 85) rfl rfl
set_option maxRecDepth 20000 in
theorem mw_2_87 : (Cond.laysFinal "DustRobot$Text" "DustRobot$Text" "targets" "[I") ∈ Wt := mW2 (i := 87) rfl rfl
set_option maxRecDepth 20000 in
theorem mw_2_89 : (Cond.laysFinal "DustRobot$Text" "DustRobot$Text" "slots" "[I") ∈ Wt := mW2 (i := 89) rfl rfl
set_option maxRecDepth 20000 in
theorem mw_2_91 : (Cond.lays "DustRobot$Text" "DustRobot$Text" "jobCount" "I") ∈ Wt := mW2 (i := 91) rfl rfl
set_option maxRecDepth 20000 in
theorem mw_2_94 : (Cond.arrayClass FieldType.char) ∈ Wt := mW2 (i := 94) rfl rfl
set_option maxRecDepth 20000 in
theorem mw_2_95 : (Cond.fieldLink "DustRobot" 10 "DustRobot" "now" "LDustRobot$State;") ∈ Wt := mW2 (i := 95) rfl rfl
set_option maxRecDepth 20000 in
theorem mw_2_96 : (Cond.fieldLink "DustRobot" 19 "DustRobot" "history" "LDustRobot$History;") ∈ Wt := mW2 (i := 96) rfl rfl
set_option maxRecDepth 20000 in
theorem mw_2_97 : (Cond.fieldLink "DustRobot" 23 "DustRobot" "snapshot" "LDustRobot$State;") ∈ Wt := mW2 (i := 97) rfl rfl
set_option maxRecDepth 20000 in
theorem mw_2_98 : (Cond.fieldLink "DustRobot" 26 "DustRobot" "hasSnapshot" "Z") ∈ Wt := mW2 (i := 98) rfl rfl
set_option maxRecDepth 20000 in
theorem mw_2_99 : (Cond.fieldLink "DustRobot" 30 "DustRobot" "trial" "LDustRobot$State;") ∈ Wt := mW2 (i := 99) rfl rfl
set_option maxRecDepth 20000 in
theorem mw_2_100 : (Cond.fieldLink "DustRobot" 36 "DustRobot" "text" "LDustRobot$Text;") ∈ Wt := mW2 (i := 100) rfl rfl
set_option maxRecDepth 20000 in
theorem mw_2_101 : (Cond.laysFinal "DustRobot" "DustRobot" "now" "LDustRobot$State;") ∈ Wt := mW2 (i := 101) rfl rfl
set_option maxRecDepth 20000 in
theorem mw_2_103 : (Cond.laysFinal "DustRobot" "DustRobot" "history" "LDustRobot$History;") ∈ Wt := mW2 (i := 103) rfl rfl
set_option maxRecDepth 20000 in
theorem mw_2_105 : (Cond.laysFinal "DustRobot" "DustRobot" "snapshot" "LDustRobot$State;") ∈ Wt := mW2 (i := 105) rfl rfl
set_option maxRecDepth 20000 in
theorem mw_2_107 : (Cond.lays "DustRobot" "DustRobot" "hasSnapshot" "Z") ∈ Wt := mW2 (i := 107) rfl rfl
set_option maxRecDepth 20000 in
theorem mw_2_109 : (Cond.laysFinal "DustRobot" "DustRobot" "trial" "LDustRobot$State;") ∈ Wt := mW2 (i := 109) rfl rfl
set_option maxRecDepth 20000 in
theorem mw_2_111 : (Cond.laysFinal "DustRobot" "DustRobot" "text" "LDustRobot$Text;") ∈ Wt := mW2 (i := 111) rfl rfl
set_option maxRecDepth 20000 in
theorem mw_2_114 : (Cond.methodLink "DustRobotLaw" 157 yL_cell) ∈ Wt := mW2 (i := 114) rfl rfl
set_option maxRecDepth 20000 in
theorem mw_2_115 : (Cond.static yL_cell) ∈ Wt := mW2 (i := 115) rfl rfl
set_option maxRecDepth 20000 in
theorem mw_2_116 : (Cond.code yL_cell cL_cell 2 (Option.some FieldType.int)) ∈ Wt := mW2 (i := 116) rfl rfl
set_option maxRecDepth 20000 in
theorem mw_2_117 : (Cond.constant "DustRobotLaw" 7 (1013904223 : Int32)) ∈ Wt := mW2 (i := 117) rfl rfl
set_option maxRecDepth 20000 in
theorem mw_2_118 : (Cond.methodLink "DustRobotLaw" 102 yL_low) ∈ Wt := mW2 (i := 118) rfl rfl
set_option maxRecDepth 20000 in
theorem mw_2_119 : (Cond.static yL_low) ∈ Wt := mW2 (i := 119) rfl rfl
set_option maxRecDepth 20000 in
theorem mw_2_120 : (Cond.code yL_low cL_low 2 (Option.some FieldType.int)) ∈ Wt := mW2 (i := 120) rfl rfl
set_option maxRecDepth 20000 in
theorem mw_2_121 : (Cond.constant "DustRobotLaw" 8 (2147483647 : Int32)) ∈ Wt := mW2 (i := 121) rfl rfl
set_option maxRecDepth 20000 in
theorem mw_2_122 : (Cond.methodLink "DustRobotLaw" 183 yL_areItems) ∈ Wt := mW2 (i := 122) rfl rfl
set_option maxRecDepth 20000 in
theorem mw_2_123 : (Cond.static yL_areItems) ∈ Wt := mW2 (i := 123) rfl rfl
set_option maxRecDepth 20000 in
theorem mw_2_124 : (Cond.code yL_areItems cL_areItems 11 (Option.some FieldType.boolean)) ∈ Wt := mW2 (i := 124) rfl rfl
set_option maxRecDepth 20000 in
theorem mw_2_125 : (Cond.methodLink "DustRobotLaw" 68 yX9_item) ∈ Wt := mW2 (i := 125) rfl rfl
set_option maxRecDepth 20000 in
theorem mw_2_126 : (Cond.instanceMethod yX9_item) ∈ Wt := mW2 (i := 126) rfl rfl
set_option maxRecDepth 20000 in
theorem mw_2_127 : (Cond.selects "DustRobot" yX9_item yX9_item) ∈ Wt := mW2 (i := 127) rfl rfl
set_option maxRecDepth 20000 in
theorem mw_2_128 : (Cond.code yX9_item cX9_item 4 (Option.some FieldType.int)) ∈ Wt := mW2 (i := 128) rfl rfl
set_option maxRecDepth 20000 in
theorem mw_2_129 : (Cond.methodLink "DustRobot" 101 yX7_itemAt) ∈ Wt := mW2 (i := 129) rfl rfl
set_option maxRecDepth 20000 in
theorem mw_2_130 : (Cond.instanceMethod yX7_itemAt) ∈ Wt := mW2 (i := 130) rfl rfl
set_option maxRecDepth 20000 in
theorem mw_2_131 : (Cond.selects "DustRobot$Store" yX7_itemAt yX7_itemAt) ∈ Wt := mW2 (i := 131) rfl rfl
set_option maxRecDepth 20000 in
theorem mw_2_132 : (Cond.code yX7_itemAt cX7_itemAt 2 (Option.some (FieldType.object "DustRobot$Item"))) ∈ Wt := mW2 (i := 132) rfl rfl
set_option maxRecDepth 20000 in
theorem mw_2_133 : (Cond.methodLink "DustRobot" 73 yX9_isFrom) ∈ Wt := mW2 (i := 133) rfl rfl
set_option maxRecDepth 20000 in
theorem mw_2_134 : (Cond.static yX9_isFrom) ∈ Wt := mW2 (i := 134) rfl rfl
set_option maxRecDepth 20000 in
theorem mw_2_135 : (Cond.code yX9_isFrom cX9_isFrom 3 (Option.some FieldType.boolean)) ∈ Wt := mW2 (i := 135) rfl rfl
set_option maxRecDepth 20000 in
theorem mw_2_136 : (Cond.methodLink "DustRobot" 210 yX5_jobsWith) ∈ Wt := mW2 (i := 136) rfl rfl
set_option maxRecDepth 20000 in
theorem mw_2_137 : (Cond.instanceMethod yX5_jobsWith) ∈ Wt := mW2 (i := 137) rfl rfl
set_option maxRecDepth 20000 in
theorem mw_2_138 : (Cond.selects "DustRobot$Queue" yX5_jobsWith yX5_jobsWith) ∈ Wt := mW2 (i := 138) rfl rfl
set_option maxRecDepth 20000 in
theorem mw_2_139 : (Cond.code yX5_jobsWith cX5_jobsWith 5 (Option.some FieldType.int)) ∈ Wt := mW2 (i := 139) rfl rfl
set_option maxRecDepth 20000 in
theorem mw_2_140 : (Cond.methodLink "DustRobot$Queue" 39 yX3_isOpen) ∈ Wt := mW2 (i := 140) rfl rfl
set_option maxRecDepth 20000 in
theorem mw_2_141 : (Cond.instanceMethod yX3_isOpen) ∈ Wt := mW2 (i := 141) rfl rfl
set_option maxRecDepth 20000 in
theorem mw_2_142 : (Cond.selects "DustRobot$Job" yX3_isOpen yX3_isOpen) ∈ Wt := mW2 (i := 142) rfl rfl
set_option maxRecDepth 20000 in
theorem mw_2_143 : (Cond.code yX3_isOpen cX3_isOpen 1 (Option.some FieldType.boolean)) ∈ Wt := mW2 (i := 143) rfl rfl
set_option maxRecDepth 20000 in
theorem mw_2_144 : (Cond.methodLink "DustRobot$Queue" 43 yX3_carriedItem) ∈ Wt := mW2 (i := 144) rfl rfl
set_option maxRecDepth 20000 in
theorem mw_2_145 : (Cond.instanceMethod yX3_carriedItem) ∈ Wt := mW2 (i := 145) rfl rfl
set_option maxRecDepth 20000 in
theorem mw_2_146 : (Cond.selects "DustRobot$Job" yX3_carriedItem yX3_carriedItem) ∈ Wt := mW2 (i := 146) rfl rfl
set_option maxRecDepth 20000 in
theorem mw_2_147 : (Cond.code yX3_carriedItem cX3_carriedItem 1 (Option.some FieldType.int)) ∈ Wt := mW2 (i := 147) rfl rfl
set_option maxRecDepth 20000 in
theorem mw_2_148 : (Cond.methodLink "DustRobot" 213 yX2_tell) ∈ Wt := mW2 (i := 148) rfl rfl
set_option maxRecDepth 20000 in
theorem mw_2_149 : (Cond.instanceMethod yX2_tell) ∈ Wt := mW2 (i := 149) rfl rfl
set_option maxRecDepth 20000 in
theorem mw_2_150 : (Cond.selects "DustRobot$Item" yX2_tell yX2_tell) ∈ Wt := mW2 (i := 150) rfl rfl
set_option maxRecDepth 20000 in
theorem mw_2_151 : (Cond.code yX2_tell cX2_tell 2 (Option.some FieldType.int)) ∈ Wt := mW2 (i := 151) rfl rfl
set_option maxRecDepth 20000 in
theorem mw_2_152 : (Cond.methodLink "DustRobotLaw" 73 yL_bits) ∈ Wt := mW2 (i := 152) rfl rfl
set_option maxRecDepth 20000 in
theorem mw_2_153 : (Cond.static yL_bits) ∈ Wt := mW2 (i := 153) rfl rfl
set_option maxRecDepth 20000 in
theorem mw_2_154 : (Cond.code yL_bits cL_bits 2 (Option.some FieldType.int)) ∈ Wt := mW2 (i := 154) rfl rfl
set_option maxRecDepth 20000 in
theorem mw_2_155 : (Cond.methodLink "DustRobotLaw" 77 yX9_homeOf) ∈ Wt := mW2 (i := 155) rfl rfl
set_option maxRecDepth 20000 in
theorem mw_2_156 : (Cond.instanceMethod yX9_homeOf) ∈ Wt := mW2 (i := 156) rfl rfl
set_option maxRecDepth 20000 in
theorem mw_2_157 : (Cond.selects "DustRobot" yX9_homeOf yX9_homeOf) ∈ Wt := mW2 (i := 157) rfl rfl
set_option maxRecDepth 20000 in
theorem mw_2_158 : (Cond.code yX9_homeOf cX9_homeOf 2 (Option.some FieldType.int)) ∈ Wt := mW2 (i := 158) rfl rfl
set_option maxRecDepth 20000 in
theorem mw_2_159 : (Cond.methodLink "DustRobot" 40 yX7_hasSlot) ∈ Wt := mW2 (i := 159) rfl rfl
set_option maxRecDepth 20000 in
theorem mw_2_160 : (Cond.static yX7_hasSlot) ∈ Wt := mW2 (i := 160) rfl rfl
set_option maxRecDepth 20000 in
theorem mw_2_161 : (Cond.code yX7_hasSlot cX7_hasSlot 1 (Option.some FieldType.boolean)) ∈ Wt := mW2 (i := 161) rfl rfl
set_option maxRecDepth 20000 in
theorem mw_2_162 : (Cond.methodLink "DustRobot" 216 yX7_itemWithHome) ∈ Wt := mW2 (i := 162) rfl rfl
set_option maxRecDepth 20000 in
theorem mw_2_163 : (Cond.instanceMethod yX7_itemWithHome) ∈ Wt := mW2 (i := 163) rfl rfl
set_option maxRecDepth 20000 in
theorem mw_2_164 : (Cond.selects "DustRobot$Store" yX7_itemWithHome yX7_itemWithHome) ∈ Wt := mW2 (i := 164) rfl rfl
set_option maxRecDepth 20000 in
theorem mw_2_165 : (Cond.code yX7_itemWithHome cX7_itemWithHome 3 (Option.some FieldType.int)) ∈ Wt := mW2 (i := 165) rfl rfl
set_option maxRecDepth 20000 in
theorem mw_2_166 : (Cond.methodLink "DustRobotLaw" 187 yL_areDrives) ∈ Wt := mW2 (i := 166) rfl rfl
set_option maxRecDepth 20000 in
theorem mw_2_167 : (Cond.static yL_areDrives) ∈ Wt := mW2 (i := 167) rfl rfl
set_option maxRecDepth 20000 in
theorem mw_2_168 : (Cond.code yL_areDrives cL_areDrives 6 (Option.some FieldType.boolean)) ∈ Wt := mW2 (i := 168) rfl rfl
set_option maxRecDepth 20000 in
theorem mw_2_169 : (Cond.methodLink "DustRobotLaw" 80 yX9_drive) ∈ Wt := mW2 (i := 169) rfl rfl
set_option maxRecDepth 20000 in
theorem mw_2_170 : (Cond.instanceMethod yX9_drive) ∈ Wt := mW2 (i := 170) rfl rfl
set_option maxRecDepth 20000 in
theorem mw_2_171 : (Cond.selects "DustRobot" yX9_drive yX9_drive) ∈ Wt := mW2 (i := 171) rfl rfl
set_option maxRecDepth 20000 in
theorem mw_2_172 : (Cond.code yX9_drive cX9_drive 4 (Option.some FieldType.int)) ∈ Wt := mW2 (i := 172) rfl rfl
set_option maxRecDepth 20000 in
theorem mw_2_173 : (Cond.methodLink "DustRobot" 116 yX7_driveAt) ∈ Wt := mW2 (i := 173) rfl rfl
set_option maxRecDepth 20000 in
theorem mw_2_174 : (Cond.instanceMethod yX7_driveAt) ∈ Wt := mW2 (i := 174) rfl rfl
set_option maxRecDepth 20000 in
theorem mw_2_175 : (Cond.selects "DustRobot$Store" yX7_driveAt yX7_driveAt) ∈ Wt := mW2 (i := 175) rfl rfl
set_option maxRecDepth 20000 in
theorem mw_2_176 : (Cond.code yX7_driveAt cX7_driveAt 2 (Option.some (FieldType.object "DustRobot$Drive"))) ∈ Wt := mW2 (i := 176) rfl rfl
set_option maxRecDepth 20000 in
theorem mw_2_177 : (Cond.methodLink "DustRobot" 219 yX0_tell) ∈ Wt := mW2 (i := 177) rfl rfl
set_option maxRecDepth 20000 in
theorem mw_2_178 : (Cond.instanceMethod yX0_tell) ∈ Wt := mW2 (i := 178) rfl rfl
set_option maxRecDepth 20000 in
theorem mw_2_179 : (Cond.selects "DustRobot$Drive" yX0_tell yX0_tell) ∈ Wt := mW2 (i := 179) rfl rfl
set_option maxRecDepth 20000 in
theorem mw_2_180 : (Cond.code yX0_tell cX0_tell 2 (Option.some FieldType.int)) ∈ Wt := mW2 (i := 180) rfl rfl
set_option maxRecDepth 20000 in
theorem mw_2_181 : (Cond.methodLink "DustRobot$Drive" 46 yX0_isTooDusty) ∈ Wt := mW2 (i := 181) rfl rfl
set_option maxRecDepth 20000 in
theorem mw_2_182 : (Cond.instanceMethod yX0_isTooDusty) ∈ Wt := mW2 (i := 182) rfl rfl
set_option maxRecDepth 20000 in
theorem mw_2_183 : (Cond.selects "DustRobot$Drive" yX0_isTooDusty yX0_isTooDusty) ∈ Wt := mW2 (i := 183) rfl rfl
set_option maxRecDepth 20000 in
theorem mw_2_184 : (Cond.code yX0_isTooDusty cX0_isTooDusty 1 (Option.some FieldType.boolean)) ∈ Wt := mW2 (i := 184) rfl rfl
set_option maxRecDepth 20000 in
theorem mw_2_185 : (Cond.methodLink "DustRobotLaw" 9 yL_isDusty) ∈ Wt := mW2 (i := 185) rfl rfl
set_option maxRecDepth 20000 in
theorem mw_2_186 : (Cond.static yL_isDusty) ∈ Wt := mW2 (i := 186) rfl rfl
set_option maxRecDepth 20000 in
theorem mw_2_187 : (Cond.code yL_isDusty cL_isDusty 2 (Option.some FieldType.boolean)) ∈ Wt := mW2 (i := 187) rfl rfl
set_option maxRecDepth 20000 in
theorem mw_2_188 : (Cond.methodLink "DustRobotLaw" 82 yX9_dust) ∈ Wt := mW2 (i := 188) rfl rfl
set_option maxRecDepth 20000 in
theorem mw_2_189 : (Cond.instanceMethod yX9_dust) ∈ Wt := mW2 (i := 189) rfl rfl
set_option maxRecDepth 20000 in
theorem mw_2_190 : (Cond.selects "DustRobot" yX9_dust yX9_dust) ∈ Wt := mW2 (i := 190) rfl rfl
set_option maxRecDepth 20000 in
theorem mw_2_191 : (Cond.code yX9_dust cX9_dust 3 (Option.some FieldType.float)) ∈ Wt := mW2 (i := 191) rfl rfl
set_option maxRecDepth 20000 in
theorem mw_2_192 : (Cond.methodLink "DustRobot" 220 yX9_noNumber) ∈ Wt := mW2 (i := 192) rfl rfl
set_option maxRecDepth 20000 in
theorem mw_2_193 : (Cond.static yX9_noNumber) ∈ Wt := mW2 (i := 193) rfl rfl
set_option maxRecDepth 20000 in
theorem mw_2_194 : (Cond.code yX9_noNumber cX9_noNumber 0 (Option.some FieldType.float)) ∈ Wt := mW2 (i := 194) rfl rfl
set_option maxRecDepth 20000 in
theorem mw_2_195 : (Cond.constantFloat "DustRobot" 282 (2143289344 : UInt32)) ∈ Wt := mW2 (i := 195) rfl rfl
set_option maxRecDepth 20000 in
theorem mw_2_196 : (Cond.methodLink "DustRobotLaw" 86 yX9_ceiling) ∈ Wt := mW2 (i := 196) rfl rfl
set_option maxRecDepth 20000 in
theorem mw_2_197 : (Cond.instanceMethod yX9_ceiling) ∈ Wt := mW2 (i := 197) rfl rfl
set_option maxRecDepth 20000 in
theorem mw_2_198 : (Cond.selects "DustRobot" yX9_ceiling yX9_ceiling) ∈ Wt := mW2 (i := 198) rfl rfl
set_option maxRecDepth 20000 in
theorem mw_2_199 : (Cond.code yX9_ceiling cX9_ceiling 3 (Option.some FieldType.float)) ∈ Wt := mW2 (i := 199) rfl rfl
set_option maxRecDepth 20000 in
theorem mw_2_200 : (Cond.methodLink "DustRobotLaw" 89 yX9_meter) ∈ Wt := mW2 (i := 200) rfl rfl
set_option maxRecDepth 20000 in
theorem mw_2_201 : (Cond.instanceMethod yX9_meter) ∈ Wt := mW2 (i := 201) rfl rfl
set_option maxRecDepth 20000 in
theorem mw_2_202 : (Cond.selects "DustRobot" yX9_meter yX9_meter) ∈ Wt := mW2 (i := 202) rfl rfl
set_option maxRecDepth 20000 in
theorem mw_2_203 : (Cond.code yX9_meter cX9_meter 2 (Option.some FieldType.float)) ∈ Wt := mW2 (i := 203) rfl rfl
set_option maxRecDepth 20000 in
theorem mw_2_204 : (Cond.methodLink "DustRobot" 230 yX7_dustOfAll) ∈ Wt := mW2 (i := 204) rfl rfl
set_option maxRecDepth 20000 in
theorem mw_2_205 : (Cond.instanceMethod yX7_dustOfAll) ∈ Wt := mW2 (i := 205) rfl rfl
set_option maxRecDepth 20000 in
theorem mw_2_206 : (Cond.selects "DustRobot$Store" yX7_dustOfAll yX7_dustOfAll) ∈ Wt := mW2 (i := 206) rfl rfl
set_option maxRecDepth 20000 in
theorem mw_2_207 : (Cond.code yX7_dustOfAll cX7_dustOfAll 3 (Option.some FieldType.float)) ∈ Wt := mW2 (i := 207) rfl rfl
set_option maxRecDepth 20000 in
theorem mw_2_208 : (Cond.methodLink "DustRobotLaw" 191 yL_areJobs) ∈ Wt := mW2 (i := 208) rfl rfl
set_option maxRecDepth 20000 in
theorem mw_2_209 : (Cond.static yL_areJobs) ∈ Wt := mW2 (i := 209) rfl rfl
set_option maxRecDepth 20000 in
theorem mw_2_210 : (Cond.code yL_areJobs cL_areJobs 6 (Option.some FieldType.boolean)) ∈ Wt := mW2 (i := 210) rfl rfl
set_option maxRecDepth 20000 in
theorem mw_2_211 : (Cond.methodLink "DustRobotLaw" 92 yX9_job) ∈ Wt := mW2 (i := 211) rfl rfl
set_option maxRecDepth 20000 in
theorem mw_2_212 : (Cond.instanceMethod yX9_job) ∈ Wt := mW2 (i := 212) rfl rfl
set_option maxRecDepth 20000 in
theorem mw_2_213 : (Cond.selects "DustRobot" yX9_job yX9_job) ∈ Wt := mW2 (i := 213) rfl rfl
set_option maxRecDepth 20000 in
theorem mw_2_214 : (Cond.code yX9_job cX9_job 4 (Option.some FieldType.int)) ∈ Wt := mW2 (i := 214) rfl rfl
set_option maxRecDepth 20000 in
theorem mw_2_215 : (Cond.methodLink "DustRobot" 141 yX5_jobAt) ∈ Wt := mW2 (i := 215) rfl rfl
set_option maxRecDepth 20000 in
theorem mw_2_216 : (Cond.instanceMethod yX5_jobAt) ∈ Wt := mW2 (i := 216) rfl rfl
set_option maxRecDepth 20000 in
theorem mw_2_217 : (Cond.selects "DustRobot$Queue" yX5_jobAt yX5_jobAt) ∈ Wt := mW2 (i := 217) rfl rfl
set_option maxRecDepth 20000 in
theorem mw_2_218 : (Cond.code yX5_jobAt cX5_jobAt 2 (Option.some (FieldType.object "DustRobot$Job"))) ∈ Wt := mW2 (i := 218) rfl rfl
set_option maxRecDepth 20000 in
theorem mw_2_219 : (Cond.methodLink "DustRobot" 233 yX3_tell) ∈ Wt := mW2 (i := 219) rfl rfl
set_option maxRecDepth 20000 in
theorem mw_2_220 : (Cond.instanceMethod yX3_tell) ∈ Wt := mW2 (i := 220) rfl rfl
set_option maxRecDepth 20000 in
theorem mw_2_221 : (Cond.selects "DustRobot$Job" yX3_tell yX3_tell) ∈ Wt := mW2 (i := 221) rfl rfl
set_option maxRecDepth 20000 in
theorem mw_2_222 : (Cond.code yX3_tell cX3_tell 2 (Option.some FieldType.int)) ∈ Wt := mW2 (i := 222) rfl rfl
set_option maxRecDepth 20000 in
theorem mw_2_223 : (Cond.methodLink "DustRobotLaw" 195 yL_areCounts) ∈ Wt := mW2 (i := 223) rfl rfl
set_option maxRecDepth 20000 in
theorem mw_2_224 : (Cond.static yL_areCounts) ∈ Wt := mW2 (i := 224) rfl rfl
set_option maxRecDepth 20000 in
theorem mw_2_225 : (Cond.code yL_areCounts cL_areCounts 9 (Option.some FieldType.boolean)) ∈ Wt := mW2 (i := 225) rfl rfl
set_option maxRecDepth 20000 in
theorem mw_2_226 : (Cond.methodLink "DustRobotLaw" 95 yX9_count) ∈ Wt := mW2 (i := 226) rfl rfl
set_option maxRecDepth 20000 in
theorem mw_2_227 : (Cond.instanceMethod yX9_count) ∈ Wt := mW2 (i := 227) rfl rfl
set_option maxRecDepth 20000 in
theorem mw_2_228 : (Cond.selects "DustRobot" yX9_count yX9_count) ∈ Wt := mW2 (i := 228) rfl rfl
set_option maxRecDepth 20000 in
theorem mw_2_229 : (Cond.code yX9_count cX9_count 2 (Option.some FieldType.int)) ∈ Wt := mW2 (i := 229) rfl rfl
set_option maxRecDepth 20000 in
theorem mw_2_230 : (Cond.methodLink "DustRobot" 159 yX5_jobsInState) ∈ Wt := mW2 (i := 230) rfl rfl
set_option maxRecDepth 20000 in
theorem mw_2_231 : (Cond.instanceMethod yX5_jobsInState) ∈ Wt := mW2 (i := 231) rfl rfl
set_option maxRecDepth 20000 in
theorem mw_2_232 : (Cond.selects "DustRobot$Queue" yX5_jobsInState yX5_jobsInState) ∈ Wt := mW2 (i := 232) rfl rfl
set_option maxRecDepth 20000 in
theorem mw_2_233 : (Cond.code yX5_jobsInState cX5_jobsInState 4 (Option.some FieldType.int)) ∈ Wt := mW2 (i := 233) rfl rfl
set_option maxRecDepth 20000 in
theorem mw_2_234 : (Cond.methodLink "DustRobot" 266 yX7_sumOverDrives) ∈ Wt := mW2 (i := 234) rfl rfl
set_option maxRecDepth 20000 in
theorem mw_2_235 : (Cond.instanceMethod yX7_sumOverDrives) ∈ Wt := mW2 (i := 235) rfl rfl
set_option maxRecDepth 20000 in
theorem mw_2_236 : (Cond.selects "DustRobot$Store" yX7_sumOverDrives yX7_sumOverDrives) ∈ Wt := mW2 (i := 236) rfl rfl
set_option maxRecDepth 20000 in
theorem mw_2_237 : (Cond.code yX7_sumOverDrives cX7_sumOverDrives 4 (Option.some FieldType.int)) ∈ Wt := mW2 (i := 237) rfl rfl
set_option maxRecDepth 20000 in
theorem mw_2_238 : (Cond.methodLink "DustRobot$Store" 66 yX0_tell) ∈ Wt := mW2 (i := 238) rfl rfl
set_option maxRecDepth 20000 in
theorem mw_2_239 : (Cond.methodLink "DustRobot" 276 yX7_usesOfAll) ∈ Wt := mW2 (i := 239) rfl rfl
set_option maxRecDepth 20000 in
theorem mw_3_0 : (Cond.instanceMethod yX7_usesOfAll) ∈ Wt := mW3 (i := 0) rfl rfl
set_option maxRecDepth 20000 in
theorem mw_3_1 : (Cond.selects "DustRobot$Store" yX7_usesOfAll yX7_usesOfAll) ∈ Wt := mW3 (i := 1) rfl rfl
set_option maxRecDepth 20000 in
theorem mw_3_2 : (Cond.code yX7_usesOfAll cX7_usesOfAll 3 (Option.some FieldType.int)) ∈ Wt := mW3 (i := 2) rfl rfl
set_option maxRecDepth 20000 in
theorem mw_3_3 : (Cond.methodLink "DustRobotLaw" 98 yX9_next) ∈ Wt := mW3 (i := 3) rfl rfl
set_option maxRecDepth 20000 in
theorem mw_3_4 : (Cond.instanceMethod yX9_next) ∈ Wt := mW3 (i := 4) rfl rfl
set_option maxRecDepth 20000 in
theorem mw_3_5 : (Cond.selects "DustRobot" yX9_next yX9_next) ∈ Wt := mW3 (i := 5) rfl rfl
set_option maxRecDepth 20000 in
theorem mw_3_6 : (Cond.code yX9_next cX9_next 1 (Option.some FieldType.int)) ∈ Wt := mW3 (i := 6) rfl rfl
set_option maxRecDepth 20000 in
theorem mw_3_7 : (Cond.methodLink "DustRobot" 237 yX6_jobToBegin) ∈ Wt := mW3 (i := 7) rfl rfl
set_option maxRecDepth 20000 in
theorem mw_3_8 : (Cond.instanceMethod yX6_jobToBegin) ∈ Wt := mW3 (i := 8) rfl rfl
set_option maxRecDepth 20000 in
theorem mw_3_9 : (Cond.selects "DustRobot$State" yX6_jobToBegin yX6_jobToBegin) ∈ Wt := mW3 (i := 9) rfl rfl
set_option maxRecDepth 20000 in
theorem mw_3_10 : (Cond.code yX6_jobToBegin cX6_jobToBegin 6 (Option.some FieldType.int)) ∈ Wt := mW3 (i := 10) rfl rfl
set_option maxRecDepth 20000 in
theorem mw_3_11 : (Cond.methodLink "DustRobot$State" 116 yX6_groupOf) ∈ Wt := mW3 (i := 11) rfl rfl
set_option maxRecDepth 20000 in
theorem mw_3_13 : (Cond.instanceMethod yX6_groupOf) ∈ Wt := mW3 (i := 13) rfl rfl
set_option maxRecDepth 20000 in
theorem mw_3_14 : (Cond.code yX6_groupOf cX6_groupOf 3 (Option.some FieldType.int)) ∈ Wt := mW3 (i := 14) rfl rfl
set_option maxRecDepth 20000 in
theorem mw_3_15 : (Cond.methodLink "DustRobot$State" 88 yX7_driveAt) ∈ Wt := mW3 (i := 15) rfl rfl
set_option maxRecDepth 20000 in
theorem mw_3_16 : (Cond.methodLink "DustRobot$State" 130 yX0_isTooDusty) ∈ Wt := mW3 (i := 16) rfl rfl
set_option maxRecDepth 20000 in
theorem mw_3_17 : (Cond.methodLink "DustRobot$State" 136 yX5_rankOf) ∈ Wt := mW3 (i := 17) rfl rfl
set_option maxRecDepth 20000 in
theorem mw_3_18 : (Cond.instanceMethod yX5_rankOf) ∈ Wt := mW3 (i := 18) rfl rfl
set_option maxRecDepth 20000 in
theorem mw_3_19 : (Cond.selects "DustRobot$Queue" yX5_rankOf yX5_rankOf) ∈ Wt := mW3 (i := 19) rfl rfl
set_option maxRecDepth 20000 in
theorem mw_3_20 : (Cond.code yX5_rankOf cX5_rankOf 2 (Option.some FieldType.int)) ∈ Wt := mW3 (i := 20) rfl rfl
set_option maxRecDepth 20000 in
theorem mw_3_21 : (Cond.methodLink "DustRobot$State" 123 yX6_canBegin) ∈ Wt := mW3 (i := 21) rfl rfl
set_option maxRecDepth 20000 in
theorem mw_3_23 : (Cond.instanceMethod yX6_canBegin) ∈ Wt := mW3 (i := 23) rfl rfl
set_option maxRecDepth 20000 in
theorem mw_3_24 : (Cond.code yX6_canBegin cX6_canBegin 3 (Option.some FieldType.boolean)) ∈ Wt := mW3 (i := 24) rfl rfl
set_option maxRecDepth 20000 in
theorem mw_3_25 : (Cond.methodLink "DustRobot$State" 139 yX7_driveToRead) ∈ Wt := mW3 (i := 25) rfl rfl
set_option maxRecDepth 20000 in
theorem mw_3_26 : (Cond.instanceMethod yX7_driveToRead) ∈ Wt := mW3 (i := 26) rfl rfl
set_option maxRecDepth 20000 in
theorem mw_3_27 : (Cond.selects "DustRobot$Store" yX7_driveToRead yX7_driveToRead) ∈ Wt := mW3 (i := 27) rfl rfl
set_option maxRecDepth 20000 in
theorem mw_3_28 : (Cond.code yX7_driveToRead cX7_driveToRead 5 (Option.some FieldType.int)) ∈ Wt := mW3 (i := 28) rfl rfl
set_option maxRecDepth 20000 in
theorem mw_3_29 : (Cond.methodLink "DustRobot$Store" 45 yX0_isTooDusty) ∈ Wt := mW3 (i := 29) rfl rfl
set_option maxRecDepth 20000 in
theorem mw_3_30 : (Cond.methodLink "DustRobot$State" 143 yX7_cleanerNearest) ∈ Wt := mW3 (i := 30) rfl rfl
set_option maxRecDepth 20000 in
theorem mw_3_31 : (Cond.instanceMethod yX7_cleanerNearest) ∈ Wt := mW3 (i := 31) rfl rfl
set_option maxRecDepth 20000 in
theorem mw_3_32 : (Cond.selects "DustRobot$Store" yX7_cleanerNearest yX7_cleanerNearest) ∈ Wt := mW3 (i := 32) rfl rfl
set_option maxRecDepth 20000 in
theorem mw_3_33 : (Cond.code yX7_cleanerNearest cX7_cleanerNearest 7 (Option.some FieldType.int)) ∈ Wt := mW3 (i := 33) rfl rfl
set_option maxRecDepth 20000 in
theorem mw_3_34 : (Cond.methodLink "DustRobot$Store" 53 yJ9_abs_0f7a4) ∈ Wt := mW3 (i := 34) rfl rfl
set_option maxRecDepth 20000 in
theorem mw_3_35 : (Cond.static yJ9_abs_0f7a4) ∈ Wt := mW3 (i := 35) rfl rfl
set_option maxRecDepth 20000 in
theorem mw_3_36 : (Cond.code yJ9_abs_0f7a4 cJ9_abs_0f7a4 1 (Option.some FieldType.int)) ∈ Wt := mW3 (i := 36) rfl rfl
set_option maxRecDepth 20000 in
theorem mw_3_37 : (Cond.methodLink "DustRobot$State" 84 yX7_itemWithHome) ∈ Wt := mW3 (i := 37) rfl rfl
set_option maxRecDepth 20000 in
theorem mw_3_38 : (Cond.methodLink "DustRobotLaw" 59 yL_first) ∈ Wt := mW3 (i := 38) rfl rfl
set_option maxRecDepth 20000 in
theorem mw_3_39 : (Cond.static yL_first) ∈ Wt := mW3 (i := 39) rfl rfl
set_option maxRecDepth 20000 in
theorem mw_3_40 : (Cond.code yL_first cL_first 7 (Option.some FieldType.int)) ∈ Wt := mW3 (i := 40) rfl rfl
set_option maxRecDepth 20000 in
theorem mw_3_41 : (Cond.methodLink "DustRobotLaw" 35 yL_canBegin) ∈ Wt := mW3 (i := 41) rfl rfl
set_option maxRecDepth 20000 in
theorem mw_3_42 : (Cond.static yL_canBegin) ∈ Wt := mW3 (i := 42) rfl rfl
set_option maxRecDepth 20000 in
theorem mw_3_43 : (Cond.code yL_canBegin cL_canBegin 7 (Option.some FieldType.boolean)) ∈ Wt := mW3 (i := 43) rfl rfl
set_option maxRecDepth 20000 in
theorem mw_3_44 : (Cond.methodLink "DustRobotLaw" 23 yL_atHome) ∈ Wt := mW3 (i := 44) rfl rfl
set_option maxRecDepth 20000 in
theorem mw_3_45 : (Cond.static yL_atHome) ∈ Wt := mW3 (i := 45) rfl rfl
set_option maxRecDepth 20000 in
theorem mw_3_46 : (Cond.code yL_atHome cL_atHome 5 (Option.some FieldType.int)) ∈ Wt := mW3 (i := 46) rfl rfl
set_option maxRecDepth 20000 in
theorem mw_3_47 : (Cond.methodLink "DustRobotLaw" 27 yL_drive) ∈ Wt := mW3 (i := 47) rfl rfl
set_option maxRecDepth 20000 in
theorem mw_3_48 : (Cond.static yL_drive) ∈ Wt := mW3 (i := 48) rfl rfl
set_option maxRecDepth 20000 in
theorem mw_3_49 : (Cond.code yL_drive cL_drive 4 (Option.some FieldType.int)) ∈ Wt := mW3 (i := 49) rfl rfl
set_option maxRecDepth 20000 in
theorem mw_3_50 : (Cond.methodLink "DustRobotLaw" 31 yL_cleaner) ∈ Wt := mW3 (i := 50) rfl rfl
set_option maxRecDepth 20000 in
theorem mw_3_51 : (Cond.static yL_cleaner) ∈ Wt := mW3 (i := 51) rfl rfl
set_option maxRecDepth 20000 in
theorem mw_3_52 : (Cond.code yL_cleaner cL_cleaner 5 (Option.some FieldType.int)) ∈ Wt := mW3 (i := 52) rfl rfl
set_option maxRecDepth 20000 in
theorem mw_3_53 : (Cond.methodLink "DustRobotLaw" 19 yL_away) ∈ Wt := mW3 (i := 53) rfl rfl
set_option maxRecDepth 20000 in
theorem mw_3_54 : (Cond.static yL_away) ∈ Wt := mW3 (i := 54) rfl rfl
set_option maxRecDepth 20000 in
theorem mw_3_55 : (Cond.code yL_away cL_away 2 (Option.some FieldType.int)) ∈ Wt := mW3 (i := 55) rfl rfl
set_option maxRecDepth 20000 in
theorem mw_3_56 : (Cond.methodLink "DustRobotLaw" 39 yL_isAhead) ∈ Wt := mW3 (i := 56) rfl rfl
set_option maxRecDepth 20000 in
theorem mw_3_57 : (Cond.static yL_isAhead) ∈ Wt := mW3 (i := 57) rfl rfl
set_option maxRecDepth 20000 in
theorem mw_3_58 : (Cond.code yL_isAhead cL_isAhead 8 (Option.some FieldType.boolean)) ∈ Wt := mW3 (i := 58) rfl rfl
set_option maxRecDepth 20000 in
theorem mw_3_59 : (Cond.methodLink "DustRobotLaw" 15 yL_rank) ∈ Wt := mW3 (i := 59) rfl rfl
set_option maxRecDepth 20000 in
theorem mw_3_60 : (Cond.static yL_rank) ∈ Wt := mW3 (i := 60) rfl rfl
set_option maxRecDepth 20000 in
theorem mw_3_61 : (Cond.code yL_rank cL_rank 2 (Option.some FieldType.int)) ∈ Wt := mW3 (i := 61) rfl rfl
set_option maxRecDepth 20000 in
theorem mw_3_62 : (Cond.methodLink "DustRobotLaw" 172 yL_adds) ∈ Wt := mW3 (i := 62) rfl rfl
set_option maxRecDepth 20000 in
theorem mw_3_63 : (Cond.static yL_adds) ∈ Wt := mW3 (i := 63) rfl rfl
set_option maxRecDepth 20000 in
theorem mw_3_64 : (Cond.code yL_adds cL_adds 10 (Option.some FieldType.boolean)) ∈ Wt := mW3 (i := 64) rfl rfl
set_option maxRecDepth 20000 in
theorem mw_3_65 : (Cond.methodLink "DustRobotLaw" 105 yX9_addTape) ∈ Wt := mW3 (i := 65) rfl rfl
set_option maxRecDepth 20000 in
theorem mw_3_66 : (Cond.instanceMethod yX9_addTape) ∈ Wt := mW3 (i := 66) rfl rfl
set_option maxRecDepth 20000 in
theorem mw_3_67 : (Cond.selects "DustRobot" yX9_addTape yX9_addTape) ∈ Wt := mW3 (i := 67) rfl rfl
set_option maxRecDepth 20000 in
theorem mw_3_68 : (Cond.code yX9_addTape cX9_addTape 4 (Option.some FieldType.int)) ∈ Wt := mW3 (i := 68) rfl rfl
set_option maxRecDepth 20000 in
theorem mw_3_69 : (Cond.constant "DustRobot" 72 (1065353216 : Int32)) ∈ Wt := mW3 (i := 69) rfl rfl
set_option maxRecDepth 20000 in
theorem mw_3_70 : (Cond.methodLink "DustRobot" 77 yX6_isTakenOrAimedAt) ∈ Wt := mW3 (i := 70) rfl rfl
set_option maxRecDepth 20000 in
theorem mw_3_71 : (Cond.instanceMethod yX6_isTakenOrAimedAt) ∈ Wt := mW3 (i := 71) rfl rfl
set_option maxRecDepth 20000 in
theorem mw_3_72 : (Cond.selects "DustRobot$State" yX6_isTakenOrAimedAt yX6_isTakenOrAimedAt) ∈ Wt := mW3 (i := 72) rfl rfl
set_option maxRecDepth 20000 in
theorem mw_3_73 : (Cond.code yX6_isTakenOrAimedAt cX6_isTakenOrAimedAt 4 (Option.some FieldType.boolean)) ∈ Wt := mW3 (i := 73) rfl rfl
set_option maxRecDepth 20000 in
theorem mw_3_74 : (Cond.methodLink "DustRobot$State" 72 yX5_jobAt) ∈ Wt := mW3 (i := 74) rfl rfl
set_option maxRecDepth 20000 in
theorem mw_3_75 : (Cond.methodLink "DustRobot" 80 yX7_freeItem) ∈ Wt := mW3 (i := 75) rfl rfl
set_option maxRecDepth 20000 in
theorem mw_3_76 : (Cond.instanceMethod yX7_freeItem) ∈ Wt := mW3 (i := 76) rfl rfl
set_option maxRecDepth 20000 in
theorem mw_3_77 : (Cond.selects "DustRobot$Store" yX7_freeItem yX7_freeItem) ∈ Wt := mW3 (i := 77) rfl rfl
set_option maxRecDepth 20000 in
theorem mw_3_78 : (Cond.code yX7_freeItem cX7_freeItem 1 (Option.some (FieldType.object "DustRobot$Item"))) ∈ Wt := mW3 (i := 78) rfl rfl
set_option maxRecDepth 20000 in
theorem mw_3_79 : (Cond.methodLink "DustRobot" 58 yX1_record) ∈ Wt := mW3 (i := 79) rfl rfl
set_option maxRecDepth 20000 in
theorem mw_3_80 : (Cond.instanceMethod yX1_record) ∈ Wt := mW3 (i := 80) rfl rfl
set_option maxRecDepth 20000 in
theorem mw_3_81 : (Cond.selects "DustRobot$History" yX1_record yX1_record) ∈ Wt := mW3 (i := 81) rfl rfl
set_option maxRecDepth 20000 in
theorem mw_3_82 : (Cond.code yX1_record cX1_record 2 (Option.none : Option Jvm.ClassFile.FieldType)) ∈ Wt := mW3 (i := 82) rfl rfl
set_option maxRecDepth 20000 in
theorem mw_3_83 : (Cond.methodLink "DustRobot$History" 22 yX1_dropOldest) ∈ Wt := mW3 (i := 83) rfl rfl
set_option maxRecDepth 20000 in
theorem mw_3_85 : (Cond.instanceMethod yX1_dropOldest) ∈ Wt := mW3 (i := 85) rfl rfl
set_option maxRecDepth 20000 in
theorem mw_3_86 : (Cond.code yX1_dropOldest cX1_dropOldest 3 (Option.none : Option Jvm.ClassFile.FieldType)) ∈ Wt := mW3 (i := 86) rfl rfl
set_option maxRecDepth 20000 in
theorem mw_3_87 : (Cond.methodLink "DustRobot$History" 25 yX6_copyFrom) ∈ Wt := mW3 (i := 87) rfl rfl
set_option maxRecDepth 20000 in
theorem mw_3_88 : (Cond.instanceMethod yX6_copyFrom) ∈ Wt := mW3 (i := 88) rfl rfl
set_option maxRecDepth 20000 in
theorem mw_3_89 : (Cond.selects "DustRobot$State" yX6_copyFrom yX6_copyFrom) ∈ Wt := mW3 (i := 89) rfl rfl
set_option maxRecDepth 20000 in
theorem mw_3_90 : (Cond.code yX6_copyFrom cX6_copyFrom 2 (Option.none : Option Jvm.ClassFile.FieldType)) ∈ Wt := mW3 (i := 90) rfl rfl
set_option maxRecDepth 20000 in
theorem mw_3_91 : (Cond.methodLink "DustRobot$State" 62 yX7_copyFrom) ∈ Wt := mW3 (i := 91) rfl rfl
set_option maxRecDepth 20000 in
theorem mw_3_92 : (Cond.instanceMethod yX7_copyFrom) ∈ Wt := mW3 (i := 92) rfl rfl
set_option maxRecDepth 20000 in
theorem mw_3_93 : (Cond.selects "DustRobot$Store" yX7_copyFrom yX7_copyFrom) ∈ Wt := mW3 (i := 93) rfl rfl
set_option maxRecDepth 20000 in
theorem mw_3_94 : (Cond.code yX7_copyFrom cX7_copyFrom 3 (Option.none : Option Jvm.ClassFile.FieldType)) ∈ Wt := mW3 (i := 94) rfl rfl
set_option maxRecDepth 20000 in
theorem mw_3_95 : (Cond.methodLink "DustRobot$Store" 32 yX2_copyFrom) ∈ Wt := mW3 (i := 95) rfl rfl
set_option maxRecDepth 20000 in
theorem mw_3_96 : (Cond.instanceMethod yX2_copyFrom) ∈ Wt := mW3 (i := 96) rfl rfl
set_option maxRecDepth 20000 in
theorem mw_3_97 : (Cond.selects "DustRobot$Item" yX2_copyFrom yX2_copyFrom) ∈ Wt := mW3 (i := 97) rfl rfl
set_option maxRecDepth 20000 in
theorem mw_3_98 : (Cond.code yX2_copyFrom cX2_copyFrom 2 (Option.none : Option Jvm.ClassFile.FieldType)) ∈ Wt := mW3 (i := 98) rfl rfl
set_option maxRecDepth 20000 in
theorem mw_3_99 : (Cond.methodLink "DustRobot$Store" 36 yX0_copyFrom) ∈ Wt := mW3 (i := 99) rfl rfl
set_option maxRecDepth 20000 in
theorem mw_3_100 : (Cond.instanceMethod yX0_copyFrom) ∈ Wt := mW3 (i := 100) rfl rfl
set_option maxRecDepth 20000 in
theorem mw_3_101 : (Cond.selects "DustRobot$Drive" yX0_copyFrom yX0_copyFrom) ∈ Wt := mW3 (i := 101) rfl rfl
set_option maxRecDepth 20000 in
theorem mw_3_102 : (Cond.code yX0_copyFrom cX0_copyFrom 2 (Option.none : Option Jvm.ClassFile.FieldType)) ∈ Wt := mW3 (i := 102) rfl rfl
set_option maxRecDepth 20000 in
theorem mw_3_103 : (Cond.methodLink "DustRobot$State" 66 yX5_copyFrom) ∈ Wt := mW3 (i := 103) rfl rfl
set_option maxRecDepth 20000 in
theorem mw_3_104 : (Cond.instanceMethod yX5_copyFrom) ∈ Wt := mW3 (i := 104) rfl rfl
set_option maxRecDepth 20000 in
theorem mw_3_105 : (Cond.selects "DustRobot$Queue" yX5_copyFrom yX5_copyFrom) ∈ Wt := mW3 (i := 105) rfl rfl
set_option maxRecDepth 20000 in
theorem mw_3_106 : (Cond.code yX5_copyFrom cX5_copyFrom 3 (Option.none : Option Jvm.ClassFile.FieldType)) ∈ Wt := mW3 (i := 106) rfl rfl
set_option maxRecDepth 20000 in
theorem mw_3_107 : (Cond.methodLink "DustRobot$Queue" 28 yX3_copyFrom) ∈ Wt := mW3 (i := 107) rfl rfl
set_option maxRecDepth 20000 in
theorem mw_3_108 : (Cond.instanceMethod yX3_copyFrom) ∈ Wt := mW3 (i := 108) rfl rfl
set_option maxRecDepth 20000 in
theorem mw_3_109 : (Cond.selects "DustRobot$Job" yX3_copyFrom yX3_copyFrom) ∈ Wt := mW3 (i := 109) rfl rfl
set_option maxRecDepth 20000 in
theorem mw_3_110 : (Cond.code yX3_copyFrom cX3_copyFrom 2 (Option.none : Option Jvm.ClassFile.FieldType)) ∈ Wt := mW3 (i := 110) rfl rfl
set_option maxRecDepth 20000 in
theorem mw_3_111 : (Cond.methodLink "DustRobot$State" 69 yX4_copyFrom) ∈ Wt := mW3 (i := 111) rfl rfl
set_option maxRecDepth 20000 in
theorem mw_3_112 : (Cond.instanceMethod yX4_copyFrom) ∈ Wt := mW3 (i := 112) rfl rfl
set_option maxRecDepth 20000 in
theorem mw_3_113 : (Cond.selects "DustRobot$Log" yX4_copyFrom yX4_copyFrom) ∈ Wt := mW3 (i := 113) rfl rfl
set_option maxRecDepth 20000 in
theorem mw_3_114 : (Cond.code yX4_copyFrom cX4_copyFrom 2 (Option.none : Option Jvm.ClassFile.FieldType)) ∈ Wt := mW3 (i := 114) rfl rfl
set_option maxRecDepth 20000 in
theorem mw_3_115 : (Cond.methodLink "DustRobot$Log" 31 (⟨"java/lang/System", "arraycopy", "(Ljava/lang/Object;ILjava/lang/Object;II)V"⟩ : MethodName)) ∈ Wt := mW3 (i := 115) rfl rfl
set_option maxRecDepth 20000 in
theorem mw_3_116 : (Cond.static (⟨"java/lang/System", "arraycopy", "(Ljava/lang/Object;ILjava/lang/Object;II)V"⟩ : MethodName)) ∈ Wt := mW3 (i := 116) rfl rfl
set_option maxRecDepth 20000 in
theorem mw_3_117 : (Cond.native (⟨"java/lang/System", "arraycopy", "(Ljava/lang/Object;ILjava/lang/Object;II)V"⟩ : MethodName)) ∈ Wt := mW3 (i := 117) rfl rfl
set_option maxRecDepth 20000 in
theorem mw_3_118 : (Cond.methodLink "DustRobot" 84 yX9_floatOf) ∈ Wt := mW3 (i := 118) rfl rfl
set_option maxRecDepth 20000 in
theorem mw_3_119 : (Cond.static yX9_floatOf) ∈ Wt := mW3 (i := 119) rfl rfl
set_option maxRecDepth 20000 in
theorem mw_3_120 : (Cond.code yX9_floatOf cX9_floatOf 6 (Option.some FieldType.float)) ∈ Wt := mW3 (i := 120) rfl rfl
set_option maxRecDepth 20000 in
theorem mw_3_121 : (Cond.constant "DustRobot" 279 (8388607 : Int32)) ∈ Wt := mW3 (i := 121) rfl rfl
set_option maxRecDepth 20000 in
theorem mw_3_122 : (Cond.constant "DustRobot" 280 (8388608 : Int32)) ∈ Wt := mW3 (i := 122) rfl rfl
set_option maxRecDepth 20000 in
theorem mw_3_123 : (Cond.constantFloat "DustRobot" 281 (1056964608 : UInt32)) ∈ Wt := mW3 (i := 123) rfl rfl
set_option maxRecDepth 20000 in
theorem mw_3_124 : (Cond.methodLink "DustRobot" 88 yX2_beginTape) ∈ Wt := mW3 (i := 124) rfl rfl
set_option maxRecDepth 20000 in
theorem mw_3_125 : (Cond.instanceMethod yX2_beginTape) ∈ Wt := mW3 (i := 125) rfl rfl
set_option maxRecDepth 20000 in
theorem mw_3_126 : (Cond.selects "DustRobot$Item" yX2_beginTape yX2_beginTape) ∈ Wt := mW3 (i := 126) rfl rfl
set_option maxRecDepth 20000 in
theorem mw_3_127 : (Cond.code yX2_beginTape cX2_beginTape 4 (Option.none : Option Jvm.ClassFile.FieldType)) ∈ Wt := mW3 (i := 127) rfl rfl
set_option maxRecDepth 20000 in
theorem mw_3_128 : (Cond.methodLink "DustRobot$Item" 9 yX2_begin) ∈ Wt := mW3 (i := 128) rfl rfl
set_option maxRecDepth 20000 in
theorem mw_3_130 : (Cond.instanceMethod yX2_begin) ∈ Wt := mW3 (i := 130) rfl rfl
set_option maxRecDepth 20000 in
theorem mw_3_131 : (Cond.code yX2_begin cX2_begin 2 (Option.none : Option Jvm.ClassFile.FieldType)) ∈ Wt := mW3 (i := 131) rfl rfl
set_option maxRecDepth 20000 in
theorem mw_3_132 : (Cond.constant "DustRobotLaw" 108 (-2147483648 : Int32)) ∈ Wt := mW3 (i := 132) rfl rfl
set_option maxRecDepth 20000 in
theorem mw_3_133 : (Cond.methodLink "DustRobotLaw" 109 yX9_addCleaner) ∈ Wt := mW3 (i := 133) rfl rfl
set_option maxRecDepth 20000 in
theorem mw_3_134 : (Cond.instanceMethod yX9_addCleaner) ∈ Wt := mW3 (i := 134) rfl rfl
set_option maxRecDepth 20000 in
theorem mw_3_135 : (Cond.selects "DustRobot" yX9_addCleaner yX9_addCleaner) ∈ Wt := mW3 (i := 135) rfl rfl
set_option maxRecDepth 20000 in
theorem mw_3_136 : (Cond.code yX9_addCleaner cX9_addCleaner 4 (Option.some FieldType.int)) ∈ Wt := mW3 (i := 136) rfl rfl
set_option maxRecDepth 20000 in
theorem mw_3_137 : (Cond.methodLink "DustRobot" 97 yX2_beginCleaner) ∈ Wt := mW3 (i := 137) rfl rfl
set_option maxRecDepth 20000 in
theorem mw_3_138 : (Cond.instanceMethod yX2_beginCleaner) ∈ Wt := mW3 (i := 138) rfl rfl
set_option maxRecDepth 20000 in
theorem mw_3_139 : (Cond.selects "DustRobot$Item" yX2_beginCleaner yX2_beginCleaner) ∈ Wt := mW3 (i := 139) rfl rfl
set_option maxRecDepth 20000 in
theorem mw_3_140 : (Cond.code yX2_beginCleaner cX2_beginCleaner 3 (Option.none : Option Jvm.ClassFile.FieldType)) ∈ Wt := mW3 (i := 140) rfl rfl
set_option maxRecDepth 20000 in
theorem mw_3_141 : (Cond.methodLink "DustRobotLaw" 176 yL_builds) ∈ Wt := mW3 (i := 141) rfl rfl
set_option maxRecDepth 20000 in
theorem mw_3_142 : (Cond.static yL_builds) ∈ Wt := mW3 (i := 142) rfl rfl
set_option maxRecDepth 20000 in
theorem mw_3_143 : (Cond.code yL_builds cL_builds 8 (Option.some FieldType.boolean)) ∈ Wt := mW3 (i := 143) rfl rfl
set_option maxRecDepth 20000 in
theorem mw_3_144 : (Cond.constantDouble "DustRobotLaw" 112 (4620693217682128896 : UInt64)) ∈ Wt := mW3 (i := 144) rfl rfl
set_option maxRecDepth 20000 in
theorem mw_3_145 : (Cond.methodLink "DustRobotLaw" 114 yX9_addDrive) ∈ Wt := mW3 (i := 145) rfl rfl
set_option maxRecDepth 20000 in
theorem mw_3_146 : (Cond.instanceMethod yX9_addDrive) ∈ Wt := mW3 (i := 146) rfl rfl
set_option maxRecDepth 20000 in
theorem mw_3_147 : (Cond.selects "DustRobot" yX9_addDrive yX9_addDrive) ∈ Wt := mW3 (i := 147) rfl rfl
set_option maxRecDepth 20000 in
theorem mw_3_148 : (Cond.code yX9_addDrive cX9_addDrive 3 (Option.some FieldType.int)) ∈ Wt := mW3 (i := 148) rfl rfl
set_option maxRecDepth 20000 in
theorem mw_3_149 : (Cond.methodLink "DustRobot" 50 yX7_driveBeside) ∈ Wt := mW3 (i := 149) rfl rfl
set_option maxRecDepth 20000 in
theorem mw_3_150 : (Cond.instanceMethod yX7_driveBeside) ∈ Wt := mW3 (i := 150) rfl rfl
set_option maxRecDepth 20000 in
theorem mw_3_151 : (Cond.selects "DustRobot$Store" yX7_driveBeside yX7_driveBeside) ∈ Wt := mW3 (i := 151) rfl rfl
set_option maxRecDepth 20000 in
theorem mw_3_152 : (Cond.code yX7_driveBeside cX7_driveBeside 3 (Option.some FieldType.int)) ∈ Wt := mW3 (i := 152) rfl rfl
set_option maxRecDepth 20000 in
theorem mw_3_153 : (Cond.methodLink "DustRobot" 54 yX7_freeDrive) ∈ Wt := mW3 (i := 153) rfl rfl
set_option maxRecDepth 20000 in
theorem mw_3_154 : (Cond.instanceMethod yX7_freeDrive) ∈ Wt := mW3 (i := 154) rfl rfl
set_option maxRecDepth 20000 in
theorem mw_3_155 : (Cond.selects "DustRobot$Store" yX7_freeDrive yX7_freeDrive) ∈ Wt := mW3 (i := 155) rfl rfl
set_option maxRecDepth 20000 in
theorem mw_3_156 : (Cond.code yX7_freeDrive cX7_freeDrive 1 (Option.some (FieldType.object "DustRobot$Drive"))) ∈ Wt := mW3 (i := 156) rfl rfl
set_option maxRecDepth 20000 in
theorem mw_3_157 : (Cond.methodLink "DustRobot" 62 yX0_begin) ∈ Wt := mW3 (i := 157) rfl rfl
set_option maxRecDepth 20000 in
theorem mw_3_158 : (Cond.instanceMethod yX0_begin) ∈ Wt := mW3 (i := 158) rfl rfl
set_option maxRecDepth 20000 in
theorem mw_3_159 : (Cond.selects "DustRobot$Drive" yX0_begin yX0_begin) ∈ Wt := mW3 (i := 159) rfl rfl
set_option maxRecDepth 20000 in
theorem mw_3_160 : (Cond.code yX0_begin cX0_begin 2 (Option.none : Option Jvm.ClassFile.FieldType)) ∈ Wt := mW3 (i := 160) rfl rfl
set_option maxRecDepth 20000 in
theorem mw_3_161 : (Cond.constantFloat "DustRobot$Drive" 19 (1090519040 : UInt32)) ∈ Wt := mW3 (i := 161) rfl rfl
set_option maxRecDepth 20000 in
theorem mw_3_162 : (Cond.methodLink "DustRobotLaw" 168 yL_gives) ∈ Wt := mW3 (i := 162) rfl rfl
set_option maxRecDepth 20000 in
theorem mw_3_163 : (Cond.static yL_gives) ∈ Wt := mW3 (i := 163) rfl rfl
set_option maxRecDepth 20000 in
theorem mw_3_164 : (Cond.code yL_gives cL_gives 12 (Option.some FieldType.boolean)) ∈ Wt := mW3 (i := 164) rfl rfl
set_option maxRecDepth 20000 in
theorem mw_3_165 : (Cond.methodLink "DustRobotLaw" 117 yX9_read) ∈ Wt := mW3 (i := 165) rfl rfl
set_option maxRecDepth 20000 in
theorem mw_3_166 : (Cond.instanceMethod yX9_read) ∈ Wt := mW3 (i := 166) rfl rfl
set_option maxRecDepth 20000 in
theorem mw_3_167 : (Cond.selects "DustRobot" yX9_read yX9_read) ∈ Wt := mW3 (i := 167) rfl rfl
set_option maxRecDepth 20000 in
theorem mw_3_168 : (Cond.code yX9_read cX9_read 2 (Option.some FieldType.int)) ∈ Wt := mW3 (i := 168) rfl rfl
set_option maxRecDepth 20000 in
theorem mw_3_169 : (Cond.methodLink "DustRobot" 137 yX9_giveJob) ∈ Wt := mW3 (i := 169) rfl rfl
set_option maxRecDepth 20000 in
theorem mw_3_171 : (Cond.instanceMethod yX9_giveJob) ∈ Wt := mW3 (i := 171) rfl rfl
set_option maxRecDepth 20000 in
theorem mw_3_172 : (Cond.code yX9_giveJob cX9_giveJob 5 (Option.some FieldType.int)) ∈ Wt := mW3 (i := 172) rfl rfl
set_option maxRecDepth 20000 in
theorem mw_3_173 : (Cond.methodLink "DustRobot" 193 yX6_faultOfJob) ∈ Wt := mW3 (i := 173) rfl rfl
set_option maxRecDepth 20000 in
theorem mw_3_174 : (Cond.instanceMethod yX6_faultOfJob) ∈ Wt := mW3 (i := 174) rfl rfl
set_option maxRecDepth 20000 in
theorem mw_3_175 : (Cond.selects "DustRobot$State" yX6_faultOfJob yX6_faultOfJob) ∈ Wt := mW3 (i := 175) rfl rfl
set_option maxRecDepth 20000 in
theorem mw_3_176 : (Cond.code yX6_faultOfJob cX6_faultOfJob 5 (Option.some FieldType.int)) ∈ Wt := mW3 (i := 176) rfl rfl
set_option maxRecDepth 20000 in
theorem mw_3_177 : (Cond.methodLink "DustRobot$State" 92 yX7_itemAt) ∈ Wt := mW3 (i := 177) rfl rfl
set_option maxRecDepth 20000 in
theorem mw_3_178 : (Cond.methodLink "DustRobot$State" 96 yX7_hasSlot) ∈ Wt := mW3 (i := 178) rfl rfl
set_option maxRecDepth 20000 in
theorem mw_3_179 : (Cond.methodLink "DustRobot" 197 yX5_enter) ∈ Wt := mW3 (i := 179) rfl rfl
set_option maxRecDepth 20000 in
theorem mw_3_180 : (Cond.instanceMethod yX5_enter) ∈ Wt := mW3 (i := 180) rfl rfl
set_option maxRecDepth 20000 in
theorem mw_3_181 : (Cond.selects "DustRobot$Queue" yX5_enter yX5_enter) ∈ Wt := mW3 (i := 181) rfl rfl
set_option maxRecDepth 20000 in
theorem mw_3_182 : (Cond.code yX5_enter cX5_enter 4 (Option.some FieldType.int)) ∈ Wt := mW3 (i := 182) rfl rfl
set_option maxRecDepth 20000 in
theorem mw_3_183 : (Cond.methodLink "DustRobot$Queue" 32 yX3_enter) ∈ Wt := mW3 (i := 183) rfl rfl
set_option maxRecDepth 20000 in
theorem mw_3_184 : (Cond.instanceMethod yX3_enter) ∈ Wt := mW3 (i := 184) rfl rfl
set_option maxRecDepth 20000 in
theorem mw_3_185 : (Cond.selects "DustRobot$Job" yX3_enter yX3_enter) ∈ Wt := mW3 (i := 185) rfl rfl
set_option maxRecDepth 20000 in
theorem mw_3_186 : (Cond.code yX3_enter cX3_enter 4 (Option.none : Option Jvm.ClassFile.FieldType)) ∈ Wt := mW3 (i := 186) rfl rfl
set_option maxRecDepth 20000 in
theorem mw_3_187 : (Cond.methodLink "DustRobotLaw" 120 yX9_clean) ∈ Wt := mW3 (i := 187) rfl rfl
set_option maxRecDepth 20000 in
theorem mw_3_188 : (Cond.instanceMethod yX9_clean) ∈ Wt := mW3 (i := 188) rfl rfl
set_option maxRecDepth 20000 in
theorem mw_3_189 : (Cond.selects "DustRobot" yX9_clean yX9_clean) ∈ Wt := mW3 (i := 189) rfl rfl
set_option maxRecDepth 20000 in
theorem mw_3_190 : (Cond.code yX9_clean cX9_clean 2 (Option.some FieldType.int)) ∈ Wt := mW3 (i := 190) rfl rfl
set_option maxRecDepth 20000 in
theorem mw_3_191 : (Cond.methodLink "DustRobotLaw" 123 yX9_move) ∈ Wt := mW3 (i := 191) rfl rfl
set_option maxRecDepth 20000 in
theorem mw_3_192 : (Cond.instanceMethod yX9_move) ∈ Wt := mW3 (i := 192) rfl rfl
set_option maxRecDepth 20000 in
theorem mw_3_193 : (Cond.selects "DustRobot" yX9_move yX9_move) ∈ Wt := mW3 (i := 193) rfl rfl
set_option maxRecDepth 20000 in
theorem mw_3_194 : (Cond.code yX9_move cX9_move 3 (Option.some FieldType.int)) ∈ Wt := mW3 (i := 194) rfl rfl
set_option maxRecDepth 20000 in
theorem mw_3_195 : (Cond.methodLink "DustRobotLaw" 160 yL_holds) ∈ Wt := mW3 (i := 195) rfl rfl
set_option maxRecDepth 20000 in
theorem mw_3_196 : (Cond.static yL_holds) ∈ Wt := mW3 (i := 196) rfl rfl
set_option maxRecDepth 20000 in
theorem mw_3_197 : (Cond.code yL_holds cL_holds 9 (Option.some FieldType.boolean)) ∈ Wt := mW3 (i := 197) rfl rfl
set_option maxRecDepth 20000 in
theorem mw_3_198 : (Cond.methodLink "DustRobotLaw" 126 yX9_putOff) ∈ Wt := mW3 (i := 198) rfl rfl
set_option maxRecDepth 20000 in
theorem mw_3_199 : (Cond.instanceMethod yX9_putOff) ∈ Wt := mW3 (i := 199) rfl rfl
set_option maxRecDepth 20000 in
theorem mw_3_200 : (Cond.selects "DustRobot" yX9_putOff yX9_putOff) ∈ Wt := mW3 (i := 200) rfl rfl
set_option maxRecDepth 20000 in
theorem mw_3_201 : (Cond.code yX9_putOff cX9_putOff 5 (Option.some FieldType.int)) ∈ Wt := mW3 (i := 201) rfl rfl
set_option maxRecDepth 20000 in
theorem mw_3_202 : (Cond.methodLink "DustRobotLaw" 129 yX9_withdraw) ∈ Wt := mW3 (i := 202) rfl rfl
set_option maxRecDepth 20000 in
theorem mw_3_203 : (Cond.instanceMethod yX9_withdraw) ∈ Wt := mW3 (i := 203) rfl rfl
set_option maxRecDepth 20000 in
theorem mw_3_204 : (Cond.selects "DustRobot" yX9_withdraw yX9_withdraw) ∈ Wt := mW3 (i := 204) rfl rfl
set_option maxRecDepth 20000 in
theorem mw_3_205 : (Cond.code yX9_withdraw cX9_withdraw 3 (Option.some FieldType.int)) ∈ Wt := mW3 (i := 205) rfl rfl
set_option maxRecDepth 20000 in
theorem mw_3_206 : (Cond.methodLink "DustRobotLaw" 164 yL_sets) ∈ Wt := mW3 (i := 206) rfl rfl
set_option maxRecDepth 20000 in
theorem mw_3_207 : (Cond.static yL_sets) ∈ Wt := mW3 (i := 207) rfl rfl
set_option maxRecDepth 20000 in
theorem mw_3_208 : (Cond.code yL_sets cL_sets 8 (Option.some FieldType.boolean)) ∈ Wt := mW3 (i := 208) rfl rfl
set_option maxRecDepth 20000 in
theorem mw_3_209 : (Cond.constantDouble "DustRobotLaw" 132 (4593671619917905920 : UInt64)) ∈ Wt := mW3 (i := 209) rfl rfl
set_option maxRecDepth 20000 in
theorem mw_3_210 : (Cond.methodLink "DustRobotLaw" 134 yX9_setLimit) ∈ Wt := mW3 (i := 210) rfl rfl
set_option maxRecDepth 20000 in
theorem mw_3_211 : (Cond.instanceMethod yX9_setLimit) ∈ Wt := mW3 (i := 211) rfl rfl
set_option maxRecDepth 20000 in
theorem mw_3_212 : (Cond.selects "DustRobot" yX9_setLimit yX9_setLimit) ∈ Wt := mW3 (i := 212) rfl rfl
set_option maxRecDepth 20000 in
theorem mw_3_213 : (Cond.code yX9_setLimit cX9_setLimit 3 (Option.some FieldType.int)) ∈ Wt := mW3 (i := 213) rfl rfl
set_option maxRecDepth 20000 in
theorem mw_3_214 : (Cond.constant "DustRobot" 111 (1148846080 : Int32)) ∈ Wt := mW3 (i := 214) rfl rfl
set_option maxRecDepth 20000 in
theorem mw_3_215 : (Cond.methodLink "DustRobotLaw" 137 yX9_setCeiling) ∈ Wt := mW3 (i := 215) rfl rfl
set_option maxRecDepth 20000 in
theorem mw_3_216 : (Cond.instanceMethod yX9_setCeiling) ∈ Wt := mW3 (i := 216) rfl rfl
set_option maxRecDepth 20000 in
theorem mw_3_217 : (Cond.selects "DustRobot" yX9_setCeiling yX9_setCeiling) ∈ Wt := mW3 (i := 217) rfl rfl
set_option maxRecDepth 20000 in
theorem mw_3_218 : (Cond.code yX9_setCeiling cX9_setCeiling 5 (Option.some FieldType.int)) ∈ Wt := mW3 (i := 218) rfl rfl
set_option maxRecDepth 20000 in
theorem mw_3_219 : (Cond.constant "DustRobot" 120 (1140457472 : Int32)) ∈ Wt := mW3 (i := 219) rfl rfl
set_option maxRecDepth 20000 in
theorem mw_3_220 : (Cond.constant "DustRobotLaw" 140 (2143289344 : Int32)) ∈ Wt := mW3 (i := 220) rfl rfl
set_option maxRecDepth 20000 in
theorem mw_3_221 : (Cond.methodLink "DustRobotLaw" 141 yX9_refill) ∈ Wt := mW3 (i := 221) rfl rfl
set_option maxRecDepth 20000 in
theorem mw_3_222 : (Cond.instanceMethod yX9_refill) ∈ Wt := mW3 (i := 222) rfl rfl
set_option maxRecDepth 20000 in
theorem mw_3_223 : (Cond.selects "DustRobot" yX9_refill yX9_refill) ∈ Wt := mW3 (i := 223) rfl rfl
set_option maxRecDepth 20000 in
theorem mw_3_224 : (Cond.code yX9_refill cX9_refill 5 (Option.some FieldType.int)) ∈ Wt := mW3 (i := 224) rfl rfl
set_option maxRecDepth 20000 in
theorem mw_3_225 : (Cond.methodLink "DustRobotLaw" 144 yX9_setOrder) ∈ Wt := mW3 (i := 225) rfl rfl
set_option maxRecDepth 20000 in
theorem mw_3_226 : (Cond.instanceMethod yX9_setOrder) ∈ Wt := mW3 (i := 226) rfl rfl
set_option maxRecDepth 20000 in
theorem mw_3_227 : (Cond.selects "DustRobot" yX9_setOrder yX9_setOrder) ∈ Wt := mW3 (i := 227) rfl rfl
set_option maxRecDepth 20000 in
theorem mw_3_228 : (Cond.code yX9_setOrder cX9_setOrder 3 (Option.some FieldType.int)) ∈ Wt := mW3 (i := 228) rfl rfl
set_option maxRecDepth 20000 in
theorem mw_3_229 : (Cond.methodLink "DustRobot" 128 yX5_rankOf) ∈ Wt := mW3 (i := 229) rfl rfl
set_option maxRecDepth 20000 in
theorem mw_3_230 : (Cond.methodLink "DustRobot" 133 yX5_rankKinds) ∈ Wt := mW3 (i := 230) rfl rfl
set_option maxRecDepth 20000 in
theorem mw_3_231 : (Cond.instanceMethod yX5_rankKinds) ∈ Wt := mW3 (i := 231) rfl rfl
set_option maxRecDepth 20000 in
theorem mw_3_232 : (Cond.selects "DustRobot$Queue" yX5_rankKinds yX5_rankKinds) ∈ Wt := mW3 (i := 232) rfl rfl
set_option maxRecDepth 20000 in
theorem mw_3_233 : (Cond.code yX5_rankKinds cX5_rankKinds 3 (Option.some FieldType.int)) ∈ Wt := mW3 (i := 233) rfl rfl
set_option maxRecDepth 20000 in
theorem mw_3_234 : (Cond.methodLink "DustRobotLaw" 179 yL_passes) ∈ Wt := mW3 (i := 234) rfl rfl
set_option maxRecDepth 20000 in
theorem mw_3_235 : (Cond.static yL_passes) ∈ Wt := mW3 (i := 235) rfl rfl
set_option maxRecDepth 20000 in
theorem mw_3_236 : (Cond.code yL_passes cL_passes 11 (Option.some FieldType.boolean)) ∈ Wt := mW3 (i := 236) rfl rfl
set_option maxRecDepth 20000 in
theorem mw_3_237 : (Cond.methodLink "DustRobotLaw" 147 yL_ticks) ∈ Wt := mW3 (i := 237) rfl rfl
set_option maxRecDepth 20000 in
theorem mw_3_238 : (Cond.static yL_ticks) ∈ Wt := mW3 (i := 238) rfl rfl
set_option maxRecDepth 20000 in
theorem mw_3_239 : (Cond.code yL_ticks cL_ticks 9 (Option.some FieldType.int)) ∈ Wt := mW3 (i := 239) rfl rfl
set_option maxRecDepth 20000 in
theorem mw_4_0 : (Cond.methodLink "DustRobotLaw" 63 yL_isDone) ∈ Wt := mW4 (i := 0) rfl rfl
set_option maxRecDepth 20000 in
theorem mw_4_1 : (Cond.static yL_isDone) ∈ Wt := mW4 (i := 1) rfl rfl
set_option maxRecDepth 20000 in
theorem mw_4_2 : (Cond.code yL_isDone cL_isDone 12 (Option.some FieldType.boolean)) ∈ Wt := mW4 (i := 2) rfl rfl
set_option maxRecDepth 20000 in
theorem mw_4_3 : (Cond.methodLink "DustRobotLaw" 47 yL_isThere) ∈ Wt := mW4 (i := 3) rfl rfl
set_option maxRecDepth 20000 in
theorem mw_4_4 : (Cond.static yL_isThere) ∈ Wt := mW4 (i := 4) rfl rfl
set_option maxRecDepth 20000 in
theorem mw_4_5 : (Cond.code yL_isThere cL_isThere 8 (Option.some FieldType.boolean)) ∈ Wt := mW4 (i := 5) rfl rfl
set_option maxRecDepth 20000 in
theorem mw_4_6 : (Cond.constantFloat "DustRobotLaw" 43 (1056964608 : UInt32)) ∈ Wt := mW4 (i := 6) rfl rfl
set_option maxRecDepth 20000 in
theorem mw_4_7 : (Cond.constantFloat "DustRobotLaw" 44 (1069547520 : UInt32)) ∈ Wt := mW4 (i := 7) rfl rfl
set_option maxRecDepth 20000 in
theorem mw_4_8 : (Cond.methodLink "DustRobotLaw" 51 yL_puts) ∈ Wt := mW4 (i := 8) rfl rfl
set_option maxRecDepth 20000 in
theorem mw_4_9 : (Cond.static yL_puts) ∈ Wt := mW4 (i := 9) rfl rfl
set_option maxRecDepth 20000 in
theorem mw_4_10 : (Cond.code yL_puts cL_puts 6 (Option.some FieldType.boolean)) ∈ Wt := mW4 (i := 10) rfl rfl
set_option maxRecDepth 20000 in
theorem mw_4_11 : (Cond.methodLink "DustRobotLaw" 55 yL_isRead) ∈ Wt := mW4 (i := 11) rfl rfl
set_option maxRecDepth 20000 in
theorem mw_4_12 : (Cond.static yL_isRead) ∈ Wt := mW4 (i := 12) rfl rfl
set_option maxRecDepth 20000 in
theorem mw_4_13 : (Cond.code yL_isRead cL_isRead 11 (Option.some FieldType.boolean)) ∈ Wt := mW4 (i := 13) rfl rfl
set_option maxRecDepth 20000 in
theorem mw_4_14 : (Cond.constantFloat "DustRobotLaw" 45 (1040187392 : UInt32)) ∈ Wt := mW4 (i := 14) rfl rfl
set_option maxRecDepth 20000 in
theorem mw_4_15 : (Cond.constantFloat "DustRobotLaw" 46 (1077936128 : UInt32)) ∈ Wt := mW4 (i := 15) rfl rfl
set_option maxRecDepth 20000 in
theorem mw_4_16 : (Cond.constantFloat "DustRobotLaw" 67 (1061158912 : UInt32)) ∈ Wt := mW4 (i := 16) rfl rfl
set_option maxRecDepth 20000 in
theorem mw_4_17 : (Cond.methodLink "DustRobotLaw" 151 yX9_tick) ∈ Wt := mW4 (i := 17) rfl rfl
set_option maxRecDepth 20000 in
theorem mw_4_18 : (Cond.instanceMethod yX9_tick) ∈ Wt := mW4 (i := 18) rfl rfl
set_option maxRecDepth 20000 in
theorem mw_4_19 : (Cond.selects "DustRobot" yX9_tick yX9_tick) ∈ Wt := mW4 (i := 19) rfl rfl
set_option maxRecDepth 20000 in
theorem mw_4_20 : (Cond.code yX9_tick cX9_tick 4 (Option.some FieldType.int)) ∈ Wt := mW4 (i := 20) rfl rfl
set_option maxRecDepth 20000 in
theorem mw_4_21 : (Cond.methodLink "DustRobot" 162 yX6_passOneTick) ∈ Wt := mW4 (i := 21) rfl rfl
set_option maxRecDepth 20000 in
theorem mw_4_22 : (Cond.instanceMethod yX6_passOneTick) ∈ Wt := mW4 (i := 22) rfl rfl
set_option maxRecDepth 20000 in
theorem mw_4_23 : (Cond.selects "DustRobot$State" yX6_passOneTick yX6_passOneTick) ∈ Wt := mW4 (i := 23) rfl rfl
set_option maxRecDepth 20000 in
theorem mw_4_24 : (Cond.code yX6_passOneTick cX6_passOneTick 3 (Option.some FieldType.int)) ∈ Wt := mW4 (i := 24) rfl rfl
set_option maxRecDepth 20000 in
theorem mw_4_25 : (Cond.methodLink "DustRobot$State" 162 yX6_beginJob) ∈ Wt := mW4 (i := 25) rfl rfl
set_option maxRecDepth 20000 in
theorem mw_4_27 : (Cond.instanceMethod yX6_beginJob) ∈ Wt := mW4 (i := 27) rfl rfl
set_option maxRecDepth 20000 in
theorem mw_4_28 : (Cond.code yX6_beginJob cX6_beginJob 3 (Option.none : Option Jvm.ClassFile.FieldType)) ∈ Wt := mW4 (i := 28) rfl rfl
set_option maxRecDepth 20000 in
theorem mw_4_29 : (Cond.methodLink "DustRobot$State" 171 yX6_jobToBegin) ∈ Wt := mW4 (i := 29) rfl rfl
set_option maxRecDepth 20000 in
theorem mw_4_30 : (Cond.methodLink "DustRobot$State" 183 yX4_add) ∈ Wt := mW4 (i := 30) rfl rfl
set_option maxRecDepth 20000 in
theorem mw_4_31 : (Cond.instanceMethod yX4_add) ∈ Wt := mW4 (i := 31) rfl rfl
set_option maxRecDepth 20000 in
theorem mw_4_32 : (Cond.selects "DustRobot$Log" yX4_add yX4_add) ∈ Wt := mW4 (i := 32) rfl rfl
set_option maxRecDepth 20000 in
theorem mw_4_33 : (Cond.code yX4_add cX4_add 5 (Option.none : Option Jvm.ClassFile.FieldType)) ∈ Wt := mW4 (i := 33) rfl rfl
set_option maxRecDepth 20000 in
theorem mw_4_34 : (Cond.methodLink "DustRobot$Log" 37 yJ9_min_7cf53) ∈ Wt := mW4 (i := 34) rfl rfl
set_option maxRecDepth 20000 in
theorem mw_4_35 : (Cond.static yJ9_min_7cf53) ∈ Wt := mW4 (i := 35) rfl rfl
set_option maxRecDepth 20000 in
theorem mw_4_36 : (Cond.code yJ9_min_7cf53 cJ9_min_7cf53 2 (Option.some FieldType.int)) ∈ Wt := mW4 (i := 36) rfl rfl
set_option maxRecDepth 20000 in
theorem mw_4_37 : (Cond.methodLink "DustRobot$State" 165 yX6_doStep) ∈ Wt := mW4 (i := 37) rfl rfl
set_option maxRecDepth 20000 in
theorem mw_4_39 : (Cond.instanceMethod yX6_doStep) ∈ Wt := mW4 (i := 39) rfl rfl
set_option maxRecDepth 20000 in
theorem mw_4_40 : (Cond.code yX6_doStep cX6_doStep 5 (Option.some FieldType.boolean)) ∈ Wt := mW4 (i := 40) rfl rfl
set_option maxRecDepth 20000 in
theorem mw_4_41 : (Cond.methodLink "DustRobot$State" 187 yX3_carriedItem) ∈ Wt := mW4 (i := 41) rfl rfl
set_option maxRecDepth 20000 in
theorem mw_4_42 : (Cond.methodLink "DustRobot$State" 190 yX6_doMoveStep) ∈ Wt := mW4 (i := 42) rfl rfl
set_option maxRecDepth 20000 in
theorem mw_4_44 : (Cond.instanceMethod yX6_doMoveStep) ∈ Wt := mW4 (i := 44) rfl rfl
set_option maxRecDepth 20000 in
theorem mw_4_45 : (Cond.code yX6_doMoveStep cX6_doMoveStep 4 (Option.some FieldType.boolean)) ∈ Wt := mW4 (i := 45) rfl rfl
set_option maxRecDepth 20000 in
theorem mw_4_46 : (Cond.methodLink "DustRobot$State" 204 yX6_goTo) ∈ Wt := mW4 (i := 46) rfl rfl
set_option maxRecDepth 20000 in
theorem mw_4_48 : (Cond.instanceMethod yX6_goTo) ∈ Wt := mW4 (i := 48) rfl rfl
set_option maxRecDepth 20000 in
theorem mw_4_49 : (Cond.code yX6_goTo cX6_goTo 4 (Option.some FieldType.boolean)) ∈ Wt := mW4 (i := 49) rfl rfl
set_option maxRecDepth 20000 in
theorem mw_4_50 : (Cond.methodLink "DustRobot$State" 146 yX6_costTo) ∈ Wt := mW4 (i := 50) rfl rfl
set_option maxRecDepth 20000 in
theorem mw_4_52 : (Cond.instanceMethod yX6_costTo) ∈ Wt := mW4 (i := 52) rfl rfl
set_option maxRecDepth 20000 in
theorem mw_4_53 : (Cond.code yX6_costTo cX6_costTo 4 (Option.some FieldType.float)) ∈ Wt := mW4 (i := 53) rfl rfl
set_option maxRecDepth 20000 in
theorem mw_4_54 : (Cond.constantFloat "DustRobot$State" 155 (1056964608 : UInt32)) ∈ Wt := mW4 (i := 54) rfl rfl
set_option maxRecDepth 20000 in
theorem mw_4_55 : (Cond.constantFloat "DustRobot$State" 156 (1069547520 : UInt32)) ∈ Wt := mW4 (i := 55) rfl rfl
set_option maxRecDepth 20000 in
theorem mw_4_56 : (Cond.methodLink "DustRobot$State" 157 yJ9_abs_0f7a4) ∈ Wt := mW4 (i := 56) rfl rfl
set_option maxRecDepth 20000 in
theorem mw_4_57 : (Cond.methodLink "DustRobot$State" 150 yX6_isAllowed) ∈ Wt := mW4 (i := 57) rfl rfl
set_option maxRecDepth 20000 in
theorem mw_4_59 : (Cond.instanceMethod yX6_isAllowed) ∈ Wt := mW4 (i := 59) rfl rfl
set_option maxRecDepth 20000 in
theorem mw_4_60 : (Cond.code yX6_isAllowed cX6_isAllowed 3 (Option.some FieldType.boolean)) ∈ Wt := mW4 (i := 60) rfl rfl
set_option maxRecDepth 20000 in
theorem mw_4_61 : (Cond.methodLink "DustRobot$State" 208 yX6_takeInHand) ∈ Wt := mW4 (i := 61) rfl rfl
set_option maxRecDepth 20000 in
theorem mw_4_63 : (Cond.instanceMethod yX6_takeInHand) ∈ Wt := mW4 (i := 63) rfl rfl
set_option maxRecDepth 20000 in
theorem mw_4_64 : (Cond.code yX6_takeInHand cX6_takeInHand 3 (Option.some FieldType.boolean)) ∈ Wt := mW4 (i := 64) rfl rfl
set_option maxRecDepth 20000 in
theorem mw_4_65 : (Cond.methodLink "DustRobot$State" 212 yX6_putHome) ∈ Wt := mW4 (i := 65) rfl rfl
set_option maxRecDepth 20000 in
theorem mw_4_67 : (Cond.instanceMethod yX6_putHome) ∈ Wt := mW4 (i := 67) rfl rfl
set_option maxRecDepth 20000 in
theorem mw_4_68 : (Cond.code yX6_putHome cX6_putHome 2 (Option.some FieldType.boolean)) ∈ Wt := mW4 (i := 68) rfl rfl
set_option maxRecDepth 20000 in
theorem mw_4_69 : (Cond.methodLink "DustRobot$State" 194 yX6_doDriveStep) ∈ Wt := mW4 (i := 69) rfl rfl
set_option maxRecDepth 20000 in
theorem mw_4_71 : (Cond.instanceMethod yX6_doDriveStep) ∈ Wt := mW4 (i := 71) rfl rfl
set_option maxRecDepth 20000 in
theorem mw_4_72 : (Cond.code yX6_doDriveStep cX6_doDriveStep 4 (Option.some FieldType.boolean)) ∈ Wt := mW4 (i := 72) rfl rfl
set_option maxRecDepth 20000 in
theorem mw_4_73 : (Cond.methodLink "DustRobot$State" 217 yX6_loadDrive) ∈ Wt := mW4 (i := 73) rfl rfl
set_option maxRecDepth 20000 in
theorem mw_4_75 : (Cond.instanceMethod yX6_loadDrive) ∈ Wt := mW4 (i := 75) rfl rfl
set_option maxRecDepth 20000 in
theorem mw_4_76 : (Cond.code yX6_loadDrive cX6_loadDrive 4 (Option.some FieldType.boolean)) ∈ Wt := mW4 (i := 76) rfl rfl
set_option maxRecDepth 20000 in
theorem mw_4_77 : (Cond.methodLink "DustRobot$State" 220 yX6_readInDrive) ∈ Wt := mW4 (i := 77) rfl rfl
set_option maxRecDepth 20000 in
theorem mw_4_79 : (Cond.instanceMethod yX6_readInDrive) ∈ Wt := mW4 (i := 79) rfl rfl
set_option maxRecDepth 20000 in
theorem mw_4_80 : (Cond.code yX6_readInDrive cX6_readInDrive 4 (Option.some FieldType.boolean)) ∈ Wt := mW4 (i := 80) rfl rfl
set_option maxRecDepth 20000 in
theorem mw_4_81 : (Cond.methodLink "DustRobot$State" 240 yX0_readTape) ∈ Wt := mW4 (i := 81) rfl rfl
set_option maxRecDepth 20000 in
theorem mw_4_82 : (Cond.instanceMethod yX0_readTape) ∈ Wt := mW4 (i := 82) rfl rfl
set_option maxRecDepth 20000 in
theorem mw_4_83 : (Cond.selects "DustRobot$Drive" yX0_readTape yX0_readTape) ∈ Wt := mW4 (i := 83) rfl rfl
set_option maxRecDepth 20000 in
theorem mw_4_84 : (Cond.code yX0_readTape cX0_readTape 3 (Option.some FieldType.boolean)) ∈ Wt := mW4 (i := 84) rfl rfl
set_option maxRecDepth 20000 in
theorem mw_4_85 : (Cond.constantFloat "DustRobot$Drive" 40 (1077936128 : UInt32)) ∈ Wt := mW4 (i := 85) rfl rfl
set_option maxRecDepth 20000 in
theorem mw_4_86 : (Cond.constantFloat "DustRobot$Drive" 44 (1040187392 : UInt32)) ∈ Wt := mW4 (i := 86) rfl rfl
set_option maxRecDepth 20000 in
theorem mw_4_87 : (Cond.methodLink "DustRobot$State" 223 yX6_cleanDrive) ∈ Wt := mW4 (i := 87) rfl rfl
set_option maxRecDepth 20000 in
theorem mw_4_89 : (Cond.instanceMethod yX6_cleanDrive) ∈ Wt := mW4 (i := 89) rfl rfl
set_option maxRecDepth 20000 in
theorem mw_4_90 : (Cond.code yX6_cleanDrive cX6_cleanDrive 4 (Option.some FieldType.boolean)) ∈ Wt := mW4 (i := 90) rfl rfl
set_option maxRecDepth 20000 in
theorem mw_4_91 : (Cond.methodLink "DustRobot$State" 246 yX0_cleanWith) ∈ Wt := mW4 (i := 91) rfl rfl
set_option maxRecDepth 20000 in
theorem mw_4_92 : (Cond.instanceMethod yX0_cleanWith) ∈ Wt := mW4 (i := 92) rfl rfl
set_option maxRecDepth 20000 in
theorem mw_4_93 : (Cond.selects "DustRobot$Drive" yX0_cleanWith yX0_cleanWith) ∈ Wt := mW4 (i := 93) rfl rfl
set_option maxRecDepth 20000 in
theorem mw_4_94 : (Cond.code yX0_cleanWith cX0_cleanWith 2 (Option.none : Option Jvm.ClassFile.FieldType)) ∈ Wt := mW4 (i := 94) rfl rfl
set_option maxRecDepth 20000 in
theorem mw_4_95 : (Cond.methodLink "DustRobot$State" 226 yX6_unloadDrive) ∈ Wt := mW4 (i := 95) rfl rfl
set_option maxRecDepth 20000 in
theorem mw_4_97 : (Cond.instanceMethod yX6_unloadDrive) ∈ Wt := mW4 (i := 97) rfl rfl
set_option maxRecDepth 20000 in
theorem mw_4_98 : (Cond.code yX6_unloadDrive cX6_unloadDrive 4 (Option.some FieldType.boolean)) ∈ Wt := mW4 (i := 98) rfl rfl
set_option maxRecDepth 20000 in
theorem mw_4_99 : (Cond.methodLink "DustRobot$State" 168 yX6_goOn) ∈ Wt := mW4 (i := 99) rfl rfl
set_option maxRecDepth 20000 in
theorem mw_4_101 : (Cond.instanceMethod yX6_goOn) ∈ Wt := mW4 (i := 101) rfl rfl
set_option maxRecDepth 20000 in
theorem mw_4_102 : (Cond.code yX6_goOn cX6_goOn 3 (Option.some FieldType.int)) ∈ Wt := mW4 (i := 102) rfl rfl
set_option maxRecDepth 20000 in
theorem mw_4_103 : (Cond.methodLink "DustRobot$State" 250 yX3_steps) ∈ Wt := mW4 (i := 103) rfl rfl
set_option maxRecDepth 20000 in
theorem mw_4_104 : (Cond.instanceMethod yX3_steps) ∈ Wt := mW4 (i := 104) rfl rfl
set_option maxRecDepth 20000 in
theorem mw_4_105 : (Cond.selects "DustRobot$Job" yX3_steps yX3_steps) ∈ Wt := mW4 (i := 105) rfl rfl
set_option maxRecDepth 20000 in
theorem mw_4_106 : (Cond.code yX3_steps cX3_steps 1 (Option.some FieldType.int)) ∈ Wt := mW4 (i := 106) rfl rfl
set_option maxRecDepth 20000 in
theorem mw_4_107 : (Cond.constantFloat "DustRobot$State" 154 (1061158912 : UInt32)) ∈ Wt := mW4 (i := 107) rfl rfl
set_option maxRecDepth 20000 in
theorem mw_4_108 : (Cond.constantDouble "DustRobotLaw" 155 (4626322717216342016 : UInt64)) ∈ Wt := mW4 (i := 108) rfl rfl
set_option maxRecDepth 20000 in
theorem mw_4_109 : (Cond.arrayClass FieldType.double) ∈ Wt := mW4 (i := 109) rfl rfl
set_option maxRecDepth 20000 in
theorem mw_s_0 : (Cond.selects "DustRobot$State" yX6_groupOf yX6_groupOf) ∈ Wt := mWs (i := 0) rfl rfl
set_option maxRecDepth 20000 in
theorem mw_s_1 : (Cond.selects "DustRobot$State" yX6_canBegin yX6_canBegin) ∈ Wt := mWs (i := 1) rfl rfl
set_option maxRecDepth 20000 in
theorem mw_s_2 : (Cond.selects "DustRobot$History" yX1_dropOldest yX1_dropOldest) ∈ Wt := mWs (i := 2) rfl rfl
set_option maxRecDepth 20000 in
theorem mw_s_3 : (Cond.selects "DustRobot$Item" yX2_begin yX2_begin) ∈ Wt := mWs (i := 3) rfl rfl
set_option maxRecDepth 20000 in
theorem mw_s_4 : (Cond.selects "DustRobot" yX9_giveJob yX9_giveJob) ∈ Wt := mWs (i := 4) rfl rfl
set_option maxRecDepth 20000 in
theorem mw_s_5 : (Cond.selects "DustRobot$State" yX6_beginJob yX6_beginJob) ∈ Wt := mWs (i := 5) rfl rfl
set_option maxRecDepth 20000 in
theorem mw_s_6 : (Cond.selects "DustRobot$State" yX6_doStep yX6_doStep) ∈ Wt := mWs (i := 6) rfl rfl
set_option maxRecDepth 20000 in
theorem mw_s_7 : (Cond.selects "DustRobot$State" yX6_doMoveStep yX6_doMoveStep) ∈ Wt := mWs (i := 7) rfl rfl
set_option maxRecDepth 20000 in
theorem mw_s_8 : (Cond.selects "DustRobot$State" yX6_goTo yX6_goTo) ∈ Wt := mWs (i := 8) rfl rfl
set_option maxRecDepth 20000 in
theorem mw_s_9 : (Cond.selects "DustRobot$State" yX6_costTo yX6_costTo) ∈ Wt := mWs (i := 9) rfl rfl
set_option maxRecDepth 20000 in
theorem mw_s_10 : (Cond.selects "DustRobot$State" yX6_isAllowed yX6_isAllowed) ∈ Wt := mWs (i := 10) rfl rfl
set_option maxRecDepth 20000 in
theorem mw_s_11 : (Cond.selects "DustRobot$State" yX6_takeInHand yX6_takeInHand) ∈ Wt := mWs (i := 11) rfl rfl
set_option maxRecDepth 20000 in
theorem mw_s_12 : (Cond.selects "DustRobot$State" yX6_putHome yX6_putHome) ∈ Wt := mWs (i := 12) rfl rfl
set_option maxRecDepth 20000 in
theorem mw_s_13 : (Cond.selects "DustRobot$State" yX6_doDriveStep yX6_doDriveStep) ∈ Wt := mWs (i := 13) rfl rfl
set_option maxRecDepth 20000 in
theorem mw_s_14 : (Cond.selects "DustRobot$State" yX6_loadDrive yX6_loadDrive) ∈ Wt := mWs (i := 14) rfl rfl
set_option maxRecDepth 20000 in
theorem mw_s_15 : (Cond.selects "DustRobot$State" yX6_readInDrive yX6_readInDrive) ∈ Wt := mWs (i := 15) rfl rfl
set_option maxRecDepth 20000 in
theorem mw_s_16 : (Cond.selects "DustRobot$State" yX6_cleanDrive yX6_cleanDrive) ∈ Wt := mWs (i := 16) rfl rfl
set_option maxRecDepth 20000 in
theorem mw_s_17 : (Cond.selects "DustRobot$State" yX6_unloadDrive yX6_unloadDrive) ∈ Wt := mWs (i := 17) rfl rfl
set_option maxRecDepth 20000 in
theorem mw_s_18 : (Cond.selects "DustRobot$State" yX6_goOn yX6_goOn) ∈ Wt := mWs (i := 18) rfl rfl
theorem inW0 : ∀ w ∈ u_ws RX0 TX0 7, w ∈ Wt := by
  intro w hw
  obtain ⟨k, hk, rfl⟩ := List.mem_map.mp hw
  have hk := List.mem_range.mp hk
  match k, hk with
  | 0, _ => exact mw_1_97
  | 1, _ => exact mw_1_99
  | 2, _ => exact mw_1_101
  | 3, _ => exact mw_1_103
  | 4, _ => exact mw_1_105
  | 5, _ => exact mw_1_107
  | 6, _ => exact mw_1_109
theorem inW1 : ∀ w ∈ u_ws RX1 TX1 2, w ∈ Wt := by
  intro w hw
  obtain ⟨k, hk, rfl⟩ := List.mem_map.mp hw
  have hk := List.mem_range.mp hk
  match k, hk with
  | 0, _ => exact mw_2_60
  | 1, _ => exact mw_2_62
theorem inW2 : ∀ w ∈ u_ws RX2 TX2 8, w ∈ Wt := by
  intro w hw
  obtain ⟨k, hk, rfl⟩ := List.mem_map.mp hw
  have hk := List.mem_range.mp hk
  match k, hk with
  | 0, _ => exact mw_1_60
  | 1, _ => exact mw_1_62
  | 2, _ => exact mw_1_64
  | 3, _ => exact mw_1_66
  | 4, _ => exact mw_1_68
  | 5, _ => exact mw_1_70
  | 6, _ => exact mw_1_72
  | 7, _ => exact mw_1_74
theorem inW3 : ∀ w ∈ u_ws RX3 TX3 13, w ∈ Wt := by
  intro w hw
  obtain ⟨k, hk, rfl⟩ := List.mem_map.mp hw
  have hk := List.mem_range.mp hk
  match k, hk with
  | 0, _ => exact mw_1_170
  | 1, _ => exact mw_1_172
  | 2, _ => exact mw_1_174
  | 3, _ => exact mw_1_176
  | 4, _ => exact mw_1_178
  | 5, _ => exact mw_1_180
  | 6, _ => exact mw_1_182
  | 7, _ => exact mw_1_184
  | 8, _ => exact mw_1_186
  | 9, _ => exact mw_1_188
  | 10, _ => exact mw_1_190
  | 11, _ => exact mw_1_192
  | 12, _ => exact mw_1_194
theorem inW4 : ∀ w ∈ u_ws RX4 TX4 6, w ∈ Wt := by
  intro w hw
  obtain ⟨k, hk, rfl⟩ := List.mem_map.mp hw
  have hk := List.mem_range.mp hk
  match k, hk with
  | 0, _ => exact mw_1_225
  | 1, _ => exact mw_1_227
  | 2, _ => exact mw_1_229
  | 3, _ => exact mw_1_231
  | 4, _ => exact mw_1_233
  | 5, _ => exact mw_1_235
theorem inW5 : ∀ w ∈ u_ws RX5 TX5 4, w ∈ Wt := by
  intro w hw
  obtain ⟨k, hk, rfl⟩ := List.mem_map.mp hw
  have hk := List.mem_range.mp hk
  match k, hk with
  | 0, _ => exact mw_1_204
  | 1, _ => exact mw_1_206
  | 2, _ => exact mw_1_208
  | 3, _ => exact mw_1_210
theorem inW6 : ∀ w ∈ u_ws RX6 TX6 12, w ∈ Wt := by
  intro w hw
  obtain ⟨k, hk, rfl⟩ := List.mem_map.mp hw
  have hk := List.mem_range.mp hk
  match k, hk with
  | 0, _ => exact mw_2_23
  | 1, _ => exact mw_2_25
  | 2, _ => exact mw_2_27
  | 3, _ => exact mw_2_29
  | 4, _ => exact mw_2_31
  | 5, _ => exact mw_2_33
  | 6, _ => exact mw_2_35
  | 7, _ => exact mw_2_37
  | 8, _ => exact mw_2_39
  | 9, _ => exact mw_2_41
  | 10, _ => exact mw_2_43
  | 11, _ => exact mw_2_45
theorem inW7 : ∀ w ∈ u_ws RX7 TX7 4, w ∈ Wt := by
  intro w hw
  obtain ⟨k, hk, rfl⟩ := List.mem_map.mp hw
  have hk := List.mem_range.mp hk
  match k, hk with
  | 0, _ => exact mw_1_118
  | 1, _ => exact mw_1_120
  | 2, _ => exact mw_1_122
  | 3, _ => exact mw_1_124
theorem inW8 : ∀ w ∈ u_ws RX8 TX8 7, w ∈ Wt := by
  intro w hw
  obtain ⟨k, hk, rfl⟩ := List.mem_map.mp hw
  have hk := List.mem_range.mp hk
  match k, hk with
  | 0, _ => exact mw_2_79
  | 1, _ => exact mw_2_81
  | 2, _ => exact mw_2_83
  | 3, _ => exact mw_2_85
  | 4, _ => exact mw_2_87
  | 5, _ => exact mw_2_89
  | 6, _ => exact mw_2_91
theorem inW9 : ∀ w ∈ u_ws RX9 TX9 6, w ∈ Wt := by
  intro w hw
  obtain ⟨k, hk, rfl⟩ := List.mem_map.mp hw
  have hk := List.mem_range.mp hk
  match k, hk with
  | 0, _ => exact mw_2_101
  | 1, _ => exact mw_2_103
  | 2, _ => exact mw_2_105
  | 3, _ => exact mw_2_107
  | 4, _ => exact mw_2_109
  | 5, _ => exact mw_2_111
end
section
/-! ===== THE HEAP OF NUMBERED CELLS: cell k of the run lies at z + k; what each is, is laid down once and for all (all cells are made by the law's first eight 'new') ===== -/
abbrev Hp : Type := (Nat → Nat → Int32) × (Nat → Nat → UInt32) × (Nat → Nat → UInt64) × (Nat → Nat → Option Nat)
def wI (h : Hp) (a k : Nat) (v : Int32) : Hp := (fun b j => if b = a ∧ j = k then v else h.1 b j, h.2)
def wF (h : Hp) (a k : Nat) (v : UInt32) : Hp := (h.1, fun b j => if b = a ∧ j = k then v else h.2.1 b j, h.2.2)
def wD (h : Hp) (a k : Nat) (v : UInt64) : Hp := (h.1, h.2.1, fun b j => if b = a ∧ j = k then v else h.2.2.1 b j, h.2.2.2)
def wQ (h : Hp) (a k : Nat) (v : Option Nat) : Hp := (h.1, h.2.1, h.2.2.1, fun b j => if b = a ∧ j = k then v else h.2.2.2 b j)
/-- a new cell: all its places empty -/
def wN (h : Hp) (a : Nat) : Hp := (fun b j => if b = a then 0 else h.1 b j, fun b j => if b = a then 0 else h.2.1 b j, fun b j => if b = a then 0 else h.2.2.1 b j, fun b j => if b = a then none else h.2.2.2 b j)
/-- a whole row of ints -/
def wR (h : Hp) (a : Nat) (f : Nat → Int32) : Hp := (fun b j => if b = a then f j else h.1 b j, h.2)
/-- launch, base, classes' numbers, arrays' numbers, the script's cell, length, values -/
abbrev Gl : Type := Launch × Nat × va_G × (Nat → ClassId) × Nat × Nat × (Nat → Int32)
def ga (G : Gl) (k : Nat) : Value := .ref (G.2.1 + k)
def gr (G : Gl) (q : Option Nat) : Value := match q with
  | none => .null
  | some k => ga G k
theorem gr_rf (G : Gl) (q : Option Nat) : va_rf (q.map (fun k => G.2.1 + k)) = gr G q := by cases q <;> rfl
def gtys (G : Gl) : List (ClassId × FieldType) := [(G.2.2.2.1 0, .int), (G.2.2.2.1 1, .char), (G.2.2.2.1 2, .double), (G.2.2.2.1 3, .object RX2), (G.2.2.2.1 4, .object RX0), (G.2.2.2.1 5, .object RX3), (G.2.2.2.1 6, .object RX6)]
/-- a state's 63 cells, from its own address on -/
def SL (o : Nat) : Nat ⊕ (Nat × Nat) := if o = 0 then .inl 6 else if o = 1 then .inl 7 else if o = 2 then .inr (3, 18) else if o ≤ 20 then .inl 2 else if o = 21 then .inr (4, 4) else if o ≤ 25 then .inl 0 else if o = 26 then .inl 5 else if o = 27 then .inr (5, 30) else if o ≤ 57 then .inl 3 else if o = 58 then .inl 4 else .inr (0, 10)
def Lay (a : Nat) : Nat ⊕ (Nat × Nat) := if a = 0 then .inl 9 else if a < 64 then SL (a - 1) else if a = 64 then .inl 1 else if a = 65 then .inr (6, 4) else if a < 444 then SL ((a - 66) % 63) else if a = 444 then .inl 8 else if a = 445 then .inr (1, 60) else if a ≤ 448 then .inr (0, 60) else if a = 449 then .inr (0, 18) else if a = 450 then .inr (0, 48) else if a = 451 then .inr (0, 28) else if a = 452 then .inr (2, 10) else if a ≤ 454 then .inr (0, 60) else .inr (0, 10)
def flr (G : Gl) (ci : Nat) (ri : Nat → Int32) (rf : Nat → UInt32) (rq : Nat → Option Nat) : List Value := match ci with
  | 0 => [.int (ri 0), .float (rf 1), .float (rf 2), .int (ri 3), .int (ri 4), .int (ri 5), .int (ri 6)]
  | 1 => [gr G (rq 0), .int (ri 1)]
  | 2 => [.int (ri 0), .int (ri 1), .int (ri 2), .int (ri 3), .int (ri 4), .int (ri 5), .float (rf 6), .int (ri 7)]
  | 3 => [.int (ri 0), .int (ri 1), .int (ri 2), .int (ri 3), .int (ri 4), .int (ri 5), .int (ri 6), .int (ri 7), .int (ri 8), .int (ri 9), .int (ri 10), .int (ri 11), .int (ri 12)]
  | 4 => [gr G (rq 0), gr G (rq 1), gr G (rq 2), gr G (rq 3), .int (ri 4), .int (ri 5)]
  | 5 => [gr G (rq 0), .int (ri 1), .int (ri 2), .int (ri 3)]
  | 6 => [gr G (rq 0), gr G (rq 1), gr G (rq 2), .float (rf 3), .float (rf 4), .int (ri 5), .int (ri 6), .int (ri 7), .int (ri 8), .int (ri 9), .int (ri 10), .int (ri 11)]
  | 7 => [gr G (rq 0), .int (ri 1), gr G (rq 2), .int (ri 3)]
  | 8 => [gr G (rq 0), .int (ri 1), .int (ri 2), gr G (rq 3), gr G (rq 4), gr G (rq 5), .int (ri 6)]
  | _ => [gr G (rq 0), gr G (rq 1), gr G (rq 2), .int (ri 3), gr G (rq 4), gr G (rq 5)]
def cont (G : Gl) (t : Nat) (ri : Nat → Int32) (rd : Nat → UInt64) (rq : Nat → Option Nat) : (Nat → Int32) ⊕ (Nat → Int64) ⊕ (Nat → UInt32) ⊕ (Nat → UInt64) ⊕ (Nat → Option Nat) := match t with
  | 0 => .inl ri
  | 1 => .inl ri
  | 2 => .inr (.inr (.inr (.inl rd)))
  | _ => .inr (.inr (.inr (.inr (fun j => (rq j).map (fun k => G.2.1 + k)))))
def entr (G : Gl) (k : Nat) (ri : Nat → Int32) (rf : Nat → UInt32) (rd : Nat → UInt64) (rq : Nat → Option Nat) : va_E := match Lay k with
  | .inl ci => .inr (ci, flr G ci ri rf rq)
  | .inr (t, n) => .inl (G.2.2.2.1 t, n, cont G t ri rd rq)
def ent (G : Gl) (h : Hp) (k : Nat) : va_E := entr G k (h.1 k) (h.2.1 k) (h.2.2.1 k) (h.2.2.2 k)
def wl (G : Gl) (h : Hp) (n : Nat) : va_W := (List.range n).map (fun k => (G.2.1 + k, ent G h k))
theorem wl_at {G : Gl} {h : Hp} {n k : Nat} (hk : k < n) : (wl G h n)[k]? = some (G.2.1 + k, ent G h k) := by simp [wl, hk]
theorem ent_o {G : Gl} {h : Hp} {k ci : Nat} (hL : Lay k = .inl ci) : ent G h k = .inr (ci, flr G ci (h.1 k) (h.2.1 k) (h.2.2.2 k)) := by simp only [ent, entr, hL]
theorem ent_a {G : Gl} {h : Hp} {k t n : Nat} (hL : Lay k = .inr (t, n)) : ent G h k = .inl (G.2.2.2.1 t, n, cont G t (h.1 k) (h.2.2.1 k) (h.2.2.2 k)) := by simp only [ent, entr, hL]
theorem wl_o {G : Gl} {h : Hp} {n k ci : Nat} (hk : k < n) (hL : Lay k = .inl ci) : (wl G h n)[k]? = some (G.2.1 + k, .inr (ci, flr G ci (h.1 k) (h.2.1 k) (h.2.2.2 k))) := by rw [wl_at hk, ent_o hL]
theorem wl_a {G : Gl} {h : Hp} {n k t w : Nat} (hk : k < n) (hL : Lay k = .inr (t, w)) : (wl G h n)[k]? = some (G.2.1 + k, .inl (G.2.2.2.1 t, w, cont G t (h.1 k) (h.2.2.1 k) (h.2.2.2 k))) := by rw [wl_at hk, ent_a hL]
theorem ent_congr {G : Gl} {h h' : Hp} {k : Nat} (h1 : h'.1 k = h.1 k) (h2 : h'.2.1 k = h.2.1 k) (h3 : h'.2.2.1 k = h.2.2.1 k) (h4 : h'.2.2.2 k = h.2.2.2 k) : ent G h' k = ent G h k := by simp only [ent, h1, h2, h3, h4]
theorem wl_D {G : Gl} {h : Hp} {n : Nat} : va_D (fun q => G.2.1 ≤ q) (wl G h n) := by
  have key : ∀ (i : Nat) (p : Nat × va_E), (wl G h n)[i]? = some p → p.1 = G.2.1 + i := by
    intro i p hi
    have hl : i < n := by
      have := (List.getElem?_eq_some_iff.mp hi).1
      simpa [wl] using this
    rw [wl_at hl] at hi
    cases hi
    rfl
  refine ⟨fun i j p q hi hj e => ?_, fun k q hk => ?_⟩
  · have a := key i p hi
    have b := key j q hj
    omega
  · have a := key k q hk
    show G.2.1 ≤ q.1
    omega
theorem wl_set {G : Gl} {h h' : Hp} {n k : Nat} {e : va_E} (hk : k < n) (he : ent G h' k = e) (ho : ∀ j, j ≠ k → ent G h' j = ent G h j) : (wl G h n).set k (G.2.1 + k, e) = wl G h' n := by
  subst he
  apply List.ext_getElem?
  intro j
  by_cases hj : j = k
  · subst hj
    rw [List.getElem?_set_self (by simpa [wl] using hk), wl_at hk]
  · rw [List.getElem?_set_ne (Ne.symm hj)]
    by_cases hl : j < n
    · rw [wl_at hl, wl_at hl, ho j hj]
    · rw [List.getElem?_eq_none (by simp [wl]; omega), List.getElem?_eq_none (by simp [wl]; omega)]
theorem wl_push {G : Gl} {h h' : Hp} {n : Nat} {e : va_E} (he : ent G h' n = e) (ho : ∀ j, j < n → ent G h' j = ent G h j) : wl G h n ++ [(G.2.1 + n, e)] = wl G h' (n + 1) := by
  subst he
  unfold wl
  rw [List.range_succ, List.map_append]
  congr 1
  apply List.map_congr_left
  intro j hj
  rw [ho j (List.mem_range.mp hj)]
/-- how many places a cell has, and all cells below n -/
def csz (k : Nat) : Nat := match Lay k with
  | .inl 0 => 7 | .inl 1 => 2 | .inl 2 => 8 | .inl 3 => 13 | .inl 4 => 6 | .inl 5 => 4 | .inl 6 => 12 | .inl 7 => 4 | .inl 8 => 7 | .inl _ => 6
  | .inr (_, n) => n
def sl : Nat → Nat
  | 0 => 0
  | n + 1 => sl n + csz n
theorem sl_mono {a b : Nat} (h : a ≤ b) : sl a ≤ sl b := by
  induction b with
  | zero => rw [Nat.le_zero.mp h]; exact Nat.le_refl _
  | succ b ih =>
    rcases Nat.lt_or_ge b a with q | q
    · rw [show a = b + 1 by omega]; exact Nat.le_refl _
    · exact Nat.le_trans (ih q) (Nat.le_add_right _ _)
theorem wI_o {G : Gl} {h : Hp} {a k j : Nat} {v : Int32} (hj : j ≠ a) : ent G (wI h a k v) j = ent G h j := ent_congr (funext fun i => if_neg (fun q => hj q.1)) rfl rfl rfl
theorem wF_o {G : Gl} {h : Hp} {a k j : Nat} {v : UInt32} (hj : j ≠ a) : ent G (wF h a k v) j = ent G h j := ent_congr rfl (funext fun i => if_neg (fun q => hj q.1)) rfl rfl
theorem wD_o {G : Gl} {h : Hp} {a k j : Nat} {v : UInt64} (hj : j ≠ a) : ent G (wD h a k v) j = ent G h j := ent_congr rfl rfl (funext fun i => if_neg (fun q => hj q.1)) rfl
theorem wQ_o {G : Gl} {h : Hp} {a k j : Nat} {v : Option Nat} (hj : j ≠ a) : ent G (wQ h a k v) j = ent G h j := ent_congr rfl rfl rfl (funext fun i => if_neg (fun q => hj q.1))
theorem wR_o {G : Gl} {h : Hp} {a j : Nat} {f : Nat → Int32} (hj : j ≠ a) : ent G (wR h a f) j = ent G h j := ent_congr (funext fun i => if_neg hj) rfl rfl rfl
theorem wN_o {G : Gl} {h : Hp} {a j : Nat} (hj : j ≠ a) : ent G (wN h a) j = ent G h j := ent_congr (funext fun i => if_neg hj) (funext fun i => if_neg hj) (funext fun i => if_neg hj) (funext fun i => if_neg hj)
theorem wI_s {h : Hp} {a k : Nat} {v : Int32} : (wI h a k v).1 a = upd (h.1 a) k v := funext fun i => by simp [wI, upd]
theorem wF_s {h : Hp} {a k : Nat} {v : UInt32} : (wF h a k v).2.1 a = va_up (h.2.1 a) k v := funext fun i => by simp [wF, va_up]
theorem wD_s {h : Hp} {a k : Nat} {v : UInt64} : (wD h a k v).2.2.1 a = vf_upd (h.2.2.1 a) k v := funext fun i => by simp [wD, vf_upd]
theorem wQ_s {h : Hp} {a k : Nat} {v : Option Nat} : (wQ h a k v).2.2.2 a = va_up (h.2.2.2 a) k v := funext fun i => by simp [wQ, va_up]
theorem wR_s {h : Hp} {a : Nat} {f : Nat → Int32} : (wR h a f).1 a = f := funext fun i => by simp [wR]
theorem wN_s {h : Hp} {a : Nat} : (wN h a).1 a = (fun _ => 0) ∧ (wN h a).2.1 a = (fun _ => 0) ∧ (wN h a).2.2.1 a = (fun _ => 0) ∧ (wN h a).2.2.2 a = (fun _ => none) := by
  refine ⟨?_, ?_, ?_, ?_⟩ <;> (funext i; simp [wN])
end
section
/-! ===== THE JUDGEMENT: method M, from its pc with these locals and stack over the numbered cells h, comes to its end with R ===== -/
/-- a method: name, code, locals, return, the frames and the words of locals that it may take -/
abbrev Mt : Type := MethodName × ByteArray × Nat × Option FieldType × Nat × Nat
def rmOf (M : Mt) (k n : Nat) : Room := { frames := M.2.2.2.2.1, cells := k, slots := n, locals := M.2.2.2.2.2 }
def wM (M : Mt) : List Cond := .code M.1 M.2.1 M.2.2.1 M.2.2.2.1 :: Wt
/-- the world: the cells below n lie there, the classes are as the tables have them, the script is where it was -/
def Wp (G : Gl) (h : Hp) (n : Nat) (U : State) (H : Heap) : Prop := H.size = G.2.1 + n ∧ va_P G.2.2.1 vwCl (wl G h n) H ∧ va_K G.2.2.1 vwCl (gtys G) U ∧ (va_AO RX2 U ∧ va_AO RX0 U ∧ va_AO RX3 U ∧ va_AO RX6 U) ∧ va_X G.2.2.2.2.1 G.2.2.2.2.2.1 G.2.2.2.2.2.2 U H ∧ G.2.2.2.2.1 < G.2.1
theorem Wp.moved {G : Gl} {h : Hp} {n : Nat} {u U : State} {H : Heap} (hvm : u.vm.Alike U.vm) (w : Wp G h n u H) : Wp G h n U H :=
  ⟨w.1, w.2.1, va_K.moved hvm w.2.2.1, ⟨va_AO.moved hvm w.2.2.2.1.1, va_AO.moved hvm w.2.2.2.1.2.1, va_AO.moved hvm w.2.2.2.1.2.2.1, va_AO.moved hvm w.2.2.2.1.2.2.2⟩, va_X.moved hvm w.2.2.2.2.1, w.2.2.2.2.2⟩
/-- the world behind a write: the same tables, another h -/
theorem Wp.put {G : Gl} {h h' : Hp} {n n' : Nat} {U : State} {H H1 : Heap} (w : Wp G h n U H) (hz : H1.size = G.2.1 + n') (hP : va_P G.2.2.1 vwCl (wl G h' n') H1) (hx : ∀ q, q < G.2.1 → H1[q]? = H[q]?) : Wp G h' n' U H1 :=
  ⟨hz, hP, w.2.2.1, w.2.2.2.1, va_X.kept w.2.2.2.2.1 (hx _ w.2.2.2.2.2), w.2.2.2.2.2⟩
/-- the locals: the listed ones hold, all are of one word -/
def al (ls : List (Option Value)) : List (Nat × Value) := (List.range ls.length).filterMap (fun i => ((ls[i]?).getD none).map (fun v => (i, v)))
theorem al_mem {ls : List (Option Value)} {i : Nat} {v : Value} : (i, v) ∈ al ls ↔ ls[i]? = some (some v) := by
  unfold al
  rw [List.mem_filterMap]
  constructor
  · rintro ⟨j, hj, e⟩
    cases hq : ls[j]? with
    | none => rw [hq] at e; simp at e
    | some o =>
      cases o with
      | none => rw [hq] at e; simp at e
      | some w =>
        rw [hq] at e
        simp only [Option.getD_some, Option.map_some, Option.some.injEq, Prod.mk.injEq] at e
        obtain ⟨rfl, rfl⟩ := e
        exact hq
  · intro h
    refine ⟨i, List.mem_range.mpr (List.getElem?_eq_some_iff.mp h).1, ?_⟩
    rw [h]; rfl
def lh (nL : Nat) (A : Array Slot) (ls : List (Option Value)) : Prop := (∀ (i : Nat) (v : Value), ls[i]? = some (some v) → v.category = 1) ∧ lv_has A nL (al ls)
theorem lh_at {nL : Nat} {A : Array Slot} {ls : List (Option Value)} (h : lh nL A ls) {i : Nat} {v : Value} (hv : ls[i]? = some (some v)) : A[i]? = some (.val v) := h.2.2.2 (i, v) (al_mem.mpr hv)
theorem lh_set {nL : Nat} {A A' : Array Slot} {ls : List (Option Value)} {i : Nat} {v : Value} (h : lh nL A ls) (hc : v.category = 1) (hA : lv_has A' nL ((i, v) :: (al ls).filter (fun q => !(q.1 == i) && !(q.1 + 1 == i && q.2.category == 2)))) : lh nL A' (ls.set i (some v)) := by
  refine ⟨fun j w hj => ?_, hA.1, hA.2.1, fun q hq => ?_⟩
  · by_cases e : i = j
    · subst e
      have hl : i < ls.length := by simpa using (List.getElem?_eq_some_iff.mp hj).1
      rw [List.getElem?_set_self hl] at hj
      cases hj; exact hc
    · rw [List.getElem?_set_ne e] at hj
      exact h.1 j w hj
  · obtain ⟨j, w⟩ := q
    have hj := al_mem.mp hq
    by_cases e : i = j
    · subst e
      have hl : i < ls.length := by simpa using (List.getElem?_eq_some_iff.mp hj).1
      rw [List.getElem?_set_self hl] at hj
      cases hj
      exact hA.2.2 _ List.mem_cons_self
    · rw [List.getElem?_set_ne e] at hj
      have h1 := h.1 j w hj
      refine hA.2.2 _ (List.mem_cons_of_mem _ (List.mem_filter.mpr ⟨al_mem.mpr hj, ?_⟩))
      simp [h1, Ne.symm e]
/-- what holds all through a method: the machine, the code, the tables' words -/
def Cx (G : Gl) (M : Mt) (n0 : Nat) (p : Program) (s : State) (m : MethodId) (args : Array Value) (meth : Method) (c : Code) : Prop :=
  p.tables.exec = Jvm.exec ∧ c.code = M.2.1 ∧ meth.sig.returnType = M.2.2.2.1 ∧ c.maxLocals = M.2.2.1 ∧ s.vm.findClass M.1.cls = some m.cls ∧ (∀ w ∈ wM M, w.before args s = true) ∧ meth.locks = false ∧ meth.name = M.1.name ∧ s.heap.size = G.2.1 + n0
theorem Cx.w {G : Gl} {M : Mt} {n0 : Nat} {p : Program} {s : State} {m : MethodId} {args : Array Value} {meth : Method} {c : Code} (C : Cx G M n0 p s m args meth c) (d : Drawn) {w : Cond} (h : w ∈ Wt) : w.before args (s.setDrawn d) = true := dr_words C.2.2.2.2.2.1 d w (List.mem_cons_of_mem _ h)
theorem Cx.ws {G : Gl} {M : Mt} {n0 : Nat} {p : Program} {s : State} {m : MethodId} {args : Array Value} {meth : Method} {c : Code} (C : Cx G M n0 p s m args meth c) (d : Drawn) : ∀ w ∈ Wt, w.before args (s.setDrawn d) = true := fun _ h => C.w d h
def gA (G : Gl) : Nat → Prop := fun q => G.2.1 ≤ q
/-- a method's end -/
def Qr (G : Gl) (R : Option Value → Hp → Prop) (n1 : Nat) : Array Value → State → Outcome → State → Prop := fun _ st o t => (∃ v h', o = .returned v ∧ R v h' ∧ Wp G h' n1 t t.heap) ∧ va_F (gA G) st t
def Go (G : Gl) (M : Mt) (n1 : Nat) (R : Option Value → Hp → Prop) (h : Hp) (n pc : Nat) (ls : List (Option Value)) (st : List Value) : Prop :=
  ∀ (n0 : Nat) (p : Program) (e : Env) (s : State) (m : MethodId) (args : Array Value) (below : List Frame) (meth : Method) (c : Code) (H : Heap) (A : Array Slot) (locs : List Loc) (cells slots : Nat) (d0 : Drawn),
    Cx G M n0 p s m args meth c → s.drawn.sameBut d0 lw_cs → lh M.2.2.1 A ls → Wp G h n s H → va_S (gA G) s.heap H locs → n0 ≤ n → n ≤ n1 → cells = n - n0 → slots = sl n - sl n0 →
    W p G.1 e (rmOf M (n1 - n0) (sl n1 - sl n0)) (s.setDrawn d0) m args below meth c H locs cells slots (MQD lw_cs below (Qr G R n1) args s (n1 - n0) (sl n1 - sl n0) (gA G)) (F0 m pc A st)
/-- a method's contract -/
def Ct (G : Gl) (M : Mt) (as : List Value) (h : Hp) (n n1 : Nat) (R : Option Value → Hp → Prop) : Prop :=
  MetD lw_cs G.1 M.1 (wM M) (rmOf M (n1 - n) (sl n1 - sl n)) (va_Pc as (fun U => Wp G h n U U.heap)) (Qr G R n1) (n1 - n) (sl n1 - sl n) (gA G)
theorem lv_args_1 : ∀ (as : List Value) (i : Nat), (∀ v ∈ as, v.category = 1) → ∀ (j : Nat) (v : Value), as[j]? = some v → (i + j, v) ∈ lv_args i as
  | [], _, _, j, v, h => by simp at h
  | a :: as, i, hc, j, v, h => by
    have h1 : a.category = 1 := hc a List.mem_cons_self
    cases j with
    | zero =>
      rw [List.getElem?_cons_zero] at h
      cases h
      exact List.mem_cons_self
    | succ j =>
      rw [List.getElem?_cons_succ] at h
      have := lv_args_1 as (i + 1) (fun v hv => hc v (List.mem_cons_of_mem _ hv)) j v h
      show _ ∈ (i, a) :: lv_args (if a.category = 2 then i + 2 else i + 1) as
      rw [h1]
      refine List.mem_cons_of_mem _ ?_
      rw [show i + (j + 1) = i + 1 + j by omega]
      exact this
theorem lh_entry {as : List Value} {nL : Nat} (hc : ∀ v ∈ as, v.category = 1) (h : (lg_sl as).length ≤ nL) : lh nL ((lg_sl as ++ List.replicate (nL - (lg_sl as).length) Slot.unset).toArray) (as.map some ++ List.replicate (nL - as.length) none) := by
  have hl := lv_entry as h
  have key : ∀ (j : Nat) (v : Value), (as.map some ++ List.replicate (nL - as.length) none)[j]? = some (some v) → as[j]? = some v := by
    intro j v hj
    by_cases q : j < as.length
    · rw [List.getElem?_append_left (by simpa using q), List.getElem?_map] at hj
      cases hx : as[j]? with
      | none => rw [hx] at hj; cases hj
      | some w => rw [hx] at hj; cases hj; rfl
    · rw [List.getElem?_append_right (by simpa using q)] at hj
      have := List.eq_of_mem_replicate (List.mem_of_getElem? hj)
      cases this
  refine ⟨fun j v hj => hc v (List.mem_of_getElem? (key j v hj)), hl.1, hl.2.1, fun q hq => ?_⟩
  obtain ⟨j, v⟩ := q
  have := lv_args_1 as 0 hc j v (key j v (al_mem.mp hq))
  rw [Nat.zero_add] at this
  exact hl.2.2 _ this
theorem Ct.of {G : Gl} {M : Mt} {as : List Value} {h : Hp} {n n1 : Nat} {R : Option Value → Hp → Prop} (hy : plainName M.1.cls = true) (hc : ∀ v ∈ as, v.category = 1) (hl : (lg_sl as).length ≤ M.2.2.1) (hn : n ≤ n1)
    (k : Go G M n1 R h n 0 (as.map some ++ List.replicate (M.2.2.1 - as.length) none) []) : Ct G M as h n n1 R := by
  refine MetD.ofW (cc := M.2.1) (maxL := M.2.2.1) (ret := M.2.2.2.1) hy rfl ?_
  intro p e s m args below meth c s₁ B hml hv hd0
  obtain ⟨rfl, hw⟩ := hv
  rw [lg_entry_eq]
  refine W.widen (k := n - n) (n := sl n - sl n) (by omega) (by omega) ?_
  exact k n p e s m as.toArray below meth c s.heap _ [] _ _ s.drawn ⟨B.exec, B.bytes, B.returns, hml, findClass_of_methodNamed B.named, atoms_spec (ws := wM M) B.pre, B.notSynchronized, (name_of_methodNamed B.named B.method).1, hw.1⟩ hd0 (lh_entry hc hl) hw va_S.rf (Nat.le_refl _) hn rfl rfl
theorem Go.mono {G : Gl} {M : Mt} {n1 : Nat} {R R' : Option Value → Hp → Prop} {h : Hp} {n pc : Nat} {ls : List (Option Value)} {st : List Value} (hR : ∀ v h', R v h' → R' v h') (k : Go G M n1 R h n pc ls st) : Go G M n1 R' h n pc ls st := by
  intro n0 p e s m args below meth c H A locs cells slots d0 a1 a2 a3 a4 a5 a6 a7 a8 a9 T hT X
  obtain ⟨t, x1, d, x2, o, x3, x4, ⟨⟨v, h', x5, x6, x7⟩, x8⟩, x9⟩ := k n0 p e s m args below meth c H A locs cells slots d0 a1 a2 a3 a4 a5 a6 a7 a8 a9 T hT X
  exact ⟨t, x1, d, x2, o, x3, x4, ⟨⟨v, h', x5, hR v h' x6, x7⟩, x8⟩, x9⟩
end
section
section GX
variable {p : Program} {l : Launch} {e : Env} {R : Room} {s : State} {m : MethodId} {args : Array Value} {below : List Frame} {meth : Method} {c : Code} {H : Heap} {locs : List Loc} {cells slots : Nat} {Q : State → Prop} {pc : Nat} {ls : Array Slot} {rest : List Value} {cc : ByteArray}
theorem gx_ldcwf (hexec : p.tables.exec = Jvm.exec) (hb : c.code = cc) {own : String} {index : Nat} {v : UInt32} (hown : s.vm.findClass own = some m.cls) (hconst : (Jvm.Cond.constantFloat own index v).before args s = true) (hdg : decode cc pc = .ok (.ldc_w index, 3)) (k : W p l e R s m args below meth c H locs cells slots Q (F0 m (pc + 3) ls (.float v :: rest))) : W p l e R s m args below meth c H locs cells slots Q (F0 m pc ls rest) := by
  intro T hT X
  obtain ⟨t, a, b⟩ := k T hT X
  refine ⟨t, ?_, b⟩
  obtain ⟨k, cf, hk, hcf, hcp⟩ := Cond.constantFloat_spec hown hconst
  obtain ⟨k', hk', he⟩ := X.warmed.alike.2.2 _ _ hk
  jvm_step X.here [X.here.top, hexec, hb, hdg, ldc_w.wp_float (s := T) (f := F0 m pc ls rest) X.here.top hk' (by rw [he]; exact hcf) hcp]
  exact a
end GX
/-! ===== RULES: an instruction, a row (written by gen/rules.py) ===== -/
section GR
variable {G : Gl} {M : Mt} {n1 : Nat} {R : Option Value → Hp → Prop} {h : Hp} {n pc : Nat} {ls : List (Option Value)} {st : List Value}
theorem g_iconst {q : Int} {v : Int32} (d : decode M.2.1 pc = .ok (.iconst q, 1)) (hv : Int32.ofInt q = v) (k : Go G M n1 R h n (pc + 1) ls (.int v :: st)) : Go G M n1 R h n pc ls st := by
  intro n0 p e s m args below meth c H A locs cells slots d0 C hd hl hw hS ha hb hc hs
  exact lv_iconst C.1 C.2.1 d hv (k n0 p e s m args below meth c H A locs cells slots d0 C hd hl hw hS ha hb hc hs)
theorem g_bipush {q : Int} {v : Int32} (d : decode M.2.1 pc = .ok (.bipush q, 2)) (hv : (Int8.ofInt q).toInt32 = v) (k : Go G M n1 R h n (pc + 2) ls (.int v :: st)) : Go G M n1 R h n pc ls st := by
  intro n0 p e s m args below meth c H A locs cells slots d0 C hd hl hw hS ha hb hc hs
  exact lv_bipush C.1 C.2.1 d hv (k n0 p e s m args below meth c H A locs cells slots d0 C hd hl hw hS ha hb hc hs)
theorem g_sipush {q : Int} {v : Int32} (d : decode M.2.1 pc = .ok (.sipush q, 3)) (hv : (Int16.ofInt q).toInt32 = v) (k : Go G M n1 R h n (pc + 3) ls (.int v :: st)) : Go G M n1 R h n pc ls st := by
  intro n0 p e s m args below meth c H A locs cells slots d0 C hd hl hw hS ha hb hc hs
  exact lv_sipush C.1 C.2.1 d hv (k n0 p e s m args below meth c H A locs cells slots d0 C hd hl hw hS ha hb hc hs)
theorem g_null (d : decode M.2.1 pc = .ok (.aconst_null, 1)) (k : Go G M n1 R h n (pc + 1) ls (.null :: st)) : Go G M n1 R h n pc ls st := by
  intro n0 p e s m args below meth c H A locs cells slots d0 C hd hl hw hS ha hb hc hs
  exact lv_null C.1 C.2.1 d (k n0 p e s m args below meth c H A locs cells slots d0 C hd hl hw hS ha hb hc hs)
theorem g_ldc {i : Nat} {v : Int32} (hm : Cond.constant M.1.cls i v ∈ Wt) (d : decode M.2.1 pc = .ok (.ldc i, 2)) (k : Go G M n1 R h n (pc + 2) ls (.int v :: st)) : Go G M n1 R h n pc ls st := by
  intro n0 p e s m args below meth c H A locs cells slots d0 C hd hl hw hS ha hb hc hs
  exact lv_ldc C.1 C.2.1 C.2.2.2.2.1 (C.w d0 hm) d (k n0 p e s m args below meth c H A locs cells slots d0 C hd hl hw hS ha hb hc hs)
theorem g_ldcf {i : Nat} {v : UInt32} (hm : Cond.constantFloat M.1.cls i v ∈ Wt) (d : decode M.2.1 pc = .ok (.ldc i, 2)) (k : Go G M n1 R h n (pc + 2) ls (.float v :: st)) : Go G M n1 R h n pc ls st := by
  intro n0 p e s m args below meth c H A locs cells slots d0 C hd hl hw hS ha hb hc hs
  exact lv_ldcf C.1 C.2.1 C.2.2.2.2.1 (C.w d0 hm) d (k n0 p e s m args below meth c H A locs cells slots d0 C hd hl hw hS ha hb hc hs)
theorem g_ldcw {i : Nat} {v : Int32} (hm : Cond.constant M.1.cls i v ∈ Wt) (d : decode M.2.1 pc = .ok (.ldc_w i, 3)) (k : Go G M n1 R h n (pc + 3) ls (.int v :: st)) : Go G M n1 R h n pc ls st := by
  intro n0 p e s m args below meth c H A locs cells slots d0 C hd hl hw hS ha hb hc hs
  exact lv_ldcw C.1 C.2.1 C.2.2.2.2.1 (C.w d0 hm) d (k n0 p e s m args below meth c H A locs cells slots d0 C hd hl hw hS ha hb hc hs)
theorem g_ldcwf {i : Nat} {v : UInt32} (hm : Cond.constantFloat M.1.cls i v ∈ Wt) (d : decode M.2.1 pc = .ok (.ldc_w i, 3)) (k : Go G M n1 R h n (pc + 3) ls (.float v :: st)) : Go G M n1 R h n pc ls st := by
  intro n0 p e s m args below meth c H A locs cells slots d0 C hd hl hw hS ha hb hc hs
  exact gx_ldcwf C.1 C.2.1 C.2.2.2.2.1 (C.w d0 hm) d (k n0 p e s m args below meth c H A locs cells slots d0 C hd hl hw hS ha hb hc hs)
theorem g_ldc2d {i : Nat} {v : UInt64} (hm : Cond.constantDouble M.1.cls i v ∈ Wt) (d : decode M.2.1 pc = .ok (.ldc2_w i, 3)) (k : Go G M n1 R h n (pc + 3) ls (.double v :: st)) : Go G M n1 R h n pc ls st := by
  intro n0 p e s m args below meth c H A locs cells slots d0 C hd hl hw hS ha hb hc hs
  exact lv_ldc2d C.1 C.2.1 C.2.2.2.2.1 (C.w d0 hm) d (k n0 p e s m args below meth c H A locs cells slots d0 C hd hl hw hS ha hb hc hs)
theorem g_ild0 {r : List (Option Value)} {x : Int32} (d : decode M.2.1 pc = .ok (.iload_n 0, 1)) (k : Go G M n1 R h n (pc + 1) (some (.int x) :: r) (.int x :: st)) : Go G M n1 R h n pc (some (.int x) :: r) st := by
  intro n0 p e s m args below meth c H A locs cells slots d0 C hd hl hw hS ha hb hc hs
  exact lv_iload_n C.1 C.2.1 d rfl (lh_at (i := 0) hl rfl) (k n0 p e s m args below meth c H A locs cells slots d0 C hd hl hw hS ha hb hc hs)
theorem g_fld0 {r : List (Option Value)} {x : UInt32} (d : decode M.2.1 pc = .ok (.fload_n 0, 1)) (k : Go G M n1 R h n (pc + 1) (some (.float x) :: r) (.float x :: st)) : Go G M n1 R h n pc (some (.float x) :: r) st := by
  intro n0 p e s m args below meth c H A locs cells slots d0 C hd hl hw hS ha hb hc hs
  exact lv_fload_n C.1 C.2.1 d rfl (lh_at (i := 0) hl rfl) (k n0 p e s m args below meth c H A locs cells slots d0 C hd hl hw hS ha hb hc hs)
theorem g_ald0 {r : List (Option Value)} {x : Nat} (d : decode M.2.1 pc = .ok (.aload_n 0, 1)) (k : Go G M n1 R h n (pc + 1) (some (ga G x) :: r) (ga G x :: st)) : Go G M n1 R h n pc (some (ga G x) :: r) st := by
  intro n0 p e s m args below meth c H A locs cells slots d0 C hd hl hw hS ha hb hc hs
  exact lv_aload_n C.1 C.2.1 d rfl (lh_at (i := 0) hl rfl) (k n0 p e s m args below meth c H A locs cells slots d0 C hd hl hw hS ha hb hc hs)
theorem g_sld0 {r : List (Option Value)} {x : Nat} (d : decode M.2.1 pc = .ok (.aload_n 0, 1)) (k : Go G M n1 R h n (pc + 1) (some (.ref x) :: r) (.ref x :: st)) : Go G M n1 R h n pc (some (.ref x) :: r) st := by
  intro n0 p e s m args below meth c H A locs cells slots d0 C hd hl hw hS ha hb hc hs
  exact lv_aload_n C.1 C.2.1 d rfl (lh_at (i := 0) hl rfl) (k n0 p e s m args below meth c H A locs cells slots d0 C hd hl hw hS ha hb hc hs)
theorem g_zld0 {r : List (Option Value)}  (d : decode M.2.1 pc = .ok (.aload_n 0, 1)) (k : Go G M n1 R h n (pc + 1) (some (.null) :: r) (.null :: st)) : Go G M n1 R h n pc (some (.null) :: r) st := by
  intro n0 p e s m args below meth c H A locs cells slots d0 C hd hl hw hS ha hb hc hs
  exact lv_aload_nN C.1 C.2.1 d rfl (lh_at (i := 0) hl rfl) (k n0 p e s m args below meth c H A locs cells slots d0 C hd hl hw hS ha hb hc hs)
theorem g_ist0 {r : List (Option Value)} {x : Int32} {y : Option Value} (hi : 0 < M.2.2.1) (d : decode M.2.1 pc = .ok (.istore_n 0, 1)) (k : Go G M n1 R h n (pc + 1) (some (.int x) :: r) st) : Go G M n1 R h n pc (y :: r) (.int x :: st) := by
  intro n0 p e s m args below meth c H A locs cells slots d0 C hd hl hw hS ha hb hc hs
  exact lv_istore_n C.1 C.2.1 d rfl hl.2 hi rfl (fun A2 hA2 => (k n0 p e s m args below meth c H A2 locs cells slots d0 C hd (lh_set (i := 0) hl rfl hA2) hw hS ha hb hc hs))
theorem g_fst0 {r : List (Option Value)} {x : UInt32} {y : Option Value} (hi : 0 < M.2.2.1) (d : decode M.2.1 pc = .ok (.fstore_n 0, 1)) (k : Go G M n1 R h n (pc + 1) (some (.float x) :: r) st) : Go G M n1 R h n pc (y :: r) (.float x :: st) := by
  intro n0 p e s m args below meth c H A locs cells slots d0 C hd hl hw hS ha hb hc hs
  exact lv_fstore_n C.1 C.2.1 d rfl hl.2 hi rfl (fun A2 hA2 => (k n0 p e s m args below meth c H A2 locs cells slots d0 C hd (lh_set (i := 0) hl rfl hA2) hw hS ha hb hc hs))
theorem g_ast0 {r : List (Option Value)} {x : Nat} {y : Option Value} (hi : 0 < M.2.2.1) (d : decode M.2.1 pc = .ok (.astore_n 0, 1)) (k : Go G M n1 R h n (pc + 1) (some (ga G x) :: r) st) : Go G M n1 R h n pc (y :: r) (ga G x :: st) := by
  intro n0 p e s m args below meth c H A locs cells slots d0 C hd hl hw hS ha hb hc hs
  exact lv_astore_n C.1 C.2.1 d rfl hl.2 hi rfl (fun A2 hA2 => (k n0 p e s m args below meth c H A2 locs cells slots d0 C hd (lh_set (i := 0) hl rfl hA2) hw hS ha hb hc hs))
theorem g_zst0 {r : List (Option Value)}  {y : Option Value} (hi : 0 < M.2.2.1) (d : decode M.2.1 pc = .ok (.astore_n 0, 1)) (k : Go G M n1 R h n (pc + 1) (some (.null) :: r) st) : Go G M n1 R h n pc (y :: r) (.null :: st) := by
  intro n0 p e s m args below meth c H A locs cells slots d0 C hd hl hw hS ha hb hc hs
  exact lv_astore_nN C.1 C.2.1 d rfl hl.2 hi rfl (fun A2 hA2 => (k n0 p e s m args below meth c H A2 locs cells slots d0 C hd (lh_set (i := 0) hl rfl hA2) hw hS ha hb hc hs))
theorem g_iinc0 {r : List (Option Value)} {x v : Int32} {q : Int} (hi : 0 < M.2.2.1) (d : decode M.2.1 pc = .ok (.iinc 0 q, 3)) (hv : x + Int32.ofInt q = v) (k : Go G M n1 R h n (pc + 3) (some (.int v) :: r) st) : Go G M n1 R h n pc (some (.int x) :: r) st := by
  intro n0 p e s m args below meth c H A locs cells slots d0 C hd hl hw hS ha hb hc hs
  obtain ⟨j, hj⟩ := List.getElem?_of_mem (al_mem.mpr (show (some (.int x) :: r)[0]? = some (some (.int x)) from rfl))
  exact lv_iinc C.1 C.2.1 d hl.2 hj hv hi rfl (fun A2 hA2 => (k n0 p e s m args below meth c H A2 locs cells slots d0 C hd (lh_set (i := 0) hl rfl hA2) hw hS ha hb hc hs))
theorem g_ild1 {x0 : Option Value} {r : List (Option Value)} {x : Int32} (d : decode M.2.1 pc = .ok (.iload_n 1, 1)) (k : Go G M n1 R h n (pc + 1) (x0 :: some (.int x) :: r) (.int x :: st)) : Go G M n1 R h n pc (x0 :: some (.int x) :: r) st := by
  intro n0 p e s m args below meth c H A locs cells slots d0 C hd hl hw hS ha hb hc hs
  exact lv_iload_n C.1 C.2.1 d rfl (lh_at (i := 1) hl rfl) (k n0 p e s m args below meth c H A locs cells slots d0 C hd hl hw hS ha hb hc hs)
theorem g_fld1 {x0 : Option Value} {r : List (Option Value)} {x : UInt32} (d : decode M.2.1 pc = .ok (.fload_n 1, 1)) (k : Go G M n1 R h n (pc + 1) (x0 :: some (.float x) :: r) (.float x :: st)) : Go G M n1 R h n pc (x0 :: some (.float x) :: r) st := by
  intro n0 p e s m args below meth c H A locs cells slots d0 C hd hl hw hS ha hb hc hs
  exact lv_fload_n C.1 C.2.1 d rfl (lh_at (i := 1) hl rfl) (k n0 p e s m args below meth c H A locs cells slots d0 C hd hl hw hS ha hb hc hs)
theorem g_ald1 {x0 : Option Value} {r : List (Option Value)} {x : Nat} (d : decode M.2.1 pc = .ok (.aload_n 1, 1)) (k : Go G M n1 R h n (pc + 1) (x0 :: some (ga G x) :: r) (ga G x :: st)) : Go G M n1 R h n pc (x0 :: some (ga G x) :: r) st := by
  intro n0 p e s m args below meth c H A locs cells slots d0 C hd hl hw hS ha hb hc hs
  exact lv_aload_n C.1 C.2.1 d rfl (lh_at (i := 1) hl rfl) (k n0 p e s m args below meth c H A locs cells slots d0 C hd hl hw hS ha hb hc hs)
theorem g_sld1 {x0 : Option Value} {r : List (Option Value)} {x : Nat} (d : decode M.2.1 pc = .ok (.aload_n 1, 1)) (k : Go G M n1 R h n (pc + 1) (x0 :: some (.ref x) :: r) (.ref x :: st)) : Go G M n1 R h n pc (x0 :: some (.ref x) :: r) st := by
  intro n0 p e s m args below meth c H A locs cells slots d0 C hd hl hw hS ha hb hc hs
  exact lv_aload_n C.1 C.2.1 d rfl (lh_at (i := 1) hl rfl) (k n0 p e s m args below meth c H A locs cells slots d0 C hd hl hw hS ha hb hc hs)
theorem g_zld1 {x0 : Option Value} {r : List (Option Value)}  (d : decode M.2.1 pc = .ok (.aload_n 1, 1)) (k : Go G M n1 R h n (pc + 1) (x0 :: some (.null) :: r) (.null :: st)) : Go G M n1 R h n pc (x0 :: some (.null) :: r) st := by
  intro n0 p e s m args below meth c H A locs cells slots d0 C hd hl hw hS ha hb hc hs
  exact lv_aload_nN C.1 C.2.1 d rfl (lh_at (i := 1) hl rfl) (k n0 p e s m args below meth c H A locs cells slots d0 C hd hl hw hS ha hb hc hs)
theorem g_ist1 {x0 : Option Value} {r : List (Option Value)} {x : Int32} {y : Option Value} (hi : 1 < M.2.2.1) (d : decode M.2.1 pc = .ok (.istore_n 1, 1)) (k : Go G M n1 R h n (pc + 1) (x0 :: some (.int x) :: r) st) : Go G M n1 R h n pc (x0 :: y :: r) (.int x :: st) := by
  intro n0 p e s m args below meth c H A locs cells slots d0 C hd hl hw hS ha hb hc hs
  exact lv_istore_n C.1 C.2.1 d rfl hl.2 hi rfl (fun A2 hA2 => (k n0 p e s m args below meth c H A2 locs cells slots d0 C hd (lh_set (i := 1) hl rfl hA2) hw hS ha hb hc hs))
theorem g_fst1 {x0 : Option Value} {r : List (Option Value)} {x : UInt32} {y : Option Value} (hi : 1 < M.2.2.1) (d : decode M.2.1 pc = .ok (.fstore_n 1, 1)) (k : Go G M n1 R h n (pc + 1) (x0 :: some (.float x) :: r) st) : Go G M n1 R h n pc (x0 :: y :: r) (.float x :: st) := by
  intro n0 p e s m args below meth c H A locs cells slots d0 C hd hl hw hS ha hb hc hs
  exact lv_fstore_n C.1 C.2.1 d rfl hl.2 hi rfl (fun A2 hA2 => (k n0 p e s m args below meth c H A2 locs cells slots d0 C hd (lh_set (i := 1) hl rfl hA2) hw hS ha hb hc hs))
theorem g_ast1 {x0 : Option Value} {r : List (Option Value)} {x : Nat} {y : Option Value} (hi : 1 < M.2.2.1) (d : decode M.2.1 pc = .ok (.astore_n 1, 1)) (k : Go G M n1 R h n (pc + 1) (x0 :: some (ga G x) :: r) st) : Go G M n1 R h n pc (x0 :: y :: r) (ga G x :: st) := by
  intro n0 p e s m args below meth c H A locs cells slots d0 C hd hl hw hS ha hb hc hs
  exact lv_astore_n C.1 C.2.1 d rfl hl.2 hi rfl (fun A2 hA2 => (k n0 p e s m args below meth c H A2 locs cells slots d0 C hd (lh_set (i := 1) hl rfl hA2) hw hS ha hb hc hs))
theorem g_zst1 {x0 : Option Value} {r : List (Option Value)}  {y : Option Value} (hi : 1 < M.2.2.1) (d : decode M.2.1 pc = .ok (.astore_n 1, 1)) (k : Go G M n1 R h n (pc + 1) (x0 :: some (.null) :: r) st) : Go G M n1 R h n pc (x0 :: y :: r) (.null :: st) := by
  intro n0 p e s m args below meth c H A locs cells slots d0 C hd hl hw hS ha hb hc hs
  exact lv_astore_nN C.1 C.2.1 d rfl hl.2 hi rfl (fun A2 hA2 => (k n0 p e s m args below meth c H A2 locs cells slots d0 C hd (lh_set (i := 1) hl rfl hA2) hw hS ha hb hc hs))
theorem g_iinc1 {x0 : Option Value} {r : List (Option Value)} {x v : Int32} {q : Int} (hi : 1 < M.2.2.1) (d : decode M.2.1 pc = .ok (.iinc 1 q, 3)) (hv : x + Int32.ofInt q = v) (k : Go G M n1 R h n (pc + 3) (x0 :: some (.int v) :: r) st) : Go G M n1 R h n pc (x0 :: some (.int x) :: r) st := by
  intro n0 p e s m args below meth c H A locs cells slots d0 C hd hl hw hS ha hb hc hs
  obtain ⟨j, hj⟩ := List.getElem?_of_mem (al_mem.mpr (show (x0 :: some (.int x) :: r)[1]? = some (some (.int x)) from rfl))
  exact lv_iinc C.1 C.2.1 d hl.2 hj hv hi rfl (fun A2 hA2 => (k n0 p e s m args below meth c H A2 locs cells slots d0 C hd (lh_set (i := 1) hl rfl hA2) hw hS ha hb hc hs))
theorem g_ild2 {x0 x1 : Option Value} {r : List (Option Value)} {x : Int32} (d : decode M.2.1 pc = .ok (.iload_n 2, 1)) (k : Go G M n1 R h n (pc + 1) (x0 :: x1 :: some (.int x) :: r) (.int x :: st)) : Go G M n1 R h n pc (x0 :: x1 :: some (.int x) :: r) st := by
  intro n0 p e s m args below meth c H A locs cells slots d0 C hd hl hw hS ha hb hc hs
  exact lv_iload_n C.1 C.2.1 d rfl (lh_at (i := 2) hl rfl) (k n0 p e s m args below meth c H A locs cells slots d0 C hd hl hw hS ha hb hc hs)
theorem g_fld2 {x0 x1 : Option Value} {r : List (Option Value)} {x : UInt32} (d : decode M.2.1 pc = .ok (.fload_n 2, 1)) (k : Go G M n1 R h n (pc + 1) (x0 :: x1 :: some (.float x) :: r) (.float x :: st)) : Go G M n1 R h n pc (x0 :: x1 :: some (.float x) :: r) st := by
  intro n0 p e s m args below meth c H A locs cells slots d0 C hd hl hw hS ha hb hc hs
  exact lv_fload_n C.1 C.2.1 d rfl (lh_at (i := 2) hl rfl) (k n0 p e s m args below meth c H A locs cells slots d0 C hd hl hw hS ha hb hc hs)
theorem g_ald2 {x0 x1 : Option Value} {r : List (Option Value)} {x : Nat} (d : decode M.2.1 pc = .ok (.aload_n 2, 1)) (k : Go G M n1 R h n (pc + 1) (x0 :: x1 :: some (ga G x) :: r) (ga G x :: st)) : Go G M n1 R h n pc (x0 :: x1 :: some (ga G x) :: r) st := by
  intro n0 p e s m args below meth c H A locs cells slots d0 C hd hl hw hS ha hb hc hs
  exact lv_aload_n C.1 C.2.1 d rfl (lh_at (i := 2) hl rfl) (k n0 p e s m args below meth c H A locs cells slots d0 C hd hl hw hS ha hb hc hs)
theorem g_sld2 {x0 x1 : Option Value} {r : List (Option Value)} {x : Nat} (d : decode M.2.1 pc = .ok (.aload_n 2, 1)) (k : Go G M n1 R h n (pc + 1) (x0 :: x1 :: some (.ref x) :: r) (.ref x :: st)) : Go G M n1 R h n pc (x0 :: x1 :: some (.ref x) :: r) st := by
  intro n0 p e s m args below meth c H A locs cells slots d0 C hd hl hw hS ha hb hc hs
  exact lv_aload_n C.1 C.2.1 d rfl (lh_at (i := 2) hl rfl) (k n0 p e s m args below meth c H A locs cells slots d0 C hd hl hw hS ha hb hc hs)
theorem g_zld2 {x0 x1 : Option Value} {r : List (Option Value)}  (d : decode M.2.1 pc = .ok (.aload_n 2, 1)) (k : Go G M n1 R h n (pc + 1) (x0 :: x1 :: some (.null) :: r) (.null :: st)) : Go G M n1 R h n pc (x0 :: x1 :: some (.null) :: r) st := by
  intro n0 p e s m args below meth c H A locs cells slots d0 C hd hl hw hS ha hb hc hs
  exact lv_aload_nN C.1 C.2.1 d rfl (lh_at (i := 2) hl rfl) (k n0 p e s m args below meth c H A locs cells slots d0 C hd hl hw hS ha hb hc hs)
theorem g_ist2 {x0 x1 : Option Value} {r : List (Option Value)} {x : Int32} {y : Option Value} (hi : 2 < M.2.2.1) (d : decode M.2.1 pc = .ok (.istore_n 2, 1)) (k : Go G M n1 R h n (pc + 1) (x0 :: x1 :: some (.int x) :: r) st) : Go G M n1 R h n pc (x0 :: x1 :: y :: r) (.int x :: st) := by
  intro n0 p e s m args below meth c H A locs cells slots d0 C hd hl hw hS ha hb hc hs
  exact lv_istore_n C.1 C.2.1 d rfl hl.2 hi rfl (fun A2 hA2 => (k n0 p e s m args below meth c H A2 locs cells slots d0 C hd (lh_set (i := 2) hl rfl hA2) hw hS ha hb hc hs))
theorem g_fst2 {x0 x1 : Option Value} {r : List (Option Value)} {x : UInt32} {y : Option Value} (hi : 2 < M.2.2.1) (d : decode M.2.1 pc = .ok (.fstore_n 2, 1)) (k : Go G M n1 R h n (pc + 1) (x0 :: x1 :: some (.float x) :: r) st) : Go G M n1 R h n pc (x0 :: x1 :: y :: r) (.float x :: st) := by
  intro n0 p e s m args below meth c H A locs cells slots d0 C hd hl hw hS ha hb hc hs
  exact lv_fstore_n C.1 C.2.1 d rfl hl.2 hi rfl (fun A2 hA2 => (k n0 p e s m args below meth c H A2 locs cells slots d0 C hd (lh_set (i := 2) hl rfl hA2) hw hS ha hb hc hs))
theorem g_ast2 {x0 x1 : Option Value} {r : List (Option Value)} {x : Nat} {y : Option Value} (hi : 2 < M.2.2.1) (d : decode M.2.1 pc = .ok (.astore_n 2, 1)) (k : Go G M n1 R h n (pc + 1) (x0 :: x1 :: some (ga G x) :: r) st) : Go G M n1 R h n pc (x0 :: x1 :: y :: r) (ga G x :: st) := by
  intro n0 p e s m args below meth c H A locs cells slots d0 C hd hl hw hS ha hb hc hs
  exact lv_astore_n C.1 C.2.1 d rfl hl.2 hi rfl (fun A2 hA2 => (k n0 p e s m args below meth c H A2 locs cells slots d0 C hd (lh_set (i := 2) hl rfl hA2) hw hS ha hb hc hs))
theorem g_zst2 {x0 x1 : Option Value} {r : List (Option Value)}  {y : Option Value} (hi : 2 < M.2.2.1) (d : decode M.2.1 pc = .ok (.astore_n 2, 1)) (k : Go G M n1 R h n (pc + 1) (x0 :: x1 :: some (.null) :: r) st) : Go G M n1 R h n pc (x0 :: x1 :: y :: r) (.null :: st) := by
  intro n0 p e s m args below meth c H A locs cells slots d0 C hd hl hw hS ha hb hc hs
  exact lv_astore_nN C.1 C.2.1 d rfl hl.2 hi rfl (fun A2 hA2 => (k n0 p e s m args below meth c H A2 locs cells slots d0 C hd (lh_set (i := 2) hl rfl hA2) hw hS ha hb hc hs))
theorem g_iinc2 {x0 x1 : Option Value} {r : List (Option Value)} {x v : Int32} {q : Int} (hi : 2 < M.2.2.1) (d : decode M.2.1 pc = .ok (.iinc 2 q, 3)) (hv : x + Int32.ofInt q = v) (k : Go G M n1 R h n (pc + 3) (x0 :: x1 :: some (.int v) :: r) st) : Go G M n1 R h n pc (x0 :: x1 :: some (.int x) :: r) st := by
  intro n0 p e s m args below meth c H A locs cells slots d0 C hd hl hw hS ha hb hc hs
  obtain ⟨j, hj⟩ := List.getElem?_of_mem (al_mem.mpr (show (x0 :: x1 :: some (.int x) :: r)[2]? = some (some (.int x)) from rfl))
  exact lv_iinc C.1 C.2.1 d hl.2 hj hv hi rfl (fun A2 hA2 => (k n0 p e s m args below meth c H A2 locs cells slots d0 C hd (lh_set (i := 2) hl rfl hA2) hw hS ha hb hc hs))
theorem g_ild3 {x0 x1 x2 : Option Value} {r : List (Option Value)} {x : Int32} (d : decode M.2.1 pc = .ok (.iload_n 3, 1)) (k : Go G M n1 R h n (pc + 1) (x0 :: x1 :: x2 :: some (.int x) :: r) (.int x :: st)) : Go G M n1 R h n pc (x0 :: x1 :: x2 :: some (.int x) :: r) st := by
  intro n0 p e s m args below meth c H A locs cells slots d0 C hd hl hw hS ha hb hc hs
  exact lv_iload_n C.1 C.2.1 d rfl (lh_at (i := 3) hl rfl) (k n0 p e s m args below meth c H A locs cells slots d0 C hd hl hw hS ha hb hc hs)
theorem g_fld3 {x0 x1 x2 : Option Value} {r : List (Option Value)} {x : UInt32} (d : decode M.2.1 pc = .ok (.fload_n 3, 1)) (k : Go G M n1 R h n (pc + 1) (x0 :: x1 :: x2 :: some (.float x) :: r) (.float x :: st)) : Go G M n1 R h n pc (x0 :: x1 :: x2 :: some (.float x) :: r) st := by
  intro n0 p e s m args below meth c H A locs cells slots d0 C hd hl hw hS ha hb hc hs
  exact lv_fload_n C.1 C.2.1 d rfl (lh_at (i := 3) hl rfl) (k n0 p e s m args below meth c H A locs cells slots d0 C hd hl hw hS ha hb hc hs)
theorem g_ald3 {x0 x1 x2 : Option Value} {r : List (Option Value)} {x : Nat} (d : decode M.2.1 pc = .ok (.aload_n 3, 1)) (k : Go G M n1 R h n (pc + 1) (x0 :: x1 :: x2 :: some (ga G x) :: r) (ga G x :: st)) : Go G M n1 R h n pc (x0 :: x1 :: x2 :: some (ga G x) :: r) st := by
  intro n0 p e s m args below meth c H A locs cells slots d0 C hd hl hw hS ha hb hc hs
  exact lv_aload_n C.1 C.2.1 d rfl (lh_at (i := 3) hl rfl) (k n0 p e s m args below meth c H A locs cells slots d0 C hd hl hw hS ha hb hc hs)
theorem g_sld3 {x0 x1 x2 : Option Value} {r : List (Option Value)} {x : Nat} (d : decode M.2.1 pc = .ok (.aload_n 3, 1)) (k : Go G M n1 R h n (pc + 1) (x0 :: x1 :: x2 :: some (.ref x) :: r) (.ref x :: st)) : Go G M n1 R h n pc (x0 :: x1 :: x2 :: some (.ref x) :: r) st := by
  intro n0 p e s m args below meth c H A locs cells slots d0 C hd hl hw hS ha hb hc hs
  exact lv_aload_n C.1 C.2.1 d rfl (lh_at (i := 3) hl rfl) (k n0 p e s m args below meth c H A locs cells slots d0 C hd hl hw hS ha hb hc hs)
theorem g_zld3 {x0 x1 x2 : Option Value} {r : List (Option Value)}  (d : decode M.2.1 pc = .ok (.aload_n 3, 1)) (k : Go G M n1 R h n (pc + 1) (x0 :: x1 :: x2 :: some (.null) :: r) (.null :: st)) : Go G M n1 R h n pc (x0 :: x1 :: x2 :: some (.null) :: r) st := by
  intro n0 p e s m args below meth c H A locs cells slots d0 C hd hl hw hS ha hb hc hs
  exact lv_aload_nN C.1 C.2.1 d rfl (lh_at (i := 3) hl rfl) (k n0 p e s m args below meth c H A locs cells slots d0 C hd hl hw hS ha hb hc hs)
theorem g_ist3 {x0 x1 x2 : Option Value} {r : List (Option Value)} {x : Int32} {y : Option Value} (hi : 3 < M.2.2.1) (d : decode M.2.1 pc = .ok (.istore_n 3, 1)) (k : Go G M n1 R h n (pc + 1) (x0 :: x1 :: x2 :: some (.int x) :: r) st) : Go G M n1 R h n pc (x0 :: x1 :: x2 :: y :: r) (.int x :: st) := by
  intro n0 p e s m args below meth c H A locs cells slots d0 C hd hl hw hS ha hb hc hs
  exact lv_istore_n C.1 C.2.1 d rfl hl.2 hi rfl (fun A2 hA2 => (k n0 p e s m args below meth c H A2 locs cells slots d0 C hd (lh_set (i := 3) hl rfl hA2) hw hS ha hb hc hs))
theorem g_fst3 {x0 x1 x2 : Option Value} {r : List (Option Value)} {x : UInt32} {y : Option Value} (hi : 3 < M.2.2.1) (d : decode M.2.1 pc = .ok (.fstore_n 3, 1)) (k : Go G M n1 R h n (pc + 1) (x0 :: x1 :: x2 :: some (.float x) :: r) st) : Go G M n1 R h n pc (x0 :: x1 :: x2 :: y :: r) (.float x :: st) := by
  intro n0 p e s m args below meth c H A locs cells slots d0 C hd hl hw hS ha hb hc hs
  exact lv_fstore_n C.1 C.2.1 d rfl hl.2 hi rfl (fun A2 hA2 => (k n0 p e s m args below meth c H A2 locs cells slots d0 C hd (lh_set (i := 3) hl rfl hA2) hw hS ha hb hc hs))
theorem g_ast3 {x0 x1 x2 : Option Value} {r : List (Option Value)} {x : Nat} {y : Option Value} (hi : 3 < M.2.2.1) (d : decode M.2.1 pc = .ok (.astore_n 3, 1)) (k : Go G M n1 R h n (pc + 1) (x0 :: x1 :: x2 :: some (ga G x) :: r) st) : Go G M n1 R h n pc (x0 :: x1 :: x2 :: y :: r) (ga G x :: st) := by
  intro n0 p e s m args below meth c H A locs cells slots d0 C hd hl hw hS ha hb hc hs
  exact lv_astore_n C.1 C.2.1 d rfl hl.2 hi rfl (fun A2 hA2 => (k n0 p e s m args below meth c H A2 locs cells slots d0 C hd (lh_set (i := 3) hl rfl hA2) hw hS ha hb hc hs))
theorem g_zst3 {x0 x1 x2 : Option Value} {r : List (Option Value)}  {y : Option Value} (hi : 3 < M.2.2.1) (d : decode M.2.1 pc = .ok (.astore_n 3, 1)) (k : Go G M n1 R h n (pc + 1) (x0 :: x1 :: x2 :: some (.null) :: r) st) : Go G M n1 R h n pc (x0 :: x1 :: x2 :: y :: r) (.null :: st) := by
  intro n0 p e s m args below meth c H A locs cells slots d0 C hd hl hw hS ha hb hc hs
  exact lv_astore_nN C.1 C.2.1 d rfl hl.2 hi rfl (fun A2 hA2 => (k n0 p e s m args below meth c H A2 locs cells slots d0 C hd (lh_set (i := 3) hl rfl hA2) hw hS ha hb hc hs))
theorem g_iinc3 {x0 x1 x2 : Option Value} {r : List (Option Value)} {x v : Int32} {q : Int} (hi : 3 < M.2.2.1) (d : decode M.2.1 pc = .ok (.iinc 3 q, 3)) (hv : x + Int32.ofInt q = v) (k : Go G M n1 R h n (pc + 3) (x0 :: x1 :: x2 :: some (.int v) :: r) st) : Go G M n1 R h n pc (x0 :: x1 :: x2 :: some (.int x) :: r) st := by
  intro n0 p e s m args below meth c H A locs cells slots d0 C hd hl hw hS ha hb hc hs
  obtain ⟨j, hj⟩ := List.getElem?_of_mem (al_mem.mpr (show (x0 :: x1 :: x2 :: some (.int x) :: r)[3]? = some (some (.int x)) from rfl))
  exact lv_iinc C.1 C.2.1 d hl.2 hj hv hi rfl (fun A2 hA2 => (k n0 p e s m args below meth c H A2 locs cells slots d0 C hd (lh_set (i := 3) hl rfl hA2) hw hS ha hb hc hs))
theorem g_ild4 {x0 x1 x2 x3 : Option Value} {r : List (Option Value)} {x : Int32} (d : decode M.2.1 pc = .ok (.iload 4, 2)) (k : Go G M n1 R h n (pc + 2) (x0 :: x1 :: x2 :: x3 :: some (.int x) :: r) (.int x :: st)) : Go G M n1 R h n pc (x0 :: x1 :: x2 :: x3 :: some (.int x) :: r) st := by
  intro n0 p e s m args below meth c H A locs cells slots d0 C hd hl hw hS ha hb hc hs
  exact lv_iload C.1 C.2.1 d (lh_at hl rfl) (k n0 p e s m args below meth c H A locs cells slots d0 C hd hl hw hS ha hb hc hs)
theorem g_fld4 {x0 x1 x2 x3 : Option Value} {r : List (Option Value)} {x : UInt32} (d : decode M.2.1 pc = .ok (.fload 4, 2)) (k : Go G M n1 R h n (pc + 2) (x0 :: x1 :: x2 :: x3 :: some (.float x) :: r) (.float x :: st)) : Go G M n1 R h n pc (x0 :: x1 :: x2 :: x3 :: some (.float x) :: r) st := by
  intro n0 p e s m args below meth c H A locs cells slots d0 C hd hl hw hS ha hb hc hs
  exact lv_fload C.1 C.2.1 d (lh_at hl rfl) (k n0 p e s m args below meth c H A locs cells slots d0 C hd hl hw hS ha hb hc hs)
theorem g_ald4 {x0 x1 x2 x3 : Option Value} {r : List (Option Value)} {x : Nat} (d : decode M.2.1 pc = .ok (.aload 4, 2)) (k : Go G M n1 R h n (pc + 2) (x0 :: x1 :: x2 :: x3 :: some (ga G x) :: r) (ga G x :: st)) : Go G M n1 R h n pc (x0 :: x1 :: x2 :: x3 :: some (ga G x) :: r) st := by
  intro n0 p e s m args below meth c H A locs cells slots d0 C hd hl hw hS ha hb hc hs
  exact lv_aload C.1 C.2.1 d (lh_at hl rfl) (k n0 p e s m args below meth c H A locs cells slots d0 C hd hl hw hS ha hb hc hs)
theorem g_sld4 {x0 x1 x2 x3 : Option Value} {r : List (Option Value)} {x : Nat} (d : decode M.2.1 pc = .ok (.aload 4, 2)) (k : Go G M n1 R h n (pc + 2) (x0 :: x1 :: x2 :: x3 :: some (.ref x) :: r) (.ref x :: st)) : Go G M n1 R h n pc (x0 :: x1 :: x2 :: x3 :: some (.ref x) :: r) st := by
  intro n0 p e s m args below meth c H A locs cells slots d0 C hd hl hw hS ha hb hc hs
  exact lv_aload C.1 C.2.1 d (lh_at hl rfl) (k n0 p e s m args below meth c H A locs cells slots d0 C hd hl hw hS ha hb hc hs)
theorem g_zld4 {x0 x1 x2 x3 : Option Value} {r : List (Option Value)}  (d : decode M.2.1 pc = .ok (.aload 4, 2)) (k : Go G M n1 R h n (pc + 2) (x0 :: x1 :: x2 :: x3 :: some (.null) :: r) (.null :: st)) : Go G M n1 R h n pc (x0 :: x1 :: x2 :: x3 :: some (.null) :: r) st := by
  intro n0 p e s m args below meth c H A locs cells slots d0 C hd hl hw hS ha hb hc hs
  exact lv_aloadN C.1 C.2.1 d (lh_at hl rfl) (k n0 p e s m args below meth c H A locs cells slots d0 C hd hl hw hS ha hb hc hs)
theorem g_ist4 {x0 x1 x2 x3 : Option Value} {r : List (Option Value)} {x : Int32} {y : Option Value} (hi : 4 < M.2.2.1) (d : decode M.2.1 pc = .ok (.istore 4, 2)) (k : Go G M n1 R h n (pc + 2) (x0 :: x1 :: x2 :: x3 :: some (.int x) :: r) st) : Go G M n1 R h n pc (x0 :: x1 :: x2 :: x3 :: y :: r) (.int x :: st) := by
  intro n0 p e s m args below meth c H A locs cells slots d0 C hd hl hw hS ha hb hc hs
  exact lv_istore C.1 C.2.1 d hl.2 hi rfl (fun A2 hA2 => (k n0 p e s m args below meth c H A2 locs cells slots d0 C hd (lh_set (i := 4) hl rfl hA2) hw hS ha hb hc hs))
theorem g_fst4 {x0 x1 x2 x3 : Option Value} {r : List (Option Value)} {x : UInt32} {y : Option Value} (hi : 4 < M.2.2.1) (d : decode M.2.1 pc = .ok (.fstore 4, 2)) (k : Go G M n1 R h n (pc + 2) (x0 :: x1 :: x2 :: x3 :: some (.float x) :: r) st) : Go G M n1 R h n pc (x0 :: x1 :: x2 :: x3 :: y :: r) (.float x :: st) := by
  intro n0 p e s m args below meth c H A locs cells slots d0 C hd hl hw hS ha hb hc hs
  exact lv_fstore C.1 C.2.1 d hl.2 hi rfl (fun A2 hA2 => (k n0 p e s m args below meth c H A2 locs cells slots d0 C hd (lh_set (i := 4) hl rfl hA2) hw hS ha hb hc hs))
theorem g_ast4 {x0 x1 x2 x3 : Option Value} {r : List (Option Value)} {x : Nat} {y : Option Value} (hi : 4 < M.2.2.1) (d : decode M.2.1 pc = .ok (.astore 4, 2)) (k : Go G M n1 R h n (pc + 2) (x0 :: x1 :: x2 :: x3 :: some (ga G x) :: r) st) : Go G M n1 R h n pc (x0 :: x1 :: x2 :: x3 :: y :: r) (ga G x :: st) := by
  intro n0 p e s m args below meth c H A locs cells slots d0 C hd hl hw hS ha hb hc hs
  exact lv_astore C.1 C.2.1 d hl.2 hi rfl (fun A2 hA2 => (k n0 p e s m args below meth c H A2 locs cells slots d0 C hd (lh_set (i := 4) hl rfl hA2) hw hS ha hb hc hs))
theorem g_zst4 {x0 x1 x2 x3 : Option Value} {r : List (Option Value)}  {y : Option Value} (hi : 4 < M.2.2.1) (d : decode M.2.1 pc = .ok (.astore 4, 2)) (k : Go G M n1 R h n (pc + 2) (x0 :: x1 :: x2 :: x3 :: some (.null) :: r) st) : Go G M n1 R h n pc (x0 :: x1 :: x2 :: x3 :: y :: r) (.null :: st) := by
  intro n0 p e s m args below meth c H A locs cells slots d0 C hd hl hw hS ha hb hc hs
  exact lv_astoreN C.1 C.2.1 d hl.2 hi rfl (fun A2 hA2 => (k n0 p e s m args below meth c H A2 locs cells slots d0 C hd (lh_set (i := 4) hl rfl hA2) hw hS ha hb hc hs))
theorem g_iinc4 {x0 x1 x2 x3 : Option Value} {r : List (Option Value)} {x v : Int32} {q : Int} (hi : 4 < M.2.2.1) (d : decode M.2.1 pc = .ok (.iinc 4 q, 3)) (hv : x + Int32.ofInt q = v) (k : Go G M n1 R h n (pc + 3) (x0 :: x1 :: x2 :: x3 :: some (.int v) :: r) st) : Go G M n1 R h n pc (x0 :: x1 :: x2 :: x3 :: some (.int x) :: r) st := by
  intro n0 p e s m args below meth c H A locs cells slots d0 C hd hl hw hS ha hb hc hs
  obtain ⟨j, hj⟩ := List.getElem?_of_mem (al_mem.mpr (show (x0 :: x1 :: x2 :: x3 :: some (.int x) :: r)[4]? = some (some (.int x)) from rfl))
  exact lv_iinc C.1 C.2.1 d hl.2 hj hv hi rfl (fun A2 hA2 => (k n0 p e s m args below meth c H A2 locs cells slots d0 C hd (lh_set (i := 4) hl rfl hA2) hw hS ha hb hc hs))
theorem g_ild5 {x0 x1 x2 x3 x4 : Option Value} {r : List (Option Value)} {x : Int32} (d : decode M.2.1 pc = .ok (.iload 5, 2)) (k : Go G M n1 R h n (pc + 2) (x0 :: x1 :: x2 :: x3 :: x4 :: some (.int x) :: r) (.int x :: st)) : Go G M n1 R h n pc (x0 :: x1 :: x2 :: x3 :: x4 :: some (.int x) :: r) st := by
  intro n0 p e s m args below meth c H A locs cells slots d0 C hd hl hw hS ha hb hc hs
  exact lv_iload C.1 C.2.1 d (lh_at hl rfl) (k n0 p e s m args below meth c H A locs cells slots d0 C hd hl hw hS ha hb hc hs)
theorem g_fld5 {x0 x1 x2 x3 x4 : Option Value} {r : List (Option Value)} {x : UInt32} (d : decode M.2.1 pc = .ok (.fload 5, 2)) (k : Go G M n1 R h n (pc + 2) (x0 :: x1 :: x2 :: x3 :: x4 :: some (.float x) :: r) (.float x :: st)) : Go G M n1 R h n pc (x0 :: x1 :: x2 :: x3 :: x4 :: some (.float x) :: r) st := by
  intro n0 p e s m args below meth c H A locs cells slots d0 C hd hl hw hS ha hb hc hs
  exact lv_fload C.1 C.2.1 d (lh_at hl rfl) (k n0 p e s m args below meth c H A locs cells slots d0 C hd hl hw hS ha hb hc hs)
theorem g_ald5 {x0 x1 x2 x3 x4 : Option Value} {r : List (Option Value)} {x : Nat} (d : decode M.2.1 pc = .ok (.aload 5, 2)) (k : Go G M n1 R h n (pc + 2) (x0 :: x1 :: x2 :: x3 :: x4 :: some (ga G x) :: r) (ga G x :: st)) : Go G M n1 R h n pc (x0 :: x1 :: x2 :: x3 :: x4 :: some (ga G x) :: r) st := by
  intro n0 p e s m args below meth c H A locs cells slots d0 C hd hl hw hS ha hb hc hs
  exact lv_aload C.1 C.2.1 d (lh_at hl rfl) (k n0 p e s m args below meth c H A locs cells slots d0 C hd hl hw hS ha hb hc hs)
theorem g_sld5 {x0 x1 x2 x3 x4 : Option Value} {r : List (Option Value)} {x : Nat} (d : decode M.2.1 pc = .ok (.aload 5, 2)) (k : Go G M n1 R h n (pc + 2) (x0 :: x1 :: x2 :: x3 :: x4 :: some (.ref x) :: r) (.ref x :: st)) : Go G M n1 R h n pc (x0 :: x1 :: x2 :: x3 :: x4 :: some (.ref x) :: r) st := by
  intro n0 p e s m args below meth c H A locs cells slots d0 C hd hl hw hS ha hb hc hs
  exact lv_aload C.1 C.2.1 d (lh_at hl rfl) (k n0 p e s m args below meth c H A locs cells slots d0 C hd hl hw hS ha hb hc hs)
theorem g_zld5 {x0 x1 x2 x3 x4 : Option Value} {r : List (Option Value)}  (d : decode M.2.1 pc = .ok (.aload 5, 2)) (k : Go G M n1 R h n (pc + 2) (x0 :: x1 :: x2 :: x3 :: x4 :: some (.null) :: r) (.null :: st)) : Go G M n1 R h n pc (x0 :: x1 :: x2 :: x3 :: x4 :: some (.null) :: r) st := by
  intro n0 p e s m args below meth c H A locs cells slots d0 C hd hl hw hS ha hb hc hs
  exact lv_aloadN C.1 C.2.1 d (lh_at hl rfl) (k n0 p e s m args below meth c H A locs cells slots d0 C hd hl hw hS ha hb hc hs)
theorem g_ist5 {x0 x1 x2 x3 x4 : Option Value} {r : List (Option Value)} {x : Int32} {y : Option Value} (hi : 5 < M.2.2.1) (d : decode M.2.1 pc = .ok (.istore 5, 2)) (k : Go G M n1 R h n (pc + 2) (x0 :: x1 :: x2 :: x3 :: x4 :: some (.int x) :: r) st) : Go G M n1 R h n pc (x0 :: x1 :: x2 :: x3 :: x4 :: y :: r) (.int x :: st) := by
  intro n0 p e s m args below meth c H A locs cells slots d0 C hd hl hw hS ha hb hc hs
  exact lv_istore C.1 C.2.1 d hl.2 hi rfl (fun A2 hA2 => (k n0 p e s m args below meth c H A2 locs cells slots d0 C hd (lh_set (i := 5) hl rfl hA2) hw hS ha hb hc hs))
theorem g_fst5 {x0 x1 x2 x3 x4 : Option Value} {r : List (Option Value)} {x : UInt32} {y : Option Value} (hi : 5 < M.2.2.1) (d : decode M.2.1 pc = .ok (.fstore 5, 2)) (k : Go G M n1 R h n (pc + 2) (x0 :: x1 :: x2 :: x3 :: x4 :: some (.float x) :: r) st) : Go G M n1 R h n pc (x0 :: x1 :: x2 :: x3 :: x4 :: y :: r) (.float x :: st) := by
  intro n0 p e s m args below meth c H A locs cells slots d0 C hd hl hw hS ha hb hc hs
  exact lv_fstore C.1 C.2.1 d hl.2 hi rfl (fun A2 hA2 => (k n0 p e s m args below meth c H A2 locs cells slots d0 C hd (lh_set (i := 5) hl rfl hA2) hw hS ha hb hc hs))
theorem g_ast5 {x0 x1 x2 x3 x4 : Option Value} {r : List (Option Value)} {x : Nat} {y : Option Value} (hi : 5 < M.2.2.1) (d : decode M.2.1 pc = .ok (.astore 5, 2)) (k : Go G M n1 R h n (pc + 2) (x0 :: x1 :: x2 :: x3 :: x4 :: some (ga G x) :: r) st) : Go G M n1 R h n pc (x0 :: x1 :: x2 :: x3 :: x4 :: y :: r) (ga G x :: st) := by
  intro n0 p e s m args below meth c H A locs cells slots d0 C hd hl hw hS ha hb hc hs
  exact lv_astore C.1 C.2.1 d hl.2 hi rfl (fun A2 hA2 => (k n0 p e s m args below meth c H A2 locs cells slots d0 C hd (lh_set (i := 5) hl rfl hA2) hw hS ha hb hc hs))
theorem g_zst5 {x0 x1 x2 x3 x4 : Option Value} {r : List (Option Value)}  {y : Option Value} (hi : 5 < M.2.2.1) (d : decode M.2.1 pc = .ok (.astore 5, 2)) (k : Go G M n1 R h n (pc + 2) (x0 :: x1 :: x2 :: x3 :: x4 :: some (.null) :: r) st) : Go G M n1 R h n pc (x0 :: x1 :: x2 :: x3 :: x4 :: y :: r) (.null :: st) := by
  intro n0 p e s m args below meth c H A locs cells slots d0 C hd hl hw hS ha hb hc hs
  exact lv_astoreN C.1 C.2.1 d hl.2 hi rfl (fun A2 hA2 => (k n0 p e s m args below meth c H A2 locs cells slots d0 C hd (lh_set (i := 5) hl rfl hA2) hw hS ha hb hc hs))
theorem g_iinc5 {x0 x1 x2 x3 x4 : Option Value} {r : List (Option Value)} {x v : Int32} {q : Int} (hi : 5 < M.2.2.1) (d : decode M.2.1 pc = .ok (.iinc 5 q, 3)) (hv : x + Int32.ofInt q = v) (k : Go G M n1 R h n (pc + 3) (x0 :: x1 :: x2 :: x3 :: x4 :: some (.int v) :: r) st) : Go G M n1 R h n pc (x0 :: x1 :: x2 :: x3 :: x4 :: some (.int x) :: r) st := by
  intro n0 p e s m args below meth c H A locs cells slots d0 C hd hl hw hS ha hb hc hs
  obtain ⟨j, hj⟩ := List.getElem?_of_mem (al_mem.mpr (show (x0 :: x1 :: x2 :: x3 :: x4 :: some (.int x) :: r)[5]? = some (some (.int x)) from rfl))
  exact lv_iinc C.1 C.2.1 d hl.2 hj hv hi rfl (fun A2 hA2 => (k n0 p e s m args below meth c H A2 locs cells slots d0 C hd (lh_set (i := 5) hl rfl hA2) hw hS ha hb hc hs))
theorem g_ild6 {x0 x1 x2 x3 x4 x5 : Option Value} {r : List (Option Value)} {x : Int32} (d : decode M.2.1 pc = .ok (.iload 6, 2)) (k : Go G M n1 R h n (pc + 2) (x0 :: x1 :: x2 :: x3 :: x4 :: x5 :: some (.int x) :: r) (.int x :: st)) : Go G M n1 R h n pc (x0 :: x1 :: x2 :: x3 :: x4 :: x5 :: some (.int x) :: r) st := by
  intro n0 p e s m args below meth c H A locs cells slots d0 C hd hl hw hS ha hb hc hs
  exact lv_iload C.1 C.2.1 d (lh_at hl rfl) (k n0 p e s m args below meth c H A locs cells slots d0 C hd hl hw hS ha hb hc hs)
theorem g_fld6 {x0 x1 x2 x3 x4 x5 : Option Value} {r : List (Option Value)} {x : UInt32} (d : decode M.2.1 pc = .ok (.fload 6, 2)) (k : Go G M n1 R h n (pc + 2) (x0 :: x1 :: x2 :: x3 :: x4 :: x5 :: some (.float x) :: r) (.float x :: st)) : Go G M n1 R h n pc (x0 :: x1 :: x2 :: x3 :: x4 :: x5 :: some (.float x) :: r) st := by
  intro n0 p e s m args below meth c H A locs cells slots d0 C hd hl hw hS ha hb hc hs
  exact lv_fload C.1 C.2.1 d (lh_at hl rfl) (k n0 p e s m args below meth c H A locs cells slots d0 C hd hl hw hS ha hb hc hs)
theorem g_ald6 {x0 x1 x2 x3 x4 x5 : Option Value} {r : List (Option Value)} {x : Nat} (d : decode M.2.1 pc = .ok (.aload 6, 2)) (k : Go G M n1 R h n (pc + 2) (x0 :: x1 :: x2 :: x3 :: x4 :: x5 :: some (ga G x) :: r) (ga G x :: st)) : Go G M n1 R h n pc (x0 :: x1 :: x2 :: x3 :: x4 :: x5 :: some (ga G x) :: r) st := by
  intro n0 p e s m args below meth c H A locs cells slots d0 C hd hl hw hS ha hb hc hs
  exact lv_aload C.1 C.2.1 d (lh_at hl rfl) (k n0 p e s m args below meth c H A locs cells slots d0 C hd hl hw hS ha hb hc hs)
theorem g_sld6 {x0 x1 x2 x3 x4 x5 : Option Value} {r : List (Option Value)} {x : Nat} (d : decode M.2.1 pc = .ok (.aload 6, 2)) (k : Go G M n1 R h n (pc + 2) (x0 :: x1 :: x2 :: x3 :: x4 :: x5 :: some (.ref x) :: r) (.ref x :: st)) : Go G M n1 R h n pc (x0 :: x1 :: x2 :: x3 :: x4 :: x5 :: some (.ref x) :: r) st := by
  intro n0 p e s m args below meth c H A locs cells slots d0 C hd hl hw hS ha hb hc hs
  exact lv_aload C.1 C.2.1 d (lh_at hl rfl) (k n0 p e s m args below meth c H A locs cells slots d0 C hd hl hw hS ha hb hc hs)
theorem g_zld6 {x0 x1 x2 x3 x4 x5 : Option Value} {r : List (Option Value)}  (d : decode M.2.1 pc = .ok (.aload 6, 2)) (k : Go G M n1 R h n (pc + 2) (x0 :: x1 :: x2 :: x3 :: x4 :: x5 :: some (.null) :: r) (.null :: st)) : Go G M n1 R h n pc (x0 :: x1 :: x2 :: x3 :: x4 :: x5 :: some (.null) :: r) st := by
  intro n0 p e s m args below meth c H A locs cells slots d0 C hd hl hw hS ha hb hc hs
  exact lv_aloadN C.1 C.2.1 d (lh_at hl rfl) (k n0 p e s m args below meth c H A locs cells slots d0 C hd hl hw hS ha hb hc hs)
theorem g_ist6 {x0 x1 x2 x3 x4 x5 : Option Value} {r : List (Option Value)} {x : Int32} {y : Option Value} (hi : 6 < M.2.2.1) (d : decode M.2.1 pc = .ok (.istore 6, 2)) (k : Go G M n1 R h n (pc + 2) (x0 :: x1 :: x2 :: x3 :: x4 :: x5 :: some (.int x) :: r) st) : Go G M n1 R h n pc (x0 :: x1 :: x2 :: x3 :: x4 :: x5 :: y :: r) (.int x :: st) := by
  intro n0 p e s m args below meth c H A locs cells slots d0 C hd hl hw hS ha hb hc hs
  exact lv_istore C.1 C.2.1 d hl.2 hi rfl (fun A2 hA2 => (k n0 p e s m args below meth c H A2 locs cells slots d0 C hd (lh_set (i := 6) hl rfl hA2) hw hS ha hb hc hs))
theorem g_fst6 {x0 x1 x2 x3 x4 x5 : Option Value} {r : List (Option Value)} {x : UInt32} {y : Option Value} (hi : 6 < M.2.2.1) (d : decode M.2.1 pc = .ok (.fstore 6, 2)) (k : Go G M n1 R h n (pc + 2) (x0 :: x1 :: x2 :: x3 :: x4 :: x5 :: some (.float x) :: r) st) : Go G M n1 R h n pc (x0 :: x1 :: x2 :: x3 :: x4 :: x5 :: y :: r) (.float x :: st) := by
  intro n0 p e s m args below meth c H A locs cells slots d0 C hd hl hw hS ha hb hc hs
  exact lv_fstore C.1 C.2.1 d hl.2 hi rfl (fun A2 hA2 => (k n0 p e s m args below meth c H A2 locs cells slots d0 C hd (lh_set (i := 6) hl rfl hA2) hw hS ha hb hc hs))
theorem g_ast6 {x0 x1 x2 x3 x4 x5 : Option Value} {r : List (Option Value)} {x : Nat} {y : Option Value} (hi : 6 < M.2.2.1) (d : decode M.2.1 pc = .ok (.astore 6, 2)) (k : Go G M n1 R h n (pc + 2) (x0 :: x1 :: x2 :: x3 :: x4 :: x5 :: some (ga G x) :: r) st) : Go G M n1 R h n pc (x0 :: x1 :: x2 :: x3 :: x4 :: x5 :: y :: r) (ga G x :: st) := by
  intro n0 p e s m args below meth c H A locs cells slots d0 C hd hl hw hS ha hb hc hs
  exact lv_astore C.1 C.2.1 d hl.2 hi rfl (fun A2 hA2 => (k n0 p e s m args below meth c H A2 locs cells slots d0 C hd (lh_set (i := 6) hl rfl hA2) hw hS ha hb hc hs))
theorem g_zst6 {x0 x1 x2 x3 x4 x5 : Option Value} {r : List (Option Value)}  {y : Option Value} (hi : 6 < M.2.2.1) (d : decode M.2.1 pc = .ok (.astore 6, 2)) (k : Go G M n1 R h n (pc + 2) (x0 :: x1 :: x2 :: x3 :: x4 :: x5 :: some (.null) :: r) st) : Go G M n1 R h n pc (x0 :: x1 :: x2 :: x3 :: x4 :: x5 :: y :: r) (.null :: st) := by
  intro n0 p e s m args below meth c H A locs cells slots d0 C hd hl hw hS ha hb hc hs
  exact lv_astoreN C.1 C.2.1 d hl.2 hi rfl (fun A2 hA2 => (k n0 p e s m args below meth c H A2 locs cells slots d0 C hd (lh_set (i := 6) hl rfl hA2) hw hS ha hb hc hs))
theorem g_iinc6 {x0 x1 x2 x3 x4 x5 : Option Value} {r : List (Option Value)} {x v : Int32} {q : Int} (hi : 6 < M.2.2.1) (d : decode M.2.1 pc = .ok (.iinc 6 q, 3)) (hv : x + Int32.ofInt q = v) (k : Go G M n1 R h n (pc + 3) (x0 :: x1 :: x2 :: x3 :: x4 :: x5 :: some (.int v) :: r) st) : Go G M n1 R h n pc (x0 :: x1 :: x2 :: x3 :: x4 :: x5 :: some (.int x) :: r) st := by
  intro n0 p e s m args below meth c H A locs cells slots d0 C hd hl hw hS ha hb hc hs
  obtain ⟨j, hj⟩ := List.getElem?_of_mem (al_mem.mpr (show (x0 :: x1 :: x2 :: x3 :: x4 :: x5 :: some (.int x) :: r)[6]? = some (some (.int x)) from rfl))
  exact lv_iinc C.1 C.2.1 d hl.2 hj hv hi rfl (fun A2 hA2 => (k n0 p e s m args below meth c H A2 locs cells slots d0 C hd (lh_set (i := 6) hl rfl hA2) hw hS ha hb hc hs))
theorem g_ild7 {x0 x1 x2 x3 x4 x5 x6 : Option Value} {r : List (Option Value)} {x : Int32} (d : decode M.2.1 pc = .ok (.iload 7, 2)) (k : Go G M n1 R h n (pc + 2) (x0 :: x1 :: x2 :: x3 :: x4 :: x5 :: x6 :: some (.int x) :: r) (.int x :: st)) : Go G M n1 R h n pc (x0 :: x1 :: x2 :: x3 :: x4 :: x5 :: x6 :: some (.int x) :: r) st := by
  intro n0 p e s m args below meth c H A locs cells slots d0 C hd hl hw hS ha hb hc hs
  exact lv_iload C.1 C.2.1 d (lh_at hl rfl) (k n0 p e s m args below meth c H A locs cells slots d0 C hd hl hw hS ha hb hc hs)
theorem g_fld7 {x0 x1 x2 x3 x4 x5 x6 : Option Value} {r : List (Option Value)} {x : UInt32} (d : decode M.2.1 pc = .ok (.fload 7, 2)) (k : Go G M n1 R h n (pc + 2) (x0 :: x1 :: x2 :: x3 :: x4 :: x5 :: x6 :: some (.float x) :: r) (.float x :: st)) : Go G M n1 R h n pc (x0 :: x1 :: x2 :: x3 :: x4 :: x5 :: x6 :: some (.float x) :: r) st := by
  intro n0 p e s m args below meth c H A locs cells slots d0 C hd hl hw hS ha hb hc hs
  exact lv_fload C.1 C.2.1 d (lh_at hl rfl) (k n0 p e s m args below meth c H A locs cells slots d0 C hd hl hw hS ha hb hc hs)
theorem g_ald7 {x0 x1 x2 x3 x4 x5 x6 : Option Value} {r : List (Option Value)} {x : Nat} (d : decode M.2.1 pc = .ok (.aload 7, 2)) (k : Go G M n1 R h n (pc + 2) (x0 :: x1 :: x2 :: x3 :: x4 :: x5 :: x6 :: some (ga G x) :: r) (ga G x :: st)) : Go G M n1 R h n pc (x0 :: x1 :: x2 :: x3 :: x4 :: x5 :: x6 :: some (ga G x) :: r) st := by
  intro n0 p e s m args below meth c H A locs cells slots d0 C hd hl hw hS ha hb hc hs
  exact lv_aload C.1 C.2.1 d (lh_at hl rfl) (k n0 p e s m args below meth c H A locs cells slots d0 C hd hl hw hS ha hb hc hs)
theorem g_sld7 {x0 x1 x2 x3 x4 x5 x6 : Option Value} {r : List (Option Value)} {x : Nat} (d : decode M.2.1 pc = .ok (.aload 7, 2)) (k : Go G M n1 R h n (pc + 2) (x0 :: x1 :: x2 :: x3 :: x4 :: x5 :: x6 :: some (.ref x) :: r) (.ref x :: st)) : Go G M n1 R h n pc (x0 :: x1 :: x2 :: x3 :: x4 :: x5 :: x6 :: some (.ref x) :: r) st := by
  intro n0 p e s m args below meth c H A locs cells slots d0 C hd hl hw hS ha hb hc hs
  exact lv_aload C.1 C.2.1 d (lh_at hl rfl) (k n0 p e s m args below meth c H A locs cells slots d0 C hd hl hw hS ha hb hc hs)
theorem g_zld7 {x0 x1 x2 x3 x4 x5 x6 : Option Value} {r : List (Option Value)}  (d : decode M.2.1 pc = .ok (.aload 7, 2)) (k : Go G M n1 R h n (pc + 2) (x0 :: x1 :: x2 :: x3 :: x4 :: x5 :: x6 :: some (.null) :: r) (.null :: st)) : Go G M n1 R h n pc (x0 :: x1 :: x2 :: x3 :: x4 :: x5 :: x6 :: some (.null) :: r) st := by
  intro n0 p e s m args below meth c H A locs cells slots d0 C hd hl hw hS ha hb hc hs
  exact lv_aloadN C.1 C.2.1 d (lh_at hl rfl) (k n0 p e s m args below meth c H A locs cells slots d0 C hd hl hw hS ha hb hc hs)
theorem g_ist7 {x0 x1 x2 x3 x4 x5 x6 : Option Value} {r : List (Option Value)} {x : Int32} {y : Option Value} (hi : 7 < M.2.2.1) (d : decode M.2.1 pc = .ok (.istore 7, 2)) (k : Go G M n1 R h n (pc + 2) (x0 :: x1 :: x2 :: x3 :: x4 :: x5 :: x6 :: some (.int x) :: r) st) : Go G M n1 R h n pc (x0 :: x1 :: x2 :: x3 :: x4 :: x5 :: x6 :: y :: r) (.int x :: st) := by
  intro n0 p e s m args below meth c H A locs cells slots d0 C hd hl hw hS ha hb hc hs
  exact lv_istore C.1 C.2.1 d hl.2 hi rfl (fun A2 hA2 => (k n0 p e s m args below meth c H A2 locs cells slots d0 C hd (lh_set (i := 7) hl rfl hA2) hw hS ha hb hc hs))
theorem g_fst7 {x0 x1 x2 x3 x4 x5 x6 : Option Value} {r : List (Option Value)} {x : UInt32} {y : Option Value} (hi : 7 < M.2.2.1) (d : decode M.2.1 pc = .ok (.fstore 7, 2)) (k : Go G M n1 R h n (pc + 2) (x0 :: x1 :: x2 :: x3 :: x4 :: x5 :: x6 :: some (.float x) :: r) st) : Go G M n1 R h n pc (x0 :: x1 :: x2 :: x3 :: x4 :: x5 :: x6 :: y :: r) (.float x :: st) := by
  intro n0 p e s m args below meth c H A locs cells slots d0 C hd hl hw hS ha hb hc hs
  exact lv_fstore C.1 C.2.1 d hl.2 hi rfl (fun A2 hA2 => (k n0 p e s m args below meth c H A2 locs cells slots d0 C hd (lh_set (i := 7) hl rfl hA2) hw hS ha hb hc hs))
theorem g_ast7 {x0 x1 x2 x3 x4 x5 x6 : Option Value} {r : List (Option Value)} {x : Nat} {y : Option Value} (hi : 7 < M.2.2.1) (d : decode M.2.1 pc = .ok (.astore 7, 2)) (k : Go G M n1 R h n (pc + 2) (x0 :: x1 :: x2 :: x3 :: x4 :: x5 :: x6 :: some (ga G x) :: r) st) : Go G M n1 R h n pc (x0 :: x1 :: x2 :: x3 :: x4 :: x5 :: x6 :: y :: r) (ga G x :: st) := by
  intro n0 p e s m args below meth c H A locs cells slots d0 C hd hl hw hS ha hb hc hs
  exact lv_astore C.1 C.2.1 d hl.2 hi rfl (fun A2 hA2 => (k n0 p e s m args below meth c H A2 locs cells slots d0 C hd (lh_set (i := 7) hl rfl hA2) hw hS ha hb hc hs))
theorem g_zst7 {x0 x1 x2 x3 x4 x5 x6 : Option Value} {r : List (Option Value)}  {y : Option Value} (hi : 7 < M.2.2.1) (d : decode M.2.1 pc = .ok (.astore 7, 2)) (k : Go G M n1 R h n (pc + 2) (x0 :: x1 :: x2 :: x3 :: x4 :: x5 :: x6 :: some (.null) :: r) st) : Go G M n1 R h n pc (x0 :: x1 :: x2 :: x3 :: x4 :: x5 :: x6 :: y :: r) (.null :: st) := by
  intro n0 p e s m args below meth c H A locs cells slots d0 C hd hl hw hS ha hb hc hs
  exact lv_astoreN C.1 C.2.1 d hl.2 hi rfl (fun A2 hA2 => (k n0 p e s m args below meth c H A2 locs cells slots d0 C hd (lh_set (i := 7) hl rfl hA2) hw hS ha hb hc hs))
theorem g_iinc7 {x0 x1 x2 x3 x4 x5 x6 : Option Value} {r : List (Option Value)} {x v : Int32} {q : Int} (hi : 7 < M.2.2.1) (d : decode M.2.1 pc = .ok (.iinc 7 q, 3)) (hv : x + Int32.ofInt q = v) (k : Go G M n1 R h n (pc + 3) (x0 :: x1 :: x2 :: x3 :: x4 :: x5 :: x6 :: some (.int v) :: r) st) : Go G M n1 R h n pc (x0 :: x1 :: x2 :: x3 :: x4 :: x5 :: x6 :: some (.int x) :: r) st := by
  intro n0 p e s m args below meth c H A locs cells slots d0 C hd hl hw hS ha hb hc hs
  obtain ⟨j, hj⟩ := List.getElem?_of_mem (al_mem.mpr (show (x0 :: x1 :: x2 :: x3 :: x4 :: x5 :: x6 :: some (.int x) :: r)[7]? = some (some (.int x)) from rfl))
  exact lv_iinc C.1 C.2.1 d hl.2 hj hv hi rfl (fun A2 hA2 => (k n0 p e s m args below meth c H A2 locs cells slots d0 C hd (lh_set (i := 7) hl rfl hA2) hw hS ha hb hc hs))
theorem g_ild8 {x0 x1 x2 x3 x4 x5 x6 x7 : Option Value} {r : List (Option Value)} {x : Int32} (d : decode M.2.1 pc = .ok (.iload 8, 2)) (k : Go G M n1 R h n (pc + 2) (x0 :: x1 :: x2 :: x3 :: x4 :: x5 :: x6 :: x7 :: some (.int x) :: r) (.int x :: st)) : Go G M n1 R h n pc (x0 :: x1 :: x2 :: x3 :: x4 :: x5 :: x6 :: x7 :: some (.int x) :: r) st := by
  intro n0 p e s m args below meth c H A locs cells slots d0 C hd hl hw hS ha hb hc hs
  exact lv_iload C.1 C.2.1 d (lh_at hl rfl) (k n0 p e s m args below meth c H A locs cells slots d0 C hd hl hw hS ha hb hc hs)
theorem g_fld8 {x0 x1 x2 x3 x4 x5 x6 x7 : Option Value} {r : List (Option Value)} {x : UInt32} (d : decode M.2.1 pc = .ok (.fload 8, 2)) (k : Go G M n1 R h n (pc + 2) (x0 :: x1 :: x2 :: x3 :: x4 :: x5 :: x6 :: x7 :: some (.float x) :: r) (.float x :: st)) : Go G M n1 R h n pc (x0 :: x1 :: x2 :: x3 :: x4 :: x5 :: x6 :: x7 :: some (.float x) :: r) st := by
  intro n0 p e s m args below meth c H A locs cells slots d0 C hd hl hw hS ha hb hc hs
  exact lv_fload C.1 C.2.1 d (lh_at hl rfl) (k n0 p e s m args below meth c H A locs cells slots d0 C hd hl hw hS ha hb hc hs)
theorem g_ald8 {x0 x1 x2 x3 x4 x5 x6 x7 : Option Value} {r : List (Option Value)} {x : Nat} (d : decode M.2.1 pc = .ok (.aload 8, 2)) (k : Go G M n1 R h n (pc + 2) (x0 :: x1 :: x2 :: x3 :: x4 :: x5 :: x6 :: x7 :: some (ga G x) :: r) (ga G x :: st)) : Go G M n1 R h n pc (x0 :: x1 :: x2 :: x3 :: x4 :: x5 :: x6 :: x7 :: some (ga G x) :: r) st := by
  intro n0 p e s m args below meth c H A locs cells slots d0 C hd hl hw hS ha hb hc hs
  exact lv_aload C.1 C.2.1 d (lh_at hl rfl) (k n0 p e s m args below meth c H A locs cells slots d0 C hd hl hw hS ha hb hc hs)
theorem g_sld8 {x0 x1 x2 x3 x4 x5 x6 x7 : Option Value} {r : List (Option Value)} {x : Nat} (d : decode M.2.1 pc = .ok (.aload 8, 2)) (k : Go G M n1 R h n (pc + 2) (x0 :: x1 :: x2 :: x3 :: x4 :: x5 :: x6 :: x7 :: some (.ref x) :: r) (.ref x :: st)) : Go G M n1 R h n pc (x0 :: x1 :: x2 :: x3 :: x4 :: x5 :: x6 :: x7 :: some (.ref x) :: r) st := by
  intro n0 p e s m args below meth c H A locs cells slots d0 C hd hl hw hS ha hb hc hs
  exact lv_aload C.1 C.2.1 d (lh_at hl rfl) (k n0 p e s m args below meth c H A locs cells slots d0 C hd hl hw hS ha hb hc hs)
theorem g_zld8 {x0 x1 x2 x3 x4 x5 x6 x7 : Option Value} {r : List (Option Value)}  (d : decode M.2.1 pc = .ok (.aload 8, 2)) (k : Go G M n1 R h n (pc + 2) (x0 :: x1 :: x2 :: x3 :: x4 :: x5 :: x6 :: x7 :: some (.null) :: r) (.null :: st)) : Go G M n1 R h n pc (x0 :: x1 :: x2 :: x3 :: x4 :: x5 :: x6 :: x7 :: some (.null) :: r) st := by
  intro n0 p e s m args below meth c H A locs cells slots d0 C hd hl hw hS ha hb hc hs
  exact lv_aloadN C.1 C.2.1 d (lh_at hl rfl) (k n0 p e s m args below meth c H A locs cells slots d0 C hd hl hw hS ha hb hc hs)
theorem g_ist8 {x0 x1 x2 x3 x4 x5 x6 x7 : Option Value} {r : List (Option Value)} {x : Int32} {y : Option Value} (hi : 8 < M.2.2.1) (d : decode M.2.1 pc = .ok (.istore 8, 2)) (k : Go G M n1 R h n (pc + 2) (x0 :: x1 :: x2 :: x3 :: x4 :: x5 :: x6 :: x7 :: some (.int x) :: r) st) : Go G M n1 R h n pc (x0 :: x1 :: x2 :: x3 :: x4 :: x5 :: x6 :: x7 :: y :: r) (.int x :: st) := by
  intro n0 p e s m args below meth c H A locs cells slots d0 C hd hl hw hS ha hb hc hs
  exact lv_istore C.1 C.2.1 d hl.2 hi rfl (fun A2 hA2 => (k n0 p e s m args below meth c H A2 locs cells slots d0 C hd (lh_set (i := 8) hl rfl hA2) hw hS ha hb hc hs))
theorem g_fst8 {x0 x1 x2 x3 x4 x5 x6 x7 : Option Value} {r : List (Option Value)} {x : UInt32} {y : Option Value} (hi : 8 < M.2.2.1) (d : decode M.2.1 pc = .ok (.fstore 8, 2)) (k : Go G M n1 R h n (pc + 2) (x0 :: x1 :: x2 :: x3 :: x4 :: x5 :: x6 :: x7 :: some (.float x) :: r) st) : Go G M n1 R h n pc (x0 :: x1 :: x2 :: x3 :: x4 :: x5 :: x6 :: x7 :: y :: r) (.float x :: st) := by
  intro n0 p e s m args below meth c H A locs cells slots d0 C hd hl hw hS ha hb hc hs
  exact lv_fstore C.1 C.2.1 d hl.2 hi rfl (fun A2 hA2 => (k n0 p e s m args below meth c H A2 locs cells slots d0 C hd (lh_set (i := 8) hl rfl hA2) hw hS ha hb hc hs))
theorem g_ast8 {x0 x1 x2 x3 x4 x5 x6 x7 : Option Value} {r : List (Option Value)} {x : Nat} {y : Option Value} (hi : 8 < M.2.2.1) (d : decode M.2.1 pc = .ok (.astore 8, 2)) (k : Go G M n1 R h n (pc + 2) (x0 :: x1 :: x2 :: x3 :: x4 :: x5 :: x6 :: x7 :: some (ga G x) :: r) st) : Go G M n1 R h n pc (x0 :: x1 :: x2 :: x3 :: x4 :: x5 :: x6 :: x7 :: y :: r) (ga G x :: st) := by
  intro n0 p e s m args below meth c H A locs cells slots d0 C hd hl hw hS ha hb hc hs
  exact lv_astore C.1 C.2.1 d hl.2 hi rfl (fun A2 hA2 => (k n0 p e s m args below meth c H A2 locs cells slots d0 C hd (lh_set (i := 8) hl rfl hA2) hw hS ha hb hc hs))
theorem g_zst8 {x0 x1 x2 x3 x4 x5 x6 x7 : Option Value} {r : List (Option Value)}  {y : Option Value} (hi : 8 < M.2.2.1) (d : decode M.2.1 pc = .ok (.astore 8, 2)) (k : Go G M n1 R h n (pc + 2) (x0 :: x1 :: x2 :: x3 :: x4 :: x5 :: x6 :: x7 :: some (.null) :: r) st) : Go G M n1 R h n pc (x0 :: x1 :: x2 :: x3 :: x4 :: x5 :: x6 :: x7 :: y :: r) (.null :: st) := by
  intro n0 p e s m args below meth c H A locs cells slots d0 C hd hl hw hS ha hb hc hs
  exact lv_astoreN C.1 C.2.1 d hl.2 hi rfl (fun A2 hA2 => (k n0 p e s m args below meth c H A2 locs cells slots d0 C hd (lh_set (i := 8) hl rfl hA2) hw hS ha hb hc hs))
theorem g_iinc8 {x0 x1 x2 x3 x4 x5 x6 x7 : Option Value} {r : List (Option Value)} {x v : Int32} {q : Int} (hi : 8 < M.2.2.1) (d : decode M.2.1 pc = .ok (.iinc 8 q, 3)) (hv : x + Int32.ofInt q = v) (k : Go G M n1 R h n (pc + 3) (x0 :: x1 :: x2 :: x3 :: x4 :: x5 :: x6 :: x7 :: some (.int v) :: r) st) : Go G M n1 R h n pc (x0 :: x1 :: x2 :: x3 :: x4 :: x5 :: x6 :: x7 :: some (.int x) :: r) st := by
  intro n0 p e s m args below meth c H A locs cells slots d0 C hd hl hw hS ha hb hc hs
  obtain ⟨j, hj⟩ := List.getElem?_of_mem (al_mem.mpr (show (x0 :: x1 :: x2 :: x3 :: x4 :: x5 :: x6 :: x7 :: some (.int x) :: r)[8]? = some (some (.int x)) from rfl))
  exact lv_iinc C.1 C.2.1 d hl.2 hj hv hi rfl (fun A2 hA2 => (k n0 p e s m args below meth c H A2 locs cells slots d0 C hd (lh_set (i := 8) hl rfl hA2) hw hS ha hb hc hs))
theorem g_ild9 {x0 x1 x2 x3 x4 x5 x6 x7 x8 : Option Value} {r : List (Option Value)} {x : Int32} (d : decode M.2.1 pc = .ok (.iload 9, 2)) (k : Go G M n1 R h n (pc + 2) (x0 :: x1 :: x2 :: x3 :: x4 :: x5 :: x6 :: x7 :: x8 :: some (.int x) :: r) (.int x :: st)) : Go G M n1 R h n pc (x0 :: x1 :: x2 :: x3 :: x4 :: x5 :: x6 :: x7 :: x8 :: some (.int x) :: r) st := by
  intro n0 p e s m args below meth c H A locs cells slots d0 C hd hl hw hS ha hb hc hs
  exact lv_iload C.1 C.2.1 d (lh_at hl rfl) (k n0 p e s m args below meth c H A locs cells slots d0 C hd hl hw hS ha hb hc hs)
theorem g_fld9 {x0 x1 x2 x3 x4 x5 x6 x7 x8 : Option Value} {r : List (Option Value)} {x : UInt32} (d : decode M.2.1 pc = .ok (.fload 9, 2)) (k : Go G M n1 R h n (pc + 2) (x0 :: x1 :: x2 :: x3 :: x4 :: x5 :: x6 :: x7 :: x8 :: some (.float x) :: r) (.float x :: st)) : Go G M n1 R h n pc (x0 :: x1 :: x2 :: x3 :: x4 :: x5 :: x6 :: x7 :: x8 :: some (.float x) :: r) st := by
  intro n0 p e s m args below meth c H A locs cells slots d0 C hd hl hw hS ha hb hc hs
  exact lv_fload C.1 C.2.1 d (lh_at hl rfl) (k n0 p e s m args below meth c H A locs cells slots d0 C hd hl hw hS ha hb hc hs)
theorem g_ald9 {x0 x1 x2 x3 x4 x5 x6 x7 x8 : Option Value} {r : List (Option Value)} {x : Nat} (d : decode M.2.1 pc = .ok (.aload 9, 2)) (k : Go G M n1 R h n (pc + 2) (x0 :: x1 :: x2 :: x3 :: x4 :: x5 :: x6 :: x7 :: x8 :: some (ga G x) :: r) (ga G x :: st)) : Go G M n1 R h n pc (x0 :: x1 :: x2 :: x3 :: x4 :: x5 :: x6 :: x7 :: x8 :: some (ga G x) :: r) st := by
  intro n0 p e s m args below meth c H A locs cells slots d0 C hd hl hw hS ha hb hc hs
  exact lv_aload C.1 C.2.1 d (lh_at hl rfl) (k n0 p e s m args below meth c H A locs cells slots d0 C hd hl hw hS ha hb hc hs)
theorem g_sld9 {x0 x1 x2 x3 x4 x5 x6 x7 x8 : Option Value} {r : List (Option Value)} {x : Nat} (d : decode M.2.1 pc = .ok (.aload 9, 2)) (k : Go G M n1 R h n (pc + 2) (x0 :: x1 :: x2 :: x3 :: x4 :: x5 :: x6 :: x7 :: x8 :: some (.ref x) :: r) (.ref x :: st)) : Go G M n1 R h n pc (x0 :: x1 :: x2 :: x3 :: x4 :: x5 :: x6 :: x7 :: x8 :: some (.ref x) :: r) st := by
  intro n0 p e s m args below meth c H A locs cells slots d0 C hd hl hw hS ha hb hc hs
  exact lv_aload C.1 C.2.1 d (lh_at hl rfl) (k n0 p e s m args below meth c H A locs cells slots d0 C hd hl hw hS ha hb hc hs)
theorem g_zld9 {x0 x1 x2 x3 x4 x5 x6 x7 x8 : Option Value} {r : List (Option Value)}  (d : decode M.2.1 pc = .ok (.aload 9, 2)) (k : Go G M n1 R h n (pc + 2) (x0 :: x1 :: x2 :: x3 :: x4 :: x5 :: x6 :: x7 :: x8 :: some (.null) :: r) (.null :: st)) : Go G M n1 R h n pc (x0 :: x1 :: x2 :: x3 :: x4 :: x5 :: x6 :: x7 :: x8 :: some (.null) :: r) st := by
  intro n0 p e s m args below meth c H A locs cells slots d0 C hd hl hw hS ha hb hc hs
  exact lv_aloadN C.1 C.2.1 d (lh_at hl rfl) (k n0 p e s m args below meth c H A locs cells slots d0 C hd hl hw hS ha hb hc hs)
theorem g_ist9 {x0 x1 x2 x3 x4 x5 x6 x7 x8 : Option Value} {r : List (Option Value)} {x : Int32} {y : Option Value} (hi : 9 < M.2.2.1) (d : decode M.2.1 pc = .ok (.istore 9, 2)) (k : Go G M n1 R h n (pc + 2) (x0 :: x1 :: x2 :: x3 :: x4 :: x5 :: x6 :: x7 :: x8 :: some (.int x) :: r) st) : Go G M n1 R h n pc (x0 :: x1 :: x2 :: x3 :: x4 :: x5 :: x6 :: x7 :: x8 :: y :: r) (.int x :: st) := by
  intro n0 p e s m args below meth c H A locs cells slots d0 C hd hl hw hS ha hb hc hs
  exact lv_istore C.1 C.2.1 d hl.2 hi rfl (fun A2 hA2 => (k n0 p e s m args below meth c H A2 locs cells slots d0 C hd (lh_set (i := 9) hl rfl hA2) hw hS ha hb hc hs))
theorem g_fst9 {x0 x1 x2 x3 x4 x5 x6 x7 x8 : Option Value} {r : List (Option Value)} {x : UInt32} {y : Option Value} (hi : 9 < M.2.2.1) (d : decode M.2.1 pc = .ok (.fstore 9, 2)) (k : Go G M n1 R h n (pc + 2) (x0 :: x1 :: x2 :: x3 :: x4 :: x5 :: x6 :: x7 :: x8 :: some (.float x) :: r) st) : Go G M n1 R h n pc (x0 :: x1 :: x2 :: x3 :: x4 :: x5 :: x6 :: x7 :: x8 :: y :: r) (.float x :: st) := by
  intro n0 p e s m args below meth c H A locs cells slots d0 C hd hl hw hS ha hb hc hs
  exact lv_fstore C.1 C.2.1 d hl.2 hi rfl (fun A2 hA2 => (k n0 p e s m args below meth c H A2 locs cells slots d0 C hd (lh_set (i := 9) hl rfl hA2) hw hS ha hb hc hs))
theorem g_ast9 {x0 x1 x2 x3 x4 x5 x6 x7 x8 : Option Value} {r : List (Option Value)} {x : Nat} {y : Option Value} (hi : 9 < M.2.2.1) (d : decode M.2.1 pc = .ok (.astore 9, 2)) (k : Go G M n1 R h n (pc + 2) (x0 :: x1 :: x2 :: x3 :: x4 :: x5 :: x6 :: x7 :: x8 :: some (ga G x) :: r) st) : Go G M n1 R h n pc (x0 :: x1 :: x2 :: x3 :: x4 :: x5 :: x6 :: x7 :: x8 :: y :: r) (ga G x :: st) := by
  intro n0 p e s m args below meth c H A locs cells slots d0 C hd hl hw hS ha hb hc hs
  exact lv_astore C.1 C.2.1 d hl.2 hi rfl (fun A2 hA2 => (k n0 p e s m args below meth c H A2 locs cells slots d0 C hd (lh_set (i := 9) hl rfl hA2) hw hS ha hb hc hs))
theorem g_zst9 {x0 x1 x2 x3 x4 x5 x6 x7 x8 : Option Value} {r : List (Option Value)}  {y : Option Value} (hi : 9 < M.2.2.1) (d : decode M.2.1 pc = .ok (.astore 9, 2)) (k : Go G M n1 R h n (pc + 2) (x0 :: x1 :: x2 :: x3 :: x4 :: x5 :: x6 :: x7 :: x8 :: some (.null) :: r) st) : Go G M n1 R h n pc (x0 :: x1 :: x2 :: x3 :: x4 :: x5 :: x6 :: x7 :: x8 :: y :: r) (.null :: st) := by
  intro n0 p e s m args below meth c H A locs cells slots d0 C hd hl hw hS ha hb hc hs
  exact lv_astoreN C.1 C.2.1 d hl.2 hi rfl (fun A2 hA2 => (k n0 p e s m args below meth c H A2 locs cells slots d0 C hd (lh_set (i := 9) hl rfl hA2) hw hS ha hb hc hs))
theorem g_iinc9 {x0 x1 x2 x3 x4 x5 x6 x7 x8 : Option Value} {r : List (Option Value)} {x v : Int32} {q : Int} (hi : 9 < M.2.2.1) (d : decode M.2.1 pc = .ok (.iinc 9 q, 3)) (hv : x + Int32.ofInt q = v) (k : Go G M n1 R h n (pc + 3) (x0 :: x1 :: x2 :: x3 :: x4 :: x5 :: x6 :: x7 :: x8 :: some (.int v) :: r) st) : Go G M n1 R h n pc (x0 :: x1 :: x2 :: x3 :: x4 :: x5 :: x6 :: x7 :: x8 :: some (.int x) :: r) st := by
  intro n0 p e s m args below meth c H A locs cells slots d0 C hd hl hw hS ha hb hc hs
  obtain ⟨j, hj⟩ := List.getElem?_of_mem (al_mem.mpr (show (x0 :: x1 :: x2 :: x3 :: x4 :: x5 :: x6 :: x7 :: x8 :: some (.int x) :: r)[9]? = some (some (.int x)) from rfl))
  exact lv_iinc C.1 C.2.1 d hl.2 hj hv hi rfl (fun A2 hA2 => (k n0 p e s m args below meth c H A2 locs cells slots d0 C hd (lh_set (i := 9) hl rfl hA2) hw hS ha hb hc hs))
theorem g_ild10 {x0 x1 x2 x3 x4 x5 x6 x7 x8 x9 : Option Value} {r : List (Option Value)} {x : Int32} (d : decode M.2.1 pc = .ok (.iload 10, 2)) (k : Go G M n1 R h n (pc + 2) (x0 :: x1 :: x2 :: x3 :: x4 :: x5 :: x6 :: x7 :: x8 :: x9 :: some (.int x) :: r) (.int x :: st)) : Go G M n1 R h n pc (x0 :: x1 :: x2 :: x3 :: x4 :: x5 :: x6 :: x7 :: x8 :: x9 :: some (.int x) :: r) st := by
  intro n0 p e s m args below meth c H A locs cells slots d0 C hd hl hw hS ha hb hc hs
  exact lv_iload C.1 C.2.1 d (lh_at hl rfl) (k n0 p e s m args below meth c H A locs cells slots d0 C hd hl hw hS ha hb hc hs)
theorem g_fld10 {x0 x1 x2 x3 x4 x5 x6 x7 x8 x9 : Option Value} {r : List (Option Value)} {x : UInt32} (d : decode M.2.1 pc = .ok (.fload 10, 2)) (k : Go G M n1 R h n (pc + 2) (x0 :: x1 :: x2 :: x3 :: x4 :: x5 :: x6 :: x7 :: x8 :: x9 :: some (.float x) :: r) (.float x :: st)) : Go G M n1 R h n pc (x0 :: x1 :: x2 :: x3 :: x4 :: x5 :: x6 :: x7 :: x8 :: x9 :: some (.float x) :: r) st := by
  intro n0 p e s m args below meth c H A locs cells slots d0 C hd hl hw hS ha hb hc hs
  exact lv_fload C.1 C.2.1 d (lh_at hl rfl) (k n0 p e s m args below meth c H A locs cells slots d0 C hd hl hw hS ha hb hc hs)
theorem g_ald10 {x0 x1 x2 x3 x4 x5 x6 x7 x8 x9 : Option Value} {r : List (Option Value)} {x : Nat} (d : decode M.2.1 pc = .ok (.aload 10, 2)) (k : Go G M n1 R h n (pc + 2) (x0 :: x1 :: x2 :: x3 :: x4 :: x5 :: x6 :: x7 :: x8 :: x9 :: some (ga G x) :: r) (ga G x :: st)) : Go G M n1 R h n pc (x0 :: x1 :: x2 :: x3 :: x4 :: x5 :: x6 :: x7 :: x8 :: x9 :: some (ga G x) :: r) st := by
  intro n0 p e s m args below meth c H A locs cells slots d0 C hd hl hw hS ha hb hc hs
  exact lv_aload C.1 C.2.1 d (lh_at hl rfl) (k n0 p e s m args below meth c H A locs cells slots d0 C hd hl hw hS ha hb hc hs)
theorem g_sld10 {x0 x1 x2 x3 x4 x5 x6 x7 x8 x9 : Option Value} {r : List (Option Value)} {x : Nat} (d : decode M.2.1 pc = .ok (.aload 10, 2)) (k : Go G M n1 R h n (pc + 2) (x0 :: x1 :: x2 :: x3 :: x4 :: x5 :: x6 :: x7 :: x8 :: x9 :: some (.ref x) :: r) (.ref x :: st)) : Go G M n1 R h n pc (x0 :: x1 :: x2 :: x3 :: x4 :: x5 :: x6 :: x7 :: x8 :: x9 :: some (.ref x) :: r) st := by
  intro n0 p e s m args below meth c H A locs cells slots d0 C hd hl hw hS ha hb hc hs
  exact lv_aload C.1 C.2.1 d (lh_at hl rfl) (k n0 p e s m args below meth c H A locs cells slots d0 C hd hl hw hS ha hb hc hs)
theorem g_zld10 {x0 x1 x2 x3 x4 x5 x6 x7 x8 x9 : Option Value} {r : List (Option Value)}  (d : decode M.2.1 pc = .ok (.aload 10, 2)) (k : Go G M n1 R h n (pc + 2) (x0 :: x1 :: x2 :: x3 :: x4 :: x5 :: x6 :: x7 :: x8 :: x9 :: some (.null) :: r) (.null :: st)) : Go G M n1 R h n pc (x0 :: x1 :: x2 :: x3 :: x4 :: x5 :: x6 :: x7 :: x8 :: x9 :: some (.null) :: r) st := by
  intro n0 p e s m args below meth c H A locs cells slots d0 C hd hl hw hS ha hb hc hs
  exact lv_aloadN C.1 C.2.1 d (lh_at hl rfl) (k n0 p e s m args below meth c H A locs cells slots d0 C hd hl hw hS ha hb hc hs)
theorem g_ist10 {x0 x1 x2 x3 x4 x5 x6 x7 x8 x9 : Option Value} {r : List (Option Value)} {x : Int32} {y : Option Value} (hi : 10 < M.2.2.1) (d : decode M.2.1 pc = .ok (.istore 10, 2)) (k : Go G M n1 R h n (pc + 2) (x0 :: x1 :: x2 :: x3 :: x4 :: x5 :: x6 :: x7 :: x8 :: x9 :: some (.int x) :: r) st) : Go G M n1 R h n pc (x0 :: x1 :: x2 :: x3 :: x4 :: x5 :: x6 :: x7 :: x8 :: x9 :: y :: r) (.int x :: st) := by
  intro n0 p e s m args below meth c H A locs cells slots d0 C hd hl hw hS ha hb hc hs
  exact lv_istore C.1 C.2.1 d hl.2 hi rfl (fun A2 hA2 => (k n0 p e s m args below meth c H A2 locs cells slots d0 C hd (lh_set (i := 10) hl rfl hA2) hw hS ha hb hc hs))
theorem g_fst10 {x0 x1 x2 x3 x4 x5 x6 x7 x8 x9 : Option Value} {r : List (Option Value)} {x : UInt32} {y : Option Value} (hi : 10 < M.2.2.1) (d : decode M.2.1 pc = .ok (.fstore 10, 2)) (k : Go G M n1 R h n (pc + 2) (x0 :: x1 :: x2 :: x3 :: x4 :: x5 :: x6 :: x7 :: x8 :: x9 :: some (.float x) :: r) st) : Go G M n1 R h n pc (x0 :: x1 :: x2 :: x3 :: x4 :: x5 :: x6 :: x7 :: x8 :: x9 :: y :: r) (.float x :: st) := by
  intro n0 p e s m args below meth c H A locs cells slots d0 C hd hl hw hS ha hb hc hs
  exact lv_fstore C.1 C.2.1 d hl.2 hi rfl (fun A2 hA2 => (k n0 p e s m args below meth c H A2 locs cells slots d0 C hd (lh_set (i := 10) hl rfl hA2) hw hS ha hb hc hs))
theorem g_ast10 {x0 x1 x2 x3 x4 x5 x6 x7 x8 x9 : Option Value} {r : List (Option Value)} {x : Nat} {y : Option Value} (hi : 10 < M.2.2.1) (d : decode M.2.1 pc = .ok (.astore 10, 2)) (k : Go G M n1 R h n (pc + 2) (x0 :: x1 :: x2 :: x3 :: x4 :: x5 :: x6 :: x7 :: x8 :: x9 :: some (ga G x) :: r) st) : Go G M n1 R h n pc (x0 :: x1 :: x2 :: x3 :: x4 :: x5 :: x6 :: x7 :: x8 :: x9 :: y :: r) (ga G x :: st) := by
  intro n0 p e s m args below meth c H A locs cells slots d0 C hd hl hw hS ha hb hc hs
  exact lv_astore C.1 C.2.1 d hl.2 hi rfl (fun A2 hA2 => (k n0 p e s m args below meth c H A2 locs cells slots d0 C hd (lh_set (i := 10) hl rfl hA2) hw hS ha hb hc hs))
theorem g_zst10 {x0 x1 x2 x3 x4 x5 x6 x7 x8 x9 : Option Value} {r : List (Option Value)}  {y : Option Value} (hi : 10 < M.2.2.1) (d : decode M.2.1 pc = .ok (.astore 10, 2)) (k : Go G M n1 R h n (pc + 2) (x0 :: x1 :: x2 :: x3 :: x4 :: x5 :: x6 :: x7 :: x8 :: x9 :: some (.null) :: r) st) : Go G M n1 R h n pc (x0 :: x1 :: x2 :: x3 :: x4 :: x5 :: x6 :: x7 :: x8 :: x9 :: y :: r) (.null :: st) := by
  intro n0 p e s m args below meth c H A locs cells slots d0 C hd hl hw hS ha hb hc hs
  exact lv_astoreN C.1 C.2.1 d hl.2 hi rfl (fun A2 hA2 => (k n0 p e s m args below meth c H A2 locs cells slots d0 C hd (lh_set (i := 10) hl rfl hA2) hw hS ha hb hc hs))
theorem g_iinc10 {x0 x1 x2 x3 x4 x5 x6 x7 x8 x9 : Option Value} {r : List (Option Value)} {x v : Int32} {q : Int} (hi : 10 < M.2.2.1) (d : decode M.2.1 pc = .ok (.iinc 10 q, 3)) (hv : x + Int32.ofInt q = v) (k : Go G M n1 R h n (pc + 3) (x0 :: x1 :: x2 :: x3 :: x4 :: x5 :: x6 :: x7 :: x8 :: x9 :: some (.int v) :: r) st) : Go G M n1 R h n pc (x0 :: x1 :: x2 :: x3 :: x4 :: x5 :: x6 :: x7 :: x8 :: x9 :: some (.int x) :: r) st := by
  intro n0 p e s m args below meth c H A locs cells slots d0 C hd hl hw hS ha hb hc hs
  obtain ⟨j, hj⟩ := List.getElem?_of_mem (al_mem.mpr (show (x0 :: x1 :: x2 :: x3 :: x4 :: x5 :: x6 :: x7 :: x8 :: x9 :: some (.int x) :: r)[10]? = some (some (.int x)) from rfl))
  exact lv_iinc C.1 C.2.1 d hl.2 hj hv hi rfl (fun A2 hA2 => (k n0 p e s m args below meth c H A2 locs cells slots d0 C hd (lh_set (i := 10) hl rfl hA2) hw hS ha hb hc hs))
theorem g_ild11 {x0 x1 x2 x3 x4 x5 x6 x7 x8 x9 x10 : Option Value} {r : List (Option Value)} {x : Int32} (d : decode M.2.1 pc = .ok (.iload 11, 2)) (k : Go G M n1 R h n (pc + 2) (x0 :: x1 :: x2 :: x3 :: x4 :: x5 :: x6 :: x7 :: x8 :: x9 :: x10 :: some (.int x) :: r) (.int x :: st)) : Go G M n1 R h n pc (x0 :: x1 :: x2 :: x3 :: x4 :: x5 :: x6 :: x7 :: x8 :: x9 :: x10 :: some (.int x) :: r) st := by
  intro n0 p e s m args below meth c H A locs cells slots d0 C hd hl hw hS ha hb hc hs
  exact lv_iload C.1 C.2.1 d (lh_at hl rfl) (k n0 p e s m args below meth c H A locs cells slots d0 C hd hl hw hS ha hb hc hs)
theorem g_fld11 {x0 x1 x2 x3 x4 x5 x6 x7 x8 x9 x10 : Option Value} {r : List (Option Value)} {x : UInt32} (d : decode M.2.1 pc = .ok (.fload 11, 2)) (k : Go G M n1 R h n (pc + 2) (x0 :: x1 :: x2 :: x3 :: x4 :: x5 :: x6 :: x7 :: x8 :: x9 :: x10 :: some (.float x) :: r) (.float x :: st)) : Go G M n1 R h n pc (x0 :: x1 :: x2 :: x3 :: x4 :: x5 :: x6 :: x7 :: x8 :: x9 :: x10 :: some (.float x) :: r) st := by
  intro n0 p e s m args below meth c H A locs cells slots d0 C hd hl hw hS ha hb hc hs
  exact lv_fload C.1 C.2.1 d (lh_at hl rfl) (k n0 p e s m args below meth c H A locs cells slots d0 C hd hl hw hS ha hb hc hs)
theorem g_ald11 {x0 x1 x2 x3 x4 x5 x6 x7 x8 x9 x10 : Option Value} {r : List (Option Value)} {x : Nat} (d : decode M.2.1 pc = .ok (.aload 11, 2)) (k : Go G M n1 R h n (pc + 2) (x0 :: x1 :: x2 :: x3 :: x4 :: x5 :: x6 :: x7 :: x8 :: x9 :: x10 :: some (ga G x) :: r) (ga G x :: st)) : Go G M n1 R h n pc (x0 :: x1 :: x2 :: x3 :: x4 :: x5 :: x6 :: x7 :: x8 :: x9 :: x10 :: some (ga G x) :: r) st := by
  intro n0 p e s m args below meth c H A locs cells slots d0 C hd hl hw hS ha hb hc hs
  exact lv_aload C.1 C.2.1 d (lh_at hl rfl) (k n0 p e s m args below meth c H A locs cells slots d0 C hd hl hw hS ha hb hc hs)
theorem g_sld11 {x0 x1 x2 x3 x4 x5 x6 x7 x8 x9 x10 : Option Value} {r : List (Option Value)} {x : Nat} (d : decode M.2.1 pc = .ok (.aload 11, 2)) (k : Go G M n1 R h n (pc + 2) (x0 :: x1 :: x2 :: x3 :: x4 :: x5 :: x6 :: x7 :: x8 :: x9 :: x10 :: some (.ref x) :: r) (.ref x :: st)) : Go G M n1 R h n pc (x0 :: x1 :: x2 :: x3 :: x4 :: x5 :: x6 :: x7 :: x8 :: x9 :: x10 :: some (.ref x) :: r) st := by
  intro n0 p e s m args below meth c H A locs cells slots d0 C hd hl hw hS ha hb hc hs
  exact lv_aload C.1 C.2.1 d (lh_at hl rfl) (k n0 p e s m args below meth c H A locs cells slots d0 C hd hl hw hS ha hb hc hs)
theorem g_zld11 {x0 x1 x2 x3 x4 x5 x6 x7 x8 x9 x10 : Option Value} {r : List (Option Value)}  (d : decode M.2.1 pc = .ok (.aload 11, 2)) (k : Go G M n1 R h n (pc + 2) (x0 :: x1 :: x2 :: x3 :: x4 :: x5 :: x6 :: x7 :: x8 :: x9 :: x10 :: some (.null) :: r) (.null :: st)) : Go G M n1 R h n pc (x0 :: x1 :: x2 :: x3 :: x4 :: x5 :: x6 :: x7 :: x8 :: x9 :: x10 :: some (.null) :: r) st := by
  intro n0 p e s m args below meth c H A locs cells slots d0 C hd hl hw hS ha hb hc hs
  exact lv_aloadN C.1 C.2.1 d (lh_at hl rfl) (k n0 p e s m args below meth c H A locs cells slots d0 C hd hl hw hS ha hb hc hs)
theorem g_ist11 {x0 x1 x2 x3 x4 x5 x6 x7 x8 x9 x10 : Option Value} {r : List (Option Value)} {x : Int32} {y : Option Value} (hi : 11 < M.2.2.1) (d : decode M.2.1 pc = .ok (.istore 11, 2)) (k : Go G M n1 R h n (pc + 2) (x0 :: x1 :: x2 :: x3 :: x4 :: x5 :: x6 :: x7 :: x8 :: x9 :: x10 :: some (.int x) :: r) st) : Go G M n1 R h n pc (x0 :: x1 :: x2 :: x3 :: x4 :: x5 :: x6 :: x7 :: x8 :: x9 :: x10 :: y :: r) (.int x :: st) := by
  intro n0 p e s m args below meth c H A locs cells slots d0 C hd hl hw hS ha hb hc hs
  exact lv_istore C.1 C.2.1 d hl.2 hi rfl (fun A2 hA2 => (k n0 p e s m args below meth c H A2 locs cells slots d0 C hd (lh_set (i := 11) hl rfl hA2) hw hS ha hb hc hs))
theorem g_fst11 {x0 x1 x2 x3 x4 x5 x6 x7 x8 x9 x10 : Option Value} {r : List (Option Value)} {x : UInt32} {y : Option Value} (hi : 11 < M.2.2.1) (d : decode M.2.1 pc = .ok (.fstore 11, 2)) (k : Go G M n1 R h n (pc + 2) (x0 :: x1 :: x2 :: x3 :: x4 :: x5 :: x6 :: x7 :: x8 :: x9 :: x10 :: some (.float x) :: r) st) : Go G M n1 R h n pc (x0 :: x1 :: x2 :: x3 :: x4 :: x5 :: x6 :: x7 :: x8 :: x9 :: x10 :: y :: r) (.float x :: st) := by
  intro n0 p e s m args below meth c H A locs cells slots d0 C hd hl hw hS ha hb hc hs
  exact lv_fstore C.1 C.2.1 d hl.2 hi rfl (fun A2 hA2 => (k n0 p e s m args below meth c H A2 locs cells slots d0 C hd (lh_set (i := 11) hl rfl hA2) hw hS ha hb hc hs))
theorem g_ast11 {x0 x1 x2 x3 x4 x5 x6 x7 x8 x9 x10 : Option Value} {r : List (Option Value)} {x : Nat} {y : Option Value} (hi : 11 < M.2.2.1) (d : decode M.2.1 pc = .ok (.astore 11, 2)) (k : Go G M n1 R h n (pc + 2) (x0 :: x1 :: x2 :: x3 :: x4 :: x5 :: x6 :: x7 :: x8 :: x9 :: x10 :: some (ga G x) :: r) st) : Go G M n1 R h n pc (x0 :: x1 :: x2 :: x3 :: x4 :: x5 :: x6 :: x7 :: x8 :: x9 :: x10 :: y :: r) (ga G x :: st) := by
  intro n0 p e s m args below meth c H A locs cells slots d0 C hd hl hw hS ha hb hc hs
  exact lv_astore C.1 C.2.1 d hl.2 hi rfl (fun A2 hA2 => (k n0 p e s m args below meth c H A2 locs cells slots d0 C hd (lh_set (i := 11) hl rfl hA2) hw hS ha hb hc hs))
theorem g_zst11 {x0 x1 x2 x3 x4 x5 x6 x7 x8 x9 x10 : Option Value} {r : List (Option Value)}  {y : Option Value} (hi : 11 < M.2.2.1) (d : decode M.2.1 pc = .ok (.astore 11, 2)) (k : Go G M n1 R h n (pc + 2) (x0 :: x1 :: x2 :: x3 :: x4 :: x5 :: x6 :: x7 :: x8 :: x9 :: x10 :: some (.null) :: r) st) : Go G M n1 R h n pc (x0 :: x1 :: x2 :: x3 :: x4 :: x5 :: x6 :: x7 :: x8 :: x9 :: x10 :: y :: r) (.null :: st) := by
  intro n0 p e s m args below meth c H A locs cells slots d0 C hd hl hw hS ha hb hc hs
  exact lv_astoreN C.1 C.2.1 d hl.2 hi rfl (fun A2 hA2 => (k n0 p e s m args below meth c H A2 locs cells slots d0 C hd (lh_set (i := 11) hl rfl hA2) hw hS ha hb hc hs))
theorem g_iinc11 {x0 x1 x2 x3 x4 x5 x6 x7 x8 x9 x10 : Option Value} {r : List (Option Value)} {x v : Int32} {q : Int} (hi : 11 < M.2.2.1) (d : decode M.2.1 pc = .ok (.iinc 11 q, 3)) (hv : x + Int32.ofInt q = v) (k : Go G M n1 R h n (pc + 3) (x0 :: x1 :: x2 :: x3 :: x4 :: x5 :: x6 :: x7 :: x8 :: x9 :: x10 :: some (.int v) :: r) st) : Go G M n1 R h n pc (x0 :: x1 :: x2 :: x3 :: x4 :: x5 :: x6 :: x7 :: x8 :: x9 :: x10 :: some (.int x) :: r) st := by
  intro n0 p e s m args below meth c H A locs cells slots d0 C hd hl hw hS ha hb hc hs
  obtain ⟨j, hj⟩ := List.getElem?_of_mem (al_mem.mpr (show (x0 :: x1 :: x2 :: x3 :: x4 :: x5 :: x6 :: x7 :: x8 :: x9 :: x10 :: some (.int x) :: r)[11]? = some (some (.int x)) from rfl))
  exact lv_iinc C.1 C.2.1 d hl.2 hj hv hi rfl (fun A2 hA2 => (k n0 p e s m args below meth c H A2 locs cells slots d0 C hd (lh_set (i := 11) hl rfl hA2) hw hS ha hb hc hs))
theorem g_iadd {x y : Int32} (d : decode M.2.1 pc = .ok (.iadd, 1)) (k : Go G M n1 R h n (pc + 1) ls (.int (x + y) :: st)) : Go G M n1 R h n pc ls (.int y :: .int x :: st) := by
  intro n0 p e s m args below meth c H A locs cells slots d0 C hd hl hw hS ha hb hc hs
  exact lv_iadd C.1 C.2.1 d (k n0 p e s m args below meth c H A locs cells slots d0 C hd hl hw hS ha hb hc hs)
theorem g_iadd_v {x y v : Int32} (d : decode M.2.1 pc = .ok (.iadd, 1)) (hv : x + y = v) (k : Go G M n1 R h n (pc + 1) ls (.int v :: st)) : Go G M n1 R h n pc ls (.int y :: .int x :: st) := by
  intro n0 p e s m args below meth c H A locs cells slots d0 C hd hl hw hS ha hb hc hs
  subst hv
  exact lv_iadd C.1 C.2.1 d (k n0 p e s m args below meth c H A locs cells slots d0 C hd hl hw hS ha hb hc hs)
theorem g_isub {x y : Int32} (d : decode M.2.1 pc = .ok (.isub, 1)) (k : Go G M n1 R h n (pc + 1) ls (.int (x - y) :: st)) : Go G M n1 R h n pc ls (.int y :: .int x :: st) := by
  intro n0 p e s m args below meth c H A locs cells slots d0 C hd hl hw hS ha hb hc hs
  exact lv_isub C.1 C.2.1 d (k n0 p e s m args below meth c H A locs cells slots d0 C hd hl hw hS ha hb hc hs)
theorem g_isub_v {x y v : Int32} (d : decode M.2.1 pc = .ok (.isub, 1)) (hv : x - y = v) (k : Go G M n1 R h n (pc + 1) ls (.int v :: st)) : Go G M n1 R h n pc ls (.int y :: .int x :: st) := by
  intro n0 p e s m args below meth c H A locs cells slots d0 C hd hl hw hS ha hb hc hs
  subst hv
  exact lv_isub C.1 C.2.1 d (k n0 p e s m args below meth c H A locs cells slots d0 C hd hl hw hS ha hb hc hs)
theorem g_imul {x y : Int32} (d : decode M.2.1 pc = .ok (.imul, 1)) (k : Go G M n1 R h n (pc + 1) ls (.int (x * y) :: st)) : Go G M n1 R h n pc ls (.int y :: .int x :: st) := by
  intro n0 p e s m args below meth c H A locs cells slots d0 C hd hl hw hS ha hb hc hs
  exact lv_imul C.1 C.2.1 d (k n0 p e s m args below meth c H A locs cells slots d0 C hd hl hw hS ha hb hc hs)
theorem g_imul_v {x y v : Int32} (d : decode M.2.1 pc = .ok (.imul, 1)) (hv : x * y = v) (k : Go G M n1 R h n (pc + 1) ls (.int v :: st)) : Go G M n1 R h n pc ls (.int y :: .int x :: st) := by
  intro n0 p e s m args below meth c H A locs cells slots d0 C hd hl hw hS ha hb hc hs
  subst hv
  exact lv_imul C.1 C.2.1 d (k n0 p e s m args below meth c H A locs cells slots d0 C hd hl hw hS ha hb hc hs)
theorem g_iand {x y : Int32} (d : decode M.2.1 pc = .ok (.iand, 1)) (k : Go G M n1 R h n (pc + 1) ls (.int (x &&& y) :: st)) : Go G M n1 R h n pc ls (.int y :: .int x :: st) := by
  intro n0 p e s m args below meth c H A locs cells slots d0 C hd hl hw hS ha hb hc hs
  exact lv_iand C.1 C.2.1 d (k n0 p e s m args below meth c H A locs cells slots d0 C hd hl hw hS ha hb hc hs)
theorem g_iand_v {x y v : Int32} (d : decode M.2.1 pc = .ok (.iand, 1)) (hv : x &&& y = v) (k : Go G M n1 R h n (pc + 1) ls (.int v :: st)) : Go G M n1 R h n pc ls (.int y :: .int x :: st) := by
  intro n0 p e s m args below meth c H A locs cells slots d0 C hd hl hw hS ha hb hc hs
  subst hv
  exact lv_iand C.1 C.2.1 d (k n0 p e s m args below meth c H A locs cells slots d0 C hd hl hw hS ha hb hc hs)
theorem g_ior {x y : Int32} (d : decode M.2.1 pc = .ok (.ior, 1)) (k : Go G M n1 R h n (pc + 1) ls (.int (x ||| y) :: st)) : Go G M n1 R h n pc ls (.int y :: .int x :: st) := by
  intro n0 p e s m args below meth c H A locs cells slots d0 C hd hl hw hS ha hb hc hs
  exact lv_ior C.1 C.2.1 d (k n0 p e s m args below meth c H A locs cells slots d0 C hd hl hw hS ha hb hc hs)
theorem g_ior_v {x y v : Int32} (d : decode M.2.1 pc = .ok (.ior, 1)) (hv : x ||| y = v) (k : Go G M n1 R h n (pc + 1) ls (.int v :: st)) : Go G M n1 R h n pc ls (.int y :: .int x :: st) := by
  intro n0 p e s m args below meth c H A locs cells slots d0 C hd hl hw hS ha hb hc hs
  subst hv
  exact lv_ior C.1 C.2.1 d (k n0 p e s m args below meth c H A locs cells slots d0 C hd hl hw hS ha hb hc hs)
theorem g_ishl {x y : Int32} (d : decode M.2.1 pc = .ok (.ishl, 1)) (k : Go G M n1 R h n (pc + 1) ls (.int (x <<< (y &&& 31)) :: st)) : Go G M n1 R h n pc ls (.int y :: .int x :: st) := by
  intro n0 p e s m args below meth c H A locs cells slots d0 C hd hl hw hS ha hb hc hs
  exact lv_ishl C.1 C.2.1 d (k n0 p e s m args below meth c H A locs cells slots d0 C hd hl hw hS ha hb hc hs)
theorem g_ishl_v {x y v : Int32} (d : decode M.2.1 pc = .ok (.ishl, 1)) (hv : x <<< (y &&& 31) = v) (k : Go G M n1 R h n (pc + 1) ls (.int v :: st)) : Go G M n1 R h n pc ls (.int y :: .int x :: st) := by
  intro n0 p e s m args below meth c H A locs cells slots d0 C hd hl hw hS ha hb hc hs
  subst hv
  exact lv_ishl C.1 C.2.1 d (k n0 p e s m args below meth c H A locs cells slots d0 C hd hl hw hS ha hb hc hs)
theorem g_ishr {x y : Int32} (d : decode M.2.1 pc = .ok (.ishr, 1)) (k : Go G M n1 R h n (pc + 1) ls (.int (x >>> (y &&& 31)) :: st)) : Go G M n1 R h n pc ls (.int y :: .int x :: st) := by
  intro n0 p e s m args below meth c H A locs cells slots d0 C hd hl hw hS ha hb hc hs
  exact lv_ishr C.1 C.2.1 d (k n0 p e s m args below meth c H A locs cells slots d0 C hd hl hw hS ha hb hc hs)
theorem g_ishr_v {x y v : Int32} (d : decode M.2.1 pc = .ok (.ishr, 1)) (hv : x >>> (y &&& 31) = v) (k : Go G M n1 R h n (pc + 1) ls (.int v :: st)) : Go G M n1 R h n pc ls (.int y :: .int x :: st) := by
  intro n0 p e s m args below meth c H A locs cells slots d0 C hd hl hw hS ha hb hc hs
  subst hv
  exact lv_ishr C.1 C.2.1 d (k n0 p e s m args below meth c H A locs cells slots d0 C hd hl hw hS ha hb hc hs)
theorem g_iadd_n {a b : Nat} (d : decode M.2.1 pc = .ok (.iadd, 1)) (k : Go G M n1 R h n (pc + 1) ls (.int (nI (a + b)) :: st)) : Go G M n1 R h n pc ls (.int (nI b) :: .int (nI a) :: st) := g_iadd_v d (nI_add a b) k
theorem g_imul_n {a b : Nat} (d : decode M.2.1 pc = .ok (.imul, 1)) (k : Go G M n1 R h n (pc + 1) ls (.int (nI (a * b)) :: st)) : Go G M n1 R h n pc ls (.int (nI b) :: .int (nI a) :: st) := g_imul_v d (pk_mul a b) k
theorem g_iushr {x y v : Int32} (d : decode M.2.1 pc = .ok (.iushr, 1)) (hv : (x.toUInt32 >>> (y.toUInt32 &&& Int32.toUInt32 31)).toInt32 = v) (k : Go G M n1 R h n (pc + 1) ls (.int v :: st)) : Go G M n1 R h n pc ls (.int y :: .int x :: st) := by
  intro n0 p e s m args below meth c H A locs cells slots d0 C hd hl hw hS ha hb hc hs
  exact lv_iushr C.1 C.2.1 d hv (k n0 p e s m args below meth c H A locs cells slots d0 C hd hl hw hS ha hb hc hs)
theorem g_irem {x y v : Int32} (d : decode M.2.1 pc = .ok (.irem, 1)) (hne : ¬ y = 0) (hv : x - x / y * y = v) (k : Go G M n1 R h n (pc + 1) ls (.int v :: st)) : Go G M n1 R h n pc ls (.int y :: .int x :: st) := by
  intro n0 p e s m args below meth c H A locs cells slots d0 C hd hl hw hS ha hb hc hs
  subst hv
  exact lv_irem C.1 C.2.1 d hne (k n0 p e s m args below meth c H A locs cells slots d0 C hd hl hw hS ha hb hc hs)
theorem g_ineg {x : Int32} (d : decode M.2.1 pc = .ok (.ineg, 1)) (k : Go G M n1 R h n (pc + 1) ls (.int (-x) :: st)) : Go G M n1 R h n pc ls (.int x :: st) := by
  intro n0 p e s m args below meth c H A locs cells slots d0 C hd hl hw hS ha hb hc hs
  exact lv_ineg C.1 C.2.1 d (k n0 p e s m args below meth c H A locs cells slots d0 C hd hl hw hS ha hb hc hs)
theorem g_dup {v : Value} (d : decode M.2.1 pc = .ok (.dup, 1)) (hv : v.category = 1) (k : Go G M n1 R h n (pc + 1) ls (v :: v :: st)) : Go G M n1 R h n pc ls (v :: st) := by
  intro n0 p e s m args below meth c H A locs cells slots d0 C hd hl hw hS ha hb hc hs
  exact lv_dup C.1 C.2.1 d hv (k n0 p e s m args below meth c H A locs cells slots d0 C hd hl hw hS ha hb hc hs)
theorem g_dup_x1 {v w : Value} (d : decode M.2.1 pc = .ok (.dup_x1, 1)) (hv : v.category = 1) (hx : w.category = 1) (k : Go G M n1 R h n (pc + 1) ls (v :: w :: v :: st)) : Go G M n1 R h n pc ls (v :: w :: st) := by
  intro n0 p e s m args below meth c H A locs cells slots d0 C hd hl hw hS ha hb hc hs
  exact lv_dup_x1 C.1 C.2.1 d hv hx (k n0 p e s m args below meth c H A locs cells slots d0 C hd hl hw hS ha hb hc hs)
theorem g_dup2 {v w : Value} (d : decode M.2.1 pc = .ok (.dup2, 1)) (hv : v.category = 1) (hx : w.category = 1) (k : Go G M n1 R h n (pc + 1) ls (v :: w :: v :: w :: st)) : Go G M n1 R h n pc ls (v :: w :: st) := by
  intro n0 p e s m args below meth c H A locs cells slots d0 C hd hl hw hS ha hb hc hs
  exact lv_dup2_11 C.1 C.2.1 d hv hx (k n0 p e s m args below meth c H A locs cells slots d0 C hd hl hw hS ha hb hc hs)
theorem g_pop {v : Value} (d : decode M.2.1 pc = .ok (.pop, 1)) (hv : v.category = 1) (k : Go G M n1 R h n (pc + 1) ls st) : Go G M n1 R h n pc ls (v :: st) := by
  intro n0 p e s m args below meth c H A locs cells slots d0 C hd hl hw hS ha hb hc hs
  exact lv_pop C.1 C.2.1 d hv (k n0 p e s m args below meth c H A locs cells slots d0 C hd hl hw hS ha hb hc hs)
theorem g_if_eq {x : Int32} {off : Int} {tgt : Nat} (d : decode M.2.1 pc = .ok (.ifCond .eq off, 3)) (ht : (pc : Int) + off = (tgt : Int)) (kt : x = 0 → Go G M n1 R h n tgt ls st) (kf : ¬ (x = 0) → Go G M n1 R h n (pc + 3) ls st) : Go G M n1 R h n pc ls (.int x :: st) := by
  intro n0 p e s m args below meth c H A locs cells slots d0 C hd hl hw hS ha hb hc hs
  exact lv_if_eq C.1 C.2.1 d ht (fun q => (kt q n0 p e s m args below meth c H A locs cells slots d0 C hd hl hw hS ha hb hc hs)) (fun q => (kf q n0 p e s m args below meth c H A locs cells slots d0 C hd hl hw hS ha hb hc hs))
theorem g_if_eq_t {x : Int32} {off : Int} {tgt : Nat} (d : decode M.2.1 pc = .ok (.ifCond .eq off, 3)) (ht : (pc : Int) + off = (tgt : Int)) (q : x = 0) (k : Go G M n1 R h n tgt ls st) : Go G M n1 R h n pc ls (.int x :: st) := g_if_eq d ht (fun _ => k) (fun z => absurd q z)
theorem g_if_eq_f {x : Int32} {off : Int} {tgt : Nat} (d : decode M.2.1 pc = .ok (.ifCond .eq off, 3)) (ht : (pc : Int) + off = (tgt : Int)) (q : ¬ (x = 0)) (k : Go G M n1 R h n (pc + 3) ls st) : Go G M n1 R h n pc ls (.int x :: st) := g_if_eq d ht (fun z => absurd z q) (fun _ => k)
theorem g_icmp_eq {x y : Int32} {off : Int} {tgt : Nat} (d : decode M.2.1 pc = .ok (.if_icmp .eq off, 3)) (ht : (pc : Int) + off = (tgt : Int)) (kt : x = y → Go G M n1 R h n tgt ls st) (kf : ¬ (x = y) → Go G M n1 R h n (pc + 3) ls st) : Go G M n1 R h n pc ls (.int y :: .int x :: st) := by
  intro n0 p e s m args below meth c H A locs cells slots d0 C hd hl hw hS ha hb hc hs
  exact lv_icmp_eq C.1 C.2.1 d ht (fun q => (kt q n0 p e s m args below meth c H A locs cells slots d0 C hd hl hw hS ha hb hc hs)) (fun q => (kf q n0 p e s m args below meth c H A locs cells slots d0 C hd hl hw hS ha hb hc hs))
theorem g_icmp_eq_t {x y : Int32} {off : Int} {tgt : Nat} (d : decode M.2.1 pc = .ok (.if_icmp .eq off, 3)) (ht : (pc : Int) + off = (tgt : Int)) (q : x = y) (k : Go G M n1 R h n tgt ls st) : Go G M n1 R h n pc ls (.int y :: .int x :: st) := g_icmp_eq d ht (fun _ => k) (fun z => absurd q z)
theorem g_icmp_eq_f {x y : Int32} {off : Int} {tgt : Nat} (d : decode M.2.1 pc = .ok (.if_icmp .eq off, 3)) (ht : (pc : Int) + off = (tgt : Int)) (q : ¬ (x = y)) (k : Go G M n1 R h n (pc + 3) ls st) : Go G M n1 R h n pc ls (.int y :: .int x :: st) := g_icmp_eq d ht (fun z => absurd z q) (fun _ => k)
theorem g_if_ne {x : Int32} {off : Int} {tgt : Nat} (d : decode M.2.1 pc = .ok (.ifCond .ne off, 3)) (ht : (pc : Int) + off = (tgt : Int)) (kt : ¬ x = 0 → Go G M n1 R h n tgt ls st) (kf : x = 0 → Go G M n1 R h n (pc + 3) ls st) : Go G M n1 R h n pc ls (.int x :: st) := by
  intro n0 p e s m args below meth c H A locs cells slots d0 C hd hl hw hS ha hb hc hs
  exact lv_if_ne C.1 C.2.1 d ht (fun q => (kt q n0 p e s m args below meth c H A locs cells slots d0 C hd hl hw hS ha hb hc hs)) (fun q => (kf q n0 p e s m args below meth c H A locs cells slots d0 C hd hl hw hS ha hb hc hs))
theorem g_if_ne_t {x : Int32} {off : Int} {tgt : Nat} (d : decode M.2.1 pc = .ok (.ifCond .ne off, 3)) (ht : (pc : Int) + off = (tgt : Int)) (q : ¬ x = 0) (k : Go G M n1 R h n tgt ls st) : Go G M n1 R h n pc ls (.int x :: st) := g_if_ne d ht (fun _ => k) (fun z => absurd z q)
theorem g_if_ne_f {x : Int32} {off : Int} {tgt : Nat} (d : decode M.2.1 pc = .ok (.ifCond .ne off, 3)) (ht : (pc : Int) + off = (tgt : Int)) (q : x = 0) (k : Go G M n1 R h n (pc + 3) ls st) : Go G M n1 R h n pc ls (.int x :: st) := g_if_ne d ht (fun z => absurd q z) (fun _ => k)
theorem g_icmp_ne {x y : Int32} {off : Int} {tgt : Nat} (d : decode M.2.1 pc = .ok (.if_icmp .ne off, 3)) (ht : (pc : Int) + off = (tgt : Int)) (kt : ¬ x = y → Go G M n1 R h n tgt ls st) (kf : x = y → Go G M n1 R h n (pc + 3) ls st) : Go G M n1 R h n pc ls (.int y :: .int x :: st) := by
  intro n0 p e s m args below meth c H A locs cells slots d0 C hd hl hw hS ha hb hc hs
  exact lv_icmp_ne C.1 C.2.1 d ht (fun q => (kt q n0 p e s m args below meth c H A locs cells slots d0 C hd hl hw hS ha hb hc hs)) (fun q => (kf q n0 p e s m args below meth c H A locs cells slots d0 C hd hl hw hS ha hb hc hs))
theorem g_icmp_ne_t {x y : Int32} {off : Int} {tgt : Nat} (d : decode M.2.1 pc = .ok (.if_icmp .ne off, 3)) (ht : (pc : Int) + off = (tgt : Int)) (q : ¬ x = y) (k : Go G M n1 R h n tgt ls st) : Go G M n1 R h n pc ls (.int y :: .int x :: st) := g_icmp_ne d ht (fun _ => k) (fun z => absurd z q)
theorem g_icmp_ne_f {x y : Int32} {off : Int} {tgt : Nat} (d : decode M.2.1 pc = .ok (.if_icmp .ne off, 3)) (ht : (pc : Int) + off = (tgt : Int)) (q : x = y) (k : Go G M n1 R h n (pc + 3) ls st) : Go G M n1 R h n pc ls (.int y :: .int x :: st) := g_icmp_ne d ht (fun z => absurd q z) (fun _ => k)
theorem g_if_lt {x : Int32} {off : Int} {tgt : Nat} (d : decode M.2.1 pc = .ok (.ifCond .lt off, 3)) (ht : (pc : Int) + off = (tgt : Int)) (kt : x < 0 → Go G M n1 R h n tgt ls st) (kf : ¬ (x < 0) → Go G M n1 R h n (pc + 3) ls st) : Go G M n1 R h n pc ls (.int x :: st) := by
  intro n0 p e s m args below meth c H A locs cells slots d0 C hd hl hw hS ha hb hc hs
  exact lv_if_lt C.1 C.2.1 d ht (fun q => (kt q n0 p e s m args below meth c H A locs cells slots d0 C hd hl hw hS ha hb hc hs)) (fun q => (kf q n0 p e s m args below meth c H A locs cells slots d0 C hd hl hw hS ha hb hc hs))
theorem g_if_lt_t {x : Int32} {off : Int} {tgt : Nat} (d : decode M.2.1 pc = .ok (.ifCond .lt off, 3)) (ht : (pc : Int) + off = (tgt : Int)) (q : x < 0) (k : Go G M n1 R h n tgt ls st) : Go G M n1 R h n pc ls (.int x :: st) := g_if_lt d ht (fun _ => k) (fun z => absurd q z)
theorem g_if_lt_f {x : Int32} {off : Int} {tgt : Nat} (d : decode M.2.1 pc = .ok (.ifCond .lt off, 3)) (ht : (pc : Int) + off = (tgt : Int)) (q : ¬ (x < 0)) (k : Go G M n1 R h n (pc + 3) ls st) : Go G M n1 R h n pc ls (.int x :: st) := g_if_lt d ht (fun z => absurd z q) (fun _ => k)
theorem g_icmp_lt {x y : Int32} {off : Int} {tgt : Nat} (d : decode M.2.1 pc = .ok (.if_icmp .lt off, 3)) (ht : (pc : Int) + off = (tgt : Int)) (kt : x < y → Go G M n1 R h n tgt ls st) (kf : ¬ (x < y) → Go G M n1 R h n (pc + 3) ls st) : Go G M n1 R h n pc ls (.int y :: .int x :: st) := by
  intro n0 p e s m args below meth c H A locs cells slots d0 C hd hl hw hS ha hb hc hs
  exact lv_icmp_lt C.1 C.2.1 d ht (fun q => (kt q n0 p e s m args below meth c H A locs cells slots d0 C hd hl hw hS ha hb hc hs)) (fun q => (kf q n0 p e s m args below meth c H A locs cells slots d0 C hd hl hw hS ha hb hc hs))
theorem g_icmp_lt_t {x y : Int32} {off : Int} {tgt : Nat} (d : decode M.2.1 pc = .ok (.if_icmp .lt off, 3)) (ht : (pc : Int) + off = (tgt : Int)) (q : x < y) (k : Go G M n1 R h n tgt ls st) : Go G M n1 R h n pc ls (.int y :: .int x :: st) := g_icmp_lt d ht (fun _ => k) (fun z => absurd q z)
theorem g_icmp_lt_f {x y : Int32} {off : Int} {tgt : Nat} (d : decode M.2.1 pc = .ok (.if_icmp .lt off, 3)) (ht : (pc : Int) + off = (tgt : Int)) (q : ¬ (x < y)) (k : Go G M n1 R h n (pc + 3) ls st) : Go G M n1 R h n pc ls (.int y :: .int x :: st) := g_icmp_lt d ht (fun z => absurd z q) (fun _ => k)
theorem g_if_ge {x : Int32} {off : Int} {tgt : Nat} (d : decode M.2.1 pc = .ok (.ifCond .ge off, 3)) (ht : (pc : Int) + off = (tgt : Int)) (kt : 0 ≤ x → Go G M n1 R h n tgt ls st) (kf : ¬ (0 ≤ x) → Go G M n1 R h n (pc + 3) ls st) : Go G M n1 R h n pc ls (.int x :: st) := by
  intro n0 p e s m args below meth c H A locs cells slots d0 C hd hl hw hS ha hb hc hs
  exact lv_if_ge C.1 C.2.1 d ht (fun q => (kt q n0 p e s m args below meth c H A locs cells slots d0 C hd hl hw hS ha hb hc hs)) (fun q => (kf q n0 p e s m args below meth c H A locs cells slots d0 C hd hl hw hS ha hb hc hs))
theorem g_if_ge_t {x : Int32} {off : Int} {tgt : Nat} (d : decode M.2.1 pc = .ok (.ifCond .ge off, 3)) (ht : (pc : Int) + off = (tgt : Int)) (q : 0 ≤ x) (k : Go G M n1 R h n tgt ls st) : Go G M n1 R h n pc ls (.int x :: st) := g_if_ge d ht (fun _ => k) (fun z => absurd q z)
theorem g_if_ge_f {x : Int32} {off : Int} {tgt : Nat} (d : decode M.2.1 pc = .ok (.ifCond .ge off, 3)) (ht : (pc : Int) + off = (tgt : Int)) (q : ¬ (0 ≤ x)) (k : Go G M n1 R h n (pc + 3) ls st) : Go G M n1 R h n pc ls (.int x :: st) := g_if_ge d ht (fun z => absurd z q) (fun _ => k)
theorem g_icmp_ge {x y : Int32} {off : Int} {tgt : Nat} (d : decode M.2.1 pc = .ok (.if_icmp .ge off, 3)) (ht : (pc : Int) + off = (tgt : Int)) (kt : y ≤ x → Go G M n1 R h n tgt ls st) (kf : ¬ (y ≤ x) → Go G M n1 R h n (pc + 3) ls st) : Go G M n1 R h n pc ls (.int y :: .int x :: st) := by
  intro n0 p e s m args below meth c H A locs cells slots d0 C hd hl hw hS ha hb hc hs
  exact lv_icmp_ge C.1 C.2.1 d ht (fun q => (kt q n0 p e s m args below meth c H A locs cells slots d0 C hd hl hw hS ha hb hc hs)) (fun q => (kf q n0 p e s m args below meth c H A locs cells slots d0 C hd hl hw hS ha hb hc hs))
theorem g_icmp_ge_t {x y : Int32} {off : Int} {tgt : Nat} (d : decode M.2.1 pc = .ok (.if_icmp .ge off, 3)) (ht : (pc : Int) + off = (tgt : Int)) (q : y ≤ x) (k : Go G M n1 R h n tgt ls st) : Go G M n1 R h n pc ls (.int y :: .int x :: st) := g_icmp_ge d ht (fun _ => k) (fun z => absurd q z)
theorem g_icmp_ge_f {x y : Int32} {off : Int} {tgt : Nat} (d : decode M.2.1 pc = .ok (.if_icmp .ge off, 3)) (ht : (pc : Int) + off = (tgt : Int)) (q : ¬ (y ≤ x)) (k : Go G M n1 R h n (pc + 3) ls st) : Go G M n1 R h n pc ls (.int y :: .int x :: st) := g_icmp_ge d ht (fun z => absurd z q) (fun _ => k)
theorem g_if_gt {x : Int32} {off : Int} {tgt : Nat} (d : decode M.2.1 pc = .ok (.ifCond .gt off, 3)) (ht : (pc : Int) + off = (tgt : Int)) (kt : 0 < x → Go G M n1 R h n tgt ls st) (kf : ¬ (0 < x) → Go G M n1 R h n (pc + 3) ls st) : Go G M n1 R h n pc ls (.int x :: st) := by
  intro n0 p e s m args below meth c H A locs cells slots d0 C hd hl hw hS ha hb hc hs
  exact lv_if_gt C.1 C.2.1 d ht (fun q => (kt q n0 p e s m args below meth c H A locs cells slots d0 C hd hl hw hS ha hb hc hs)) (fun q => (kf q n0 p e s m args below meth c H A locs cells slots d0 C hd hl hw hS ha hb hc hs))
theorem g_if_gt_t {x : Int32} {off : Int} {tgt : Nat} (d : decode M.2.1 pc = .ok (.ifCond .gt off, 3)) (ht : (pc : Int) + off = (tgt : Int)) (q : 0 < x) (k : Go G M n1 R h n tgt ls st) : Go G M n1 R h n pc ls (.int x :: st) := g_if_gt d ht (fun _ => k) (fun z => absurd q z)
theorem g_if_gt_f {x : Int32} {off : Int} {tgt : Nat} (d : decode M.2.1 pc = .ok (.ifCond .gt off, 3)) (ht : (pc : Int) + off = (tgt : Int)) (q : ¬ (0 < x)) (k : Go G M n1 R h n (pc + 3) ls st) : Go G M n1 R h n pc ls (.int x :: st) := g_if_gt d ht (fun z => absurd z q) (fun _ => k)
theorem g_icmp_gt {x y : Int32} {off : Int} {tgt : Nat} (d : decode M.2.1 pc = .ok (.if_icmp .gt off, 3)) (ht : (pc : Int) + off = (tgt : Int)) (kt : y < x → Go G M n1 R h n tgt ls st) (kf : ¬ (y < x) → Go G M n1 R h n (pc + 3) ls st) : Go G M n1 R h n pc ls (.int y :: .int x :: st) := by
  intro n0 p e s m args below meth c H A locs cells slots d0 C hd hl hw hS ha hb hc hs
  exact lv_icmp_gt C.1 C.2.1 d ht (fun q => (kt q n0 p e s m args below meth c H A locs cells slots d0 C hd hl hw hS ha hb hc hs)) (fun q => (kf q n0 p e s m args below meth c H A locs cells slots d0 C hd hl hw hS ha hb hc hs))
theorem g_icmp_gt_t {x y : Int32} {off : Int} {tgt : Nat} (d : decode M.2.1 pc = .ok (.if_icmp .gt off, 3)) (ht : (pc : Int) + off = (tgt : Int)) (q : y < x) (k : Go G M n1 R h n tgt ls st) : Go G M n1 R h n pc ls (.int y :: .int x :: st) := g_icmp_gt d ht (fun _ => k) (fun z => absurd q z)
theorem g_icmp_gt_f {x y : Int32} {off : Int} {tgt : Nat} (d : decode M.2.1 pc = .ok (.if_icmp .gt off, 3)) (ht : (pc : Int) + off = (tgt : Int)) (q : ¬ (y < x)) (k : Go G M n1 R h n (pc + 3) ls st) : Go G M n1 R h n pc ls (.int y :: .int x :: st) := g_icmp_gt d ht (fun z => absurd z q) (fun _ => k)
theorem g_if_le {x : Int32} {off : Int} {tgt : Nat} (d : decode M.2.1 pc = .ok (.ifCond .le off, 3)) (ht : (pc : Int) + off = (tgt : Int)) (kt : x ≤ 0 → Go G M n1 R h n tgt ls st) (kf : ¬ (x ≤ 0) → Go G M n1 R h n (pc + 3) ls st) : Go G M n1 R h n pc ls (.int x :: st) := by
  intro n0 p e s m args below meth c H A locs cells slots d0 C hd hl hw hS ha hb hc hs
  exact lv_if_le C.1 C.2.1 d ht (fun q => (kt q n0 p e s m args below meth c H A locs cells slots d0 C hd hl hw hS ha hb hc hs)) (fun q => (kf q n0 p e s m args below meth c H A locs cells slots d0 C hd hl hw hS ha hb hc hs))
theorem g_if_le_t {x : Int32} {off : Int} {tgt : Nat} (d : decode M.2.1 pc = .ok (.ifCond .le off, 3)) (ht : (pc : Int) + off = (tgt : Int)) (q : x ≤ 0) (k : Go G M n1 R h n tgt ls st) : Go G M n1 R h n pc ls (.int x :: st) := g_if_le d ht (fun _ => k) (fun z => absurd q z)
theorem g_if_le_f {x : Int32} {off : Int} {tgt : Nat} (d : decode M.2.1 pc = .ok (.ifCond .le off, 3)) (ht : (pc : Int) + off = (tgt : Int)) (q : ¬ (x ≤ 0)) (k : Go G M n1 R h n (pc + 3) ls st) : Go G M n1 R h n pc ls (.int x :: st) := g_if_le d ht (fun z => absurd z q) (fun _ => k)
theorem g_icmp_le {x y : Int32} {off : Int} {tgt : Nat} (d : decode M.2.1 pc = .ok (.if_icmp .le off, 3)) (ht : (pc : Int) + off = (tgt : Int)) (kt : x ≤ y → Go G M n1 R h n tgt ls st) (kf : ¬ (x ≤ y) → Go G M n1 R h n (pc + 3) ls st) : Go G M n1 R h n pc ls (.int y :: .int x :: st) := by
  intro n0 p e s m args below meth c H A locs cells slots d0 C hd hl hw hS ha hb hc hs
  exact lv_icmp_le C.1 C.2.1 d ht (fun q => (kt q n0 p e s m args below meth c H A locs cells slots d0 C hd hl hw hS ha hb hc hs)) (fun q => (kf q n0 p e s m args below meth c H A locs cells slots d0 C hd hl hw hS ha hb hc hs))
theorem g_icmp_le_t {x y : Int32} {off : Int} {tgt : Nat} (d : decode M.2.1 pc = .ok (.if_icmp .le off, 3)) (ht : (pc : Int) + off = (tgt : Int)) (q : x ≤ y) (k : Go G M n1 R h n tgt ls st) : Go G M n1 R h n pc ls (.int y :: .int x :: st) := g_icmp_le d ht (fun _ => k) (fun z => absurd q z)
theorem g_icmp_le_f {x y : Int32} {off : Int} {tgt : Nat} (d : decode M.2.1 pc = .ok (.if_icmp .le off, 3)) (ht : (pc : Int) + off = (tgt : Int)) (q : ¬ (x ≤ y)) (k : Go G M n1 R h n (pc + 3) ls st) : Go G M n1 R h n pc ls (.int y :: .int x :: st) := g_icmp_le d ht (fun z => absurd z q) (fun _ => k)
theorem g_goto {off : Int} {tgt : Nat} (d : decode M.2.1 pc = .ok (.goto off, 3)) (ht : (pc : Int) + off = (tgt : Int)) (k : Go G M n1 R h n tgt ls st) : Go G M n1 R h n pc ls st := by
  intro n0 p e s m args below meth c H A locs cells slots d0 C hd hl hw hS ha hb hc hs
  exact lv_goto C.1 C.2.1 d ht (k n0 p e s m args below meth c H A locs cells slots d0 C hd hl hw hS ha hb hc hs)
theorem g_ifnull {x : Nat} {off : Int} (d : decode M.2.1 pc = .ok (.ifnull off, 3)) (k : Go G M n1 R h n (pc + 3) ls st) : Go G M n1 R h n pc ls (ga G x :: st) := by
  intro n0 p e s m args below meth c H A locs cells slots d0 C hd hl hw hS ha hb hc hs
  exact lv_ifnull C.1 C.2.1 d (k n0 p e s m args below meth c H A locs cells slots d0 C hd hl hw hS ha hb hc hs)
theorem g_ifnullN {off : Int} {tgt : Nat} (d : decode M.2.1 pc = .ok (.ifnull off, 3)) (ht : (pc : Int) + off = (tgt : Int)) (k : Go G M n1 R h n tgt ls st) : Go G M n1 R h n pc ls (.null :: st) := by
  intro n0 p e s m args below meth c H A locs cells slots d0 C hd hl hw hS ha hb hc hs
  exact lv_ifnullN C.1 C.2.1 d ht (k n0 p e s m args below meth c H A locs cells slots d0 C hd hl hw hS ha hb hc hs)
theorem g_ifnonnull {x : Nat} {off : Int} {tgt : Nat} (d : decode M.2.1 pc = .ok (.ifnonnull off, 3)) (ht : (pc : Int) + off = (tgt : Int)) (k : Go G M n1 R h n tgt ls st) : Go G M n1 R h n pc ls (ga G x :: st) := by
  intro n0 p e s m args below meth c H A locs cells slots d0 C hd hl hw hS ha hb hc hs
  exact lv_ifnonnull C.1 C.2.1 d ht (k n0 p e s m args below meth c H A locs cells slots d0 C hd hl hw hS ha hb hc hs)
theorem g_ifnonnullN {off : Int} (d : decode M.2.1 pc = .ok (.ifnonnull off, 3)) (k : Go G M n1 R h n (pc + 3) ls st) : Go G M n1 R h n pc ls (.null :: st) := by
  intro n0 p e s m args below meth c H A locs cells slots d0 C hd hl hw hS ha hb hc hs
  exact lv_ifnonnullN C.1 C.2.1 d (k n0 p e s m args below meth c H A locs cells slots d0 C hd hl hw hS ha hb hc hs)
theorem g_tabIn {df lo hi : Int} {offs : Array Int} {len : Nat} {x : Int32} {off : Int} {tgt : Nat} (d : decode M.2.1 pc = .ok (.tableswitch df lo hi offs, len)) (h1 : ¬ x.toInt < lo) (h2 : ¬ hi < x.toInt) (ho : offs[(x.toInt - lo).toNat]? = some off) (ht : (pc : Int) + off = (tgt : Int)) (k : Go G M n1 R h n tgt ls st) : Go G M n1 R h n pc ls (.int x :: st) := by
  intro n0 p e s m args below meth c H A locs cells slots d0 C hd hl hw hS ha hb hc hs
  exact lv_tableIn C.1 C.2.1 d h1 h2 ho ht (k n0 p e s m args below meth c H A locs cells slots d0 C hd hl hw hS ha hb hc hs)
theorem g_tabOut {df lo hi : Int} {offs : Array Int} {len : Nat} {x : Int32} {tgt : Nat} (d : decode M.2.1 pc = .ok (.tableswitch df lo hi offs, len)) (hx : x.toInt < lo ∨ hi < x.toInt) (ht : (pc : Int) + df = (tgt : Int)) (k : Go G M n1 R h n tgt ls st) : Go G M n1 R h n pc ls (.int x :: st) := by
  intro n0 p e s m args below meth c H A locs cells slots d0 C hd hl hw hS ha hb hc hs
  exact lv_tableOut C.1 C.2.1 d hx ht (k n0 p e s m args below meth c H A locs cells slots d0 C hd hl hw hS ha hb hc hs)
theorem g_lookup {df : Int} {ps : Array (Int × Int)} {len : Nat} {x : Int32} {off : Int} {tgt : Nat} (d : decode M.2.1 pc = .ok (.lookupswitch df ps, len)) (hp : (ps.toList.zip (ps.toList.drop 1)).all (fun (a, next) => a.1 < next.1) = true) (ho : Op.lookupswitch.offset ps.toList df x.toInt = off) (ht : (pc : Int) + off = (tgt : Int)) (k : Go G M n1 R h n tgt ls st) : Go G M n1 R h n pc ls (.int x :: st) := by
  intro n0 p e s m args below meth c H A locs cells slots d0 C hd hl hw hS ha hb hc hs
  exact lv_lookup C.1 C.2.1 d hp ho ht (k n0 p e s m args below meth c H A locs cells slots d0 C hd hl hw hS ha hb hc hs)
theorem g_fconst0 (d : decode M.2.1 pc = .ok (.fconst 0, 1)) (k : Go G M n1 R h n (pc + 1) ls (.float FP.fconst0 :: st)) : Go G M n1 R h n pc ls st := by
  intro n0 p e s m args below meth c H A locs cells slots d0 C hd hl hw hS ha hb hc hs
  exact lv_fconst0 C.1 C.2.1 d (k n0 p e s m args below meth c H A locs cells slots d0 C hd hl hw hS ha hb hc hs)
theorem g_fconst1 (d : decode M.2.1 pc = .ok (.fconst 1, 1)) (k : Go G M n1 R h n (pc + 1) ls (.float FP.fconst1 :: st)) : Go G M n1 R h n pc ls st := by
  intro n0 p e s m args below meth c H A locs cells slots d0 C hd hl hw hS ha hb hc hs
  exact lv_fconst1 C.1 C.2.1 d (k n0 p e s m args below meth c H A locs cells slots d0 C hd hl hw hS ha hb hc hs)
theorem g_fconst2 (d : decode M.2.1 pc = .ok (.fconst 2, 1)) (k : Go G M n1 R h n (pc + 1) ls (.float FP.fconst2 :: st)) : Go G M n1 R h n pc ls st := by
  intro n0 p e s m args below meth c H A locs cells slots d0 C hd hl hw hS ha hb hc hs
  exact lv_fconst2 C.1 C.2.1 d (k n0 p e s m args below meth c H A locs cells slots d0 C hd hl hw hS ha hb hc hs)
theorem g_fadd {x y : UInt32} (d : decode M.2.1 pc = .ok (.fadd, 1)) (hne : vf_n32 (FP.fadd x y)) (k : Go G M n1 R h n (pc + 1) ls (.float (FP.fadd x y) :: st)) : Go G M n1 R h n pc ls (.float y :: .float x :: st) := by
  intro n0 p e s m args below meth c H A locs cells slots d0 C hd hl hw hS ha hb hc hs
  exact lv_fadd C.1 C.2.1 d hne (k n0 p e s m args below meth c H A locs cells slots d0 C hd hl hw hS ha hb hc hs)
theorem g_fmul {x y : UInt32} (d : decode M.2.1 pc = .ok (.fmul, 1)) (hne : vf_n32 (FP.fmul x y)) (k : Go G M n1 R h n (pc + 1) ls (.float (FP.fmul x y) :: st)) : Go G M n1 R h n pc ls (.float y :: .float x :: st) := by
  intro n0 p e s m args below meth c H A locs cells slots d0 C hd hl hw hS ha hb hc hs
  exact lv_fmul C.1 C.2.1 d hne (k n0 p e s m args below meth c H A locs cells slots d0 C hd hl hw hS ha hb hc hs)
theorem g_dmul {x y : UInt64} (d : decode M.2.1 pc = .ok (.dmul, 1)) (hne : vf_n64 (FP.dmul x y)) (k : Go G M n1 R h n (pc + 1) ls (.double (FP.dmul x y) :: st)) : Go G M n1 R h n pc ls (.double y :: .double x :: st) := by
  intro n0 p e s m args below meth c H A locs cells slots d0 C hd hl hw hS ha hb hc hs
  exact lv_dmul C.1 C.2.1 d hne (k n0 p e s m args below meth c H A locs cells slots d0 C hd hl hw hS ha hb hc hs)
theorem g_fcmp {x y : UInt32} {op : CmpOp} (d : decode M.2.1 pc = .ok (.fcmp op, 1)) (k : Go G M n1 R h n (pc + 1) ls (.int (Op.cmpValue (FP.fcmp x y) op) :: st)) : Go G M n1 R h n pc ls (.float y :: .float x :: st) := by
  intro n0 p e s m args below meth c H A locs cells slots d0 C hd hl hw hS ha hb hc hs
  exact lv_fcmp C.1 C.2.1 d (k n0 p e s m args below meth c H A locs cells slots d0 C hd hl hw hS ha hb hc hs)
theorem g_dcmp {x y : UInt64} {op : CmpOp} (d : decode M.2.1 pc = .ok (.dcmp op, 1)) (k : Go G M n1 R h n (pc + 1) ls (.int (Op.cmpValue (FP.dcmp x y) op) :: st)) : Go G M n1 R h n pc ls (.double y :: .double x :: st) := by
  intro n0 p e s m args below meth c H A locs cells slots d0 C hd hl hw hS ha hb hc hs
  exact lv_dcmp C.1 C.2.1 d (k n0 p e s m args below meth c H A locs cells slots d0 C hd hl hw hS ha hb hc hs)
theorem g_i2f {x : Int32} (d : decode M.2.1 pc = .ok (.i2f, 1)) (k : Go G M n1 R h n (pc + 1) ls (.float (FP.i2f x) :: st)) : Go G M n1 R h n pc ls (.int x :: st) := by
  intro n0 p e s m args below meth c H A locs cells slots d0 C hd hl hw hS ha hb hc hs
  exact lv_i2f C.1 C.2.1 d (k n0 p e s m args below meth c H A locs cells slots d0 C hd hl hw hS ha hb hc hs)
theorem g_i2d {x : Int32} (d : decode M.2.1 pc = .ok (.i2d, 1)) (k : Go G M n1 R h n (pc + 1) ls (.double (FP.i2d x) :: st)) : Go G M n1 R h n pc ls (.int x :: st) := by
  intro n0 p e s m args below meth c H A locs cells slots d0 C hd hl hw hS ha hb hc hs
  exact lv_i2d C.1 C.2.1 d (k n0 p e s m args below meth c H A locs cells slots d0 C hd hl hw hS ha hb hc hs)
theorem g_f2d {x : UInt32} (d : decode M.2.1 pc = .ok (.f2d, 1)) (hne : vf_n64 (FP.f2d x)) (k : Go G M n1 R h n (pc + 1) ls (.double (FP.f2d x) :: st)) : Go G M n1 R h n pc ls (.float x :: st) := by
  intro n0 p e s m args below meth c H A locs cells slots d0 C hd hl hw hS ha hb hc hs
  exact lv_f2d C.1 C.2.1 d hne (k n0 p e s m args below meth c H A locs cells slots d0 C hd hl hw hS ha hb hc hs)
theorem g_d2f {x : UInt64} {v : UInt32} (d : decode M.2.1 pc = .ok (.d2f, 1)) (hne : vf_n32 (FP.d2f x)) (hv : FP.d2f x = v) (k : Go G M n1 R h n (pc + 1) ls (.float v :: st)) : Go G M n1 R h n pc ls (.double x :: st) := by
  intro n0 p e s m args below meth c H A locs cells slots d0 C hd hl hw hS ha hb hc hs
  subst hv
  exact lv_d2f C.1 C.2.1 d hne (k n0 p e s m args below meth c H A locs cells slots d0 C hd hl hw hS ha hb hc hs)
theorem g_fmulcmp {x y v : UInt32} {i : Nat} {op : CmpOp} (d : decode M.2.1 pc = .ok (.fmul, 1)) (hm : Cond.constantFloat M.1.cls i v ∈ Wt) (d2 : decode M.2.1 (pc + 1) = .ok (.ldc i, 2)) (d3 : decode M.2.1 (pc + 3) = .ok (.fcmp op, 1)) (hal : ∀ r, alike32 r (FP.fmul x y) = true → FP.fcmp r v = FP.fcmp (FP.fmul x y) v) (k : Go G M n1 R h n (pc + 4) ls (.int (Op.cmpValue (FP.fcmp (FP.fmul x y) v) op) :: st)) : Go G M n1 R h n pc ls (.float y :: .float x :: st) := by
  intro n0 p e s m args below meth c H A locs cells slots d0 C hd hl hw hS ha hb hc hs
  refine lv_fmul_any hd lw_bits C.1 C.2.1 d (fun r d1 ha1 hd1 => ?_)
  refine lv_ldcf (v := v) C.1 C.2.1 C.2.2.2.2.1 (C.w d1 hm) d2 ?_
  refine lv_fcmp C.1 C.2.1 d3 ?_
  rw [hal r ha1]
  exact k n0 p e s m args below meth c H A locs cells slots d1 C hd1 hl hw hS ha hb hc hs
end GR
end
section
/-! ===== MEMORY AND CALLS (written by gen/mem.py) ===== -/
/-- what the tables say of a class -/
def cb (ci : Nat) (C : String) (T : u_T) (N : Nat) : Prop := vwCl[ci]? = some (C, T, N) ∧ (∀ w ∈ u_ws C T N, w ∈ Wt) ∧ (∃ ty0 : Nat → FieldType, (∀ k, k < N → parseFieldDescriptor (T k).2.2.1 = some (ty0 k)) ∧ ∀ G j, j < N → defaultValue (ty0 j) = vp_V (flr G ci (fun _ => 0) (fun _ => 0) (fun _ => none)) j) ∧ (∀ a, a < N → ∀ b, b < N → a ≠ b → (T a).2.1 ≠ (T b).2.1) ∧ (∀ k, Lay k = .inl ci → csz k = N)
theorem cb0 : cb 0 RX0 TX0 7 := by
  refine ⟨rfl, inW0, ⟨tyX0, tyX0_ok, fun G j hj => ?_⟩, nmX0, fun k hL => by simp only [csz, hL]⟩
  match j, hj with
  | 0, _ => rfl
  | 1, _ => rfl
  | 2, _ => rfl
  | 3, _ => rfl
  | 4, _ => rfl
  | 5, _ => rfl
  | 6, _ => rfl
theorem cb1 : cb 1 RX1 TX1 2 := by
  refine ⟨rfl, inW1, ⟨tyX1, tyX1_ok, fun G j hj => ?_⟩, nmX1, fun k hL => by simp only [csz, hL]⟩
  match j, hj with
  | 0, _ => rfl
  | 1, _ => rfl
theorem cb2 : cb 2 RX2 TX2 8 := by
  refine ⟨rfl, inW2, ⟨tyX2, tyX2_ok, fun G j hj => ?_⟩, nmX2, fun k hL => by simp only [csz, hL]⟩
  match j, hj with
  | 0, _ => rfl
  | 1, _ => rfl
  | 2, _ => rfl
  | 3, _ => rfl
  | 4, _ => rfl
  | 5, _ => rfl
  | 6, _ => rfl
  | 7, _ => rfl
theorem cb3 : cb 3 RX3 TX3 13 := by
  refine ⟨rfl, inW3, ⟨tyX3, tyX3_ok, fun G j hj => ?_⟩, nmX3, fun k hL => by simp only [csz, hL]⟩
  match j, hj with
  | 0, _ => rfl
  | 1, _ => rfl
  | 2, _ => rfl
  | 3, _ => rfl
  | 4, _ => rfl
  | 5, _ => rfl
  | 6, _ => rfl
  | 7, _ => rfl
  | 8, _ => rfl
  | 9, _ => rfl
  | 10, _ => rfl
  | 11, _ => rfl
  | 12, _ => rfl
theorem cb4 : cb 4 RX4 TX4 6 := by
  refine ⟨rfl, inW4, ⟨tyX4, tyX4_ok, fun G j hj => ?_⟩, nmX4, fun k hL => by simp only [csz, hL]⟩
  match j, hj with
  | 0, _ => rfl
  | 1, _ => rfl
  | 2, _ => rfl
  | 3, _ => rfl
  | 4, _ => rfl
  | 5, _ => rfl
theorem cb5 : cb 5 RX5 TX5 4 := by
  refine ⟨rfl, inW5, ⟨tyX5, tyX5_ok, fun G j hj => ?_⟩, nmX5, fun k hL => by simp only [csz, hL]⟩
  match j, hj with
  | 0, _ => rfl
  | 1, _ => rfl
  | 2, _ => rfl
  | 3, _ => rfl
theorem cb6 : cb 6 RX6 TX6 12 := by
  refine ⟨rfl, inW6, ⟨tyX6, tyX6_ok, fun G j hj => ?_⟩, nmX6, fun k hL => by simp only [csz, hL]⟩
  match j, hj with
  | 0, _ => rfl
  | 1, _ => rfl
  | 2, _ => rfl
  | 3, _ => rfl
  | 4, _ => rfl
  | 5, _ => rfl
  | 6, _ => rfl
  | 7, _ => rfl
  | 8, _ => rfl
  | 9, _ => rfl
  | 10, _ => rfl
  | 11, _ => rfl
theorem cb7 : cb 7 RX7 TX7 4 := by
  refine ⟨rfl, inW7, ⟨tyX7, tyX7_ok, fun G j hj => ?_⟩, nmX7, fun k hL => by simp only [csz, hL]⟩
  match j, hj with
  | 0, _ => rfl
  | 1, _ => rfl
  | 2, _ => rfl
  | 3, _ => rfl
theorem cb8 : cb 8 RX8 TX8 7 := by
  refine ⟨rfl, inW8, ⟨tyX8, tyX8_ok, fun G j hj => ?_⟩, nmX8, fun k hL => by simp only [csz, hL]⟩
  match j, hj with
  | 0, _ => rfl
  | 1, _ => rfl
  | 2, _ => rfl
  | 3, _ => rfl
  | 4, _ => rfl
  | 5, _ => rfl
  | 6, _ => rfl
theorem cb9 : cb 9 RX9 TX9 6 := by
  refine ⟨rfl, inW9, ⟨tyX9, tyX9_ok, fun G j hj => ?_⟩, nmX9, fun k hL => by simp only [csz, hL]⟩
  match j, hj with
  | 0, _ => rfl
  | 1, _ => rfl
  | 2, _ => rfl
  | 3, _ => rfl
  | 4, _ => rfl
  | 5, _ => rfl
def fbI (ci j : Nat) (C : String) (T : u_T) (N : Nat) (ty : FieldType) : Prop := cb ci C T N ∧ j < N ∧ (T j).2.2.2 = false ∧ parseFieldDescriptor (T j).2.2.1 = some ty ∧ (∀ G ri rf rq, (flr G ci ri rf rq)[j]? = some (.int (ri j))) ∧ (∀ G ri rf rq v, flr G ci (upd ri j v) rf rq = (flr G ci ri rf rq).set j (.int v))
def fbF (ci j : Nat) (C : String) (T : u_T) (N : Nat) : Prop := cb ci C T N ∧ j < N ∧ (T j).2.2.2 = false ∧ parseFieldDescriptor (T j).2.2.1 = some .float ∧ (∀ G ri rf rq, (flr G ci ri rf rq)[j]? = some (.float (rf j))) ∧ (∀ G ri rf rq v, flr G ci ri (va_up rf j v) rq = (flr G ci ri rf rq).set j (.float v))
def fbQ (ci j : Nat) (C : String) (T : u_T) (N : Nat) (ty : FieldType) : Prop := cb ci C T N ∧ j < N ∧ (T j).2.2.2 = true ∧ parseFieldDescriptor (T j).2.2.1 = some ty ∧ (∀ G ri rf rq, (flr G ci ri rf rq)[j]? = some (gr G (rq j))) ∧ (∀ G ri rf rq v, flr G ci ri rf (va_up rq j v) = (flr G ci ri rf rq).set j (gr G v)) ∧ (∀ a : Nat, narrow ty (.ref a) = .ref a ∧ fits ty (.ref a) = true) ∧ (T j).1 = C
theorem fb_0_0 : fbI 0 0 RX0 TX0 7 .int := ⟨cb0, by decide, rfl, tyX0_ok 0 (by decide), fun _ _ _ _ => rfl, fun _ _ _ _ _ => rfl⟩
theorem fb_0_1 : fbF 0 1 RX0 TX0 7 := ⟨cb0, by decide, rfl, tyX0_ok 1 (by decide), fun _ _ _ _ => rfl, fun _ _ _ _ _ => rfl⟩
theorem fb_0_2 : fbF 0 2 RX0 TX0 7 := ⟨cb0, by decide, rfl, tyX0_ok 2 (by decide), fun _ _ _ _ => rfl, fun _ _ _ _ _ => rfl⟩
theorem fb_0_3 : fbI 0 3 RX0 TX0 7 .int := ⟨cb0, by decide, rfl, tyX0_ok 3 (by decide), fun _ _ _ _ => rfl, fun _ _ _ _ _ => rfl⟩
theorem fb_0_4 : fbI 0 4 RX0 TX0 7 .int := ⟨cb0, by decide, rfl, tyX0_ok 4 (by decide), fun _ _ _ _ => rfl, fun _ _ _ _ _ => rfl⟩
theorem fb_0_5 : fbI 0 5 RX0 TX0 7 .int := ⟨cb0, by decide, rfl, tyX0_ok 5 (by decide), fun _ _ _ _ => rfl, fun _ _ _ _ _ => rfl⟩
theorem fb_0_6 : fbI 0 6 RX0 TX0 7 .int := ⟨cb0, by decide, rfl, tyX0_ok 6 (by decide), fun _ _ _ _ => rfl, fun _ _ _ _ _ => rfl⟩
theorem fb_1_0 : fbQ 1 0 RX1 TX1 2 (tyX1 0) := ⟨cb1, by decide, rfl, tyX1_ok 0 (by decide), fun _ _ _ _ => rfl, fun _ _ _ _ _ => rfl, fun _ => ⟨rfl, rfl⟩, rfl⟩
theorem fb_1_1 : fbI 1 1 RX1 TX1 2 .int := ⟨cb1, by decide, rfl, tyX1_ok 1 (by decide), fun _ _ _ _ => rfl, fun _ _ _ _ _ => rfl⟩
theorem fb_2_0 : fbI 2 0 RX2 TX2 8 .boolean := ⟨cb2, by decide, rfl, tyX2_ok 0 (by decide), fun _ _ _ _ => rfl, fun _ _ _ _ _ => rfl⟩
theorem fb_2_1 : fbI 2 1 RX2 TX2 8 .int := ⟨cb2, by decide, rfl, tyX2_ok 1 (by decide), fun _ _ _ _ => rfl, fun _ _ _ _ _ => rfl⟩
theorem fb_2_2 : fbI 2 2 RX2 TX2 8 .int := ⟨cb2, by decide, rfl, tyX2_ok 2 (by decide), fun _ _ _ _ => rfl, fun _ _ _ _ _ => rfl⟩
theorem fb_2_3 : fbI 2 3 RX2 TX2 8 .int := ⟨cb2, by decide, rfl, tyX2_ok 3 (by decide), fun _ _ _ _ => rfl, fun _ _ _ _ _ => rfl⟩
theorem fb_2_4 : fbI 2 4 RX2 TX2 8 .int := ⟨cb2, by decide, rfl, tyX2_ok 4 (by decide), fun _ _ _ _ => rfl, fun _ _ _ _ _ => rfl⟩
theorem fb_2_5 : fbI 2 5 RX2 TX2 8 .int := ⟨cb2, by decide, rfl, tyX2_ok 5 (by decide), fun _ _ _ _ => rfl, fun _ _ _ _ _ => rfl⟩
theorem fb_2_6 : fbF 2 6 RX2 TX2 8 := ⟨cb2, by decide, rfl, tyX2_ok 6 (by decide), fun _ _ _ _ => rfl, fun _ _ _ _ _ => rfl⟩
theorem fb_2_7 : fbI 2 7 RX2 TX2 8 .int := ⟨cb2, by decide, rfl, tyX2_ok 7 (by decide), fun _ _ _ _ => rfl, fun _ _ _ _ _ => rfl⟩
theorem fb_3_0 : fbI 3 0 RX3 TX3 13 .int := ⟨cb3, by decide, rfl, tyX3_ok 0 (by decide), fun _ _ _ _ => rfl, fun _ _ _ _ _ => rfl⟩
theorem fb_3_1 : fbI 3 1 RX3 TX3 13 .int := ⟨cb3, by decide, rfl, tyX3_ok 1 (by decide), fun _ _ _ _ => rfl, fun _ _ _ _ _ => rfl⟩
theorem fb_3_2 : fbI 3 2 RX3 TX3 13 .int := ⟨cb3, by decide, rfl, tyX3_ok 2 (by decide), fun _ _ _ _ => rfl, fun _ _ _ _ _ => rfl⟩
theorem fb_3_3 : fbI 3 3 RX3 TX3 13 .int := ⟨cb3, by decide, rfl, tyX3_ok 3 (by decide), fun _ _ _ _ => rfl, fun _ _ _ _ _ => rfl⟩
theorem fb_3_4 : fbI 3 4 RX3 TX3 13 .int := ⟨cb3, by decide, rfl, tyX3_ok 4 (by decide), fun _ _ _ _ => rfl, fun _ _ _ _ _ => rfl⟩
theorem fb_3_5 : fbI 3 5 RX3 TX3 13 .int := ⟨cb3, by decide, rfl, tyX3_ok 5 (by decide), fun _ _ _ _ => rfl, fun _ _ _ _ _ => rfl⟩
theorem fb_3_6 : fbI 3 6 RX3 TX3 13 .int := ⟨cb3, by decide, rfl, tyX3_ok 6 (by decide), fun _ _ _ _ => rfl, fun _ _ _ _ _ => rfl⟩
theorem fb_3_7 : fbI 3 7 RX3 TX3 13 .int := ⟨cb3, by decide, rfl, tyX3_ok 7 (by decide), fun _ _ _ _ => rfl, fun _ _ _ _ _ => rfl⟩
theorem fb_3_8 : fbI 3 8 RX3 TX3 13 .int := ⟨cb3, by decide, rfl, tyX3_ok 8 (by decide), fun _ _ _ _ => rfl, fun _ _ _ _ _ => rfl⟩
theorem fb_3_9 : fbI 3 9 RX3 TX3 13 .int := ⟨cb3, by decide, rfl, tyX3_ok 9 (by decide), fun _ _ _ _ => rfl, fun _ _ _ _ _ => rfl⟩
theorem fb_3_10 : fbI 3 10 RX3 TX3 13 .int := ⟨cb3, by decide, rfl, tyX3_ok 10 (by decide), fun _ _ _ _ => rfl, fun _ _ _ _ _ => rfl⟩
theorem fb_3_11 : fbI 3 11 RX3 TX3 13 .int := ⟨cb3, by decide, rfl, tyX3_ok 11 (by decide), fun _ _ _ _ => rfl, fun _ _ _ _ _ => rfl⟩
theorem fb_3_12 : fbI 3 12 RX3 TX3 13 .int := ⟨cb3, by decide, rfl, tyX3_ok 12 (by decide), fun _ _ _ _ => rfl, fun _ _ _ _ _ => rfl⟩
theorem fb_4_0 : fbQ 4 0 RX4 TX4 6 (tyX4 0) := ⟨cb4, by decide, rfl, tyX4_ok 0 (by decide), fun _ _ _ _ => rfl, fun _ _ _ _ _ => rfl, fun _ => ⟨rfl, rfl⟩, rfl⟩
theorem fb_4_1 : fbQ 4 1 RX4 TX4 6 (tyX4 1) := ⟨cb4, by decide, rfl, tyX4_ok 1 (by decide), fun _ _ _ _ => rfl, fun _ _ _ _ _ => rfl, fun _ => ⟨rfl, rfl⟩, rfl⟩
theorem fb_4_2 : fbQ 4 2 RX4 TX4 6 (tyX4 2) := ⟨cb4, by decide, rfl, tyX4_ok 2 (by decide), fun _ _ _ _ => rfl, fun _ _ _ _ _ => rfl, fun _ => ⟨rfl, rfl⟩, rfl⟩
theorem fb_4_3 : fbQ 4 3 RX4 TX4 6 (tyX4 3) := ⟨cb4, by decide, rfl, tyX4_ok 3 (by decide), fun _ _ _ _ => rfl, fun _ _ _ _ _ => rfl, fun _ => ⟨rfl, rfl⟩, rfl⟩
theorem fb_4_4 : fbI 4 4 RX4 TX4 6 .int := ⟨cb4, by decide, rfl, tyX4_ok 4 (by decide), fun _ _ _ _ => rfl, fun _ _ _ _ _ => rfl⟩
theorem fb_4_5 : fbI 4 5 RX4 TX4 6 .int := ⟨cb4, by decide, rfl, tyX4_ok 5 (by decide), fun _ _ _ _ => rfl, fun _ _ _ _ _ => rfl⟩
theorem fb_5_0 : fbQ 5 0 RX5 TX5 4 (tyX5 0) := ⟨cb5, by decide, rfl, tyX5_ok 0 (by decide), fun _ _ _ _ => rfl, fun _ _ _ _ _ => rfl, fun _ => ⟨rfl, rfl⟩, rfl⟩
theorem fb_5_1 : fbI 5 1 RX5 TX5 4 .int := ⟨cb5, by decide, rfl, tyX5_ok 1 (by decide), fun _ _ _ _ => rfl, fun _ _ _ _ _ => rfl⟩
theorem fb_5_2 : fbI 5 2 RX5 TX5 4 .int := ⟨cb5, by decide, rfl, tyX5_ok 2 (by decide), fun _ _ _ _ => rfl, fun _ _ _ _ _ => rfl⟩
theorem fb_5_3 : fbI 5 3 RX5 TX5 4 .int := ⟨cb5, by decide, rfl, tyX5_ok 3 (by decide), fun _ _ _ _ => rfl, fun _ _ _ _ _ => rfl⟩
theorem fb_6_0 : fbQ 6 0 RX6 TX6 12 (tyX6 0) := ⟨cb6, by decide, rfl, tyX6_ok 0 (by decide), fun _ _ _ _ => rfl, fun _ _ _ _ _ => rfl, fun _ => ⟨rfl, rfl⟩, rfl⟩
theorem fb_6_1 : fbQ 6 1 RX6 TX6 12 (tyX6 1) := ⟨cb6, by decide, rfl, tyX6_ok 1 (by decide), fun _ _ _ _ => rfl, fun _ _ _ _ _ => rfl, fun _ => ⟨rfl, rfl⟩, rfl⟩
theorem fb_6_2 : fbQ 6 2 RX6 TX6 12 (tyX6 2) := ⟨cb6, by decide, rfl, tyX6_ok 2 (by decide), fun _ _ _ _ => rfl, fun _ _ _ _ _ => rfl, fun _ => ⟨rfl, rfl⟩, rfl⟩
theorem fb_6_3 : fbF 6 3 RX6 TX6 12 := ⟨cb6, by decide, rfl, tyX6_ok 3 (by decide), fun _ _ _ _ => rfl, fun _ _ _ _ _ => rfl⟩
theorem fb_6_4 : fbF 6 4 RX6 TX6 12 := ⟨cb6, by decide, rfl, tyX6_ok 4 (by decide), fun _ _ _ _ => rfl, fun _ _ _ _ _ => rfl⟩
theorem fb_6_5 : fbI 6 5 RX6 TX6 12 .int := ⟨cb6, by decide, rfl, tyX6_ok 5 (by decide), fun _ _ _ _ => rfl, fun _ _ _ _ _ => rfl⟩
theorem fb_6_6 : fbI 6 6 RX6 TX6 12 .int := ⟨cb6, by decide, rfl, tyX6_ok 6 (by decide), fun _ _ _ _ => rfl, fun _ _ _ _ _ => rfl⟩
theorem fb_6_7 : fbI 6 7 RX6 TX6 12 .int := ⟨cb6, by decide, rfl, tyX6_ok 7 (by decide), fun _ _ _ _ => rfl, fun _ _ _ _ _ => rfl⟩
theorem fb_6_8 : fbI 6 8 RX6 TX6 12 .int := ⟨cb6, by decide, rfl, tyX6_ok 8 (by decide), fun _ _ _ _ => rfl, fun _ _ _ _ _ => rfl⟩
theorem fb_6_9 : fbI 6 9 RX6 TX6 12 .int := ⟨cb6, by decide, rfl, tyX6_ok 9 (by decide), fun _ _ _ _ => rfl, fun _ _ _ _ _ => rfl⟩
theorem fb_6_10 : fbI 6 10 RX6 TX6 12 .int := ⟨cb6, by decide, rfl, tyX6_ok 10 (by decide), fun _ _ _ _ => rfl, fun _ _ _ _ _ => rfl⟩
theorem fb_6_11 : fbI 6 11 RX6 TX6 12 .int := ⟨cb6, by decide, rfl, tyX6_ok 11 (by decide), fun _ _ _ _ => rfl, fun _ _ _ _ _ => rfl⟩
theorem fb_7_0 : fbQ 7 0 RX7 TX7 4 (tyX7 0) := ⟨cb7, by decide, rfl, tyX7_ok 0 (by decide), fun _ _ _ _ => rfl, fun _ _ _ _ _ => rfl, fun _ => ⟨rfl, rfl⟩, rfl⟩
theorem fb_7_1 : fbI 7 1 RX7 TX7 4 .int := ⟨cb7, by decide, rfl, tyX7_ok 1 (by decide), fun _ _ _ _ => rfl, fun _ _ _ _ _ => rfl⟩
theorem fb_7_2 : fbQ 7 2 RX7 TX7 4 (tyX7 2) := ⟨cb7, by decide, rfl, tyX7_ok 2 (by decide), fun _ _ _ _ => rfl, fun _ _ _ _ _ => rfl, fun _ => ⟨rfl, rfl⟩, rfl⟩
theorem fb_7_3 : fbI 7 3 RX7 TX7 4 .int := ⟨cb7, by decide, rfl, tyX7_ok 3 (by decide), fun _ _ _ _ => rfl, fun _ _ _ _ _ => rfl⟩
theorem fb_8_0 : fbQ 8 0 RX8 TX8 7 (tyX8 0) := ⟨cb8, by decide, rfl, tyX8_ok 0 (by decide), fun _ _ _ _ => rfl, fun _ _ _ _ _ => rfl, fun _ => ⟨rfl, rfl⟩, rfl⟩
theorem fb_8_1 : fbI 8 1 RX8 TX8 7 .int := ⟨cb8, by decide, rfl, tyX8_ok 1 (by decide), fun _ _ _ _ => rfl, fun _ _ _ _ _ => rfl⟩
theorem fb_8_2 : fbI 8 2 RX8 TX8 7 .int := ⟨cb8, by decide, rfl, tyX8_ok 2 (by decide), fun _ _ _ _ => rfl, fun _ _ _ _ _ => rfl⟩
theorem fb_8_3 : fbQ 8 3 RX8 TX8 7 (tyX8 3) := ⟨cb8, by decide, rfl, tyX8_ok 3 (by decide), fun _ _ _ _ => rfl, fun _ _ _ _ _ => rfl, fun _ => ⟨rfl, rfl⟩, rfl⟩
theorem fb_8_4 : fbQ 8 4 RX8 TX8 7 (tyX8 4) := ⟨cb8, by decide, rfl, tyX8_ok 4 (by decide), fun _ _ _ _ => rfl, fun _ _ _ _ _ => rfl, fun _ => ⟨rfl, rfl⟩, rfl⟩
theorem fb_8_5 : fbQ 8 5 RX8 TX8 7 (tyX8 5) := ⟨cb8, by decide, rfl, tyX8_ok 5 (by decide), fun _ _ _ _ => rfl, fun _ _ _ _ _ => rfl, fun _ => ⟨rfl, rfl⟩, rfl⟩
theorem fb_8_6 : fbI 8 6 RX8 TX8 7 .int := ⟨cb8, by decide, rfl, tyX8_ok 6 (by decide), fun _ _ _ _ => rfl, fun _ _ _ _ _ => rfl⟩
theorem fb_9_0 : fbQ 9 0 RX9 TX9 6 (tyX9 0) := ⟨cb9, by decide, rfl, tyX9_ok 0 (by decide), fun _ _ _ _ => rfl, fun _ _ _ _ _ => rfl, fun _ => ⟨rfl, rfl⟩, rfl⟩
theorem fb_9_1 : fbQ 9 1 RX9 TX9 6 (tyX9 1) := ⟨cb9, by decide, rfl, tyX9_ok 1 (by decide), fun _ _ _ _ => rfl, fun _ _ _ _ _ => rfl, fun _ => ⟨rfl, rfl⟩, rfl⟩
theorem fb_9_2 : fbQ 9 2 RX9 TX9 6 (tyX9 2) := ⟨cb9, by decide, rfl, tyX9_ok 2 (by decide), fun _ _ _ _ => rfl, fun _ _ _ _ _ => rfl, fun _ => ⟨rfl, rfl⟩, rfl⟩
theorem fb_9_3 : fbI 9 3 RX9 TX9 6 .boolean := ⟨cb9, by decide, rfl, tyX9_ok 3 (by decide), fun _ _ _ _ => rfl, fun _ _ _ _ _ => rfl⟩
theorem fb_9_4 : fbQ 9 4 RX9 TX9 6 (tyX9 4) := ⟨cb9, by decide, rfl, tyX9_ok 4 (by decide), fun _ _ _ _ => rfl, fun _ _ _ _ _ => rfl, fun _ => ⟨rfl, rfl⟩, rfl⟩
theorem fb_9_5 : fbQ 9 5 RX9 TX9 6 (tyX9 5) := ⟨cb9, by decide, rfl, tyX9_ok 5 (by decide), fun _ _ _ _ => rfl, fun _ _ _ _ _ => rfl, fun _ => ⟨rfl, rfl⟩, rfl⟩
theorem mOI : Cond.instanceMethod objectInit ∈ Wt := mw_1_19
theorem mOC : Cond.code objectInit ⟨#[0xb1]⟩ 1 none ∈ Wt := mw_1_20
theorem mSysI : Cond.initialized "java/lang/System" ∈ Wt := mw_1_11
theorem mMathI : Cond.initialized "java/lang/Math" ∈ Wt := mw_1_12
theorem mCpN : Cond.native arraycopyName ∈ Wt := mw_3_117
theorem mCpS : Cond.static arraycopyName ∈ Wt := mw_3_116
theorem mMinS : Cond.static Lib.Math.min.name ∈ Wt := mw_4_35
theorem mMinC : Cond.code Lib.Math.min.name Lib.Math.min.code 2 (some .int) ∈ Wt := mw_4_36
theorem mAbsS : Cond.static Lib.Math.abs.name ∈ Wt := mw_3_35
theorem mAbsC : Cond.code Lib.Math.abs.name Lib.Math.abs.code 1 (some .int) ∈ Wt := mw_3_36
theorem flr_len {G : Gl} {ci : Nat} {ri : Nat → Int32} {rf : Nat → UInt32} {rq : Nat → Option Nat} {j : Nat} {v : Value} (h : (flr G ci ri rf rq)[j]? = some v) : j < (flr G ci ri rf rq).length := (List.getElem?_eq_some_iff.mp h).1
section GM
variable {G : Gl} {M : Mt} {n1 : Nat} {R : Option Value → Hp → Prop} {h : Hp} {n pc : Nat} {ls : List (Option Value)} {st : List Value}
theorem wp_size {p : Program} {e : Env} {Rm : Room} {s : State} {m : MethodId} {args : Array Value} {below : List Frame} {meth : Method} {c : Code} {T : State} {locs : List Loc} {n0 cells slots : Nat} {H : Heap} {d0 : Drawn} (X : Stand p G.1 e Rm (s.setDrawn d0) m args below meth c T locs cells slots) (hT : T.heap = H) (hz : s.heap.size = G.2.1 + n0) (hn : n0 ≤ n) (hc : cells = n - n0) (hP : va_P G.2.2.1 vwCl (wl G h n) H) (hS : va_S (gA G) s.heap H locs) : H.size = G.2.1 + n := by
  have h1 : T.heap.size ≤ s.heap.size + cells := X.same.2.2.1
  rw [hT] at h1
  have h2 : G.2.1 + n ≤ H.size := by
    cases n with
    | zero => have := hS.1; omega
    | succ k =>
      have := (hP k _ (wl_at (Nat.lt_succ_self k))).lt
      have h3 : G.2.1 + k < H.size := this
      omega
  omega
theorem wp_low {s : State} {H H1 : Heap} {locs locs1 : List Loc} {n0 : Nat} (hz : s.heap.size = G.2.1 + n0) (hS : va_S (gA G) s.heap H locs) (hS1 : va_S (gA G) s.heap H1 locs1) : ∀ q, q < G.2.1 → H1[q]? = H[q]? := fun q hq => (hS1.2.1 q (by omega) (Nat.not_le.mpr hq)).trans (hS.2.1 q (by omega) (Nat.not_le.mpr hq)).symm
theorem g_getI_a {ci k j i N : Nat} {C0 : String} {T : u_T} {ty : FieldType} (F : fbI ci j C0 T N ty) (hm : Cond.fieldLink M.1.cls i (T j).1 (T j).2.1 (T j).2.2.1 ∈ Wt) (hL : Lay k = .inl ci) (hk : k < n) (d : decode M.2.1 pc = .ok (.getfield i, 3)) (K : ∀ x : Int32, (h.1 k j) = x → Go G M n1 R h n (pc + 3) ls (.int x :: st)) : Go G M n1 R h n (pc) ls (ga G k :: st) := by
  intro n0 p e s m args below meth c H A locs cells slots d0 C hd hl hw hS ha hb hc hs
  exact va_get C.1 C.2.1 (C.ws d0) F.1.2.1 C.2.2.2.2.1 hw.2.2.1 hw.2.1 k (wl_o hk hL) F.1.1 j F.2.1 (C.w d0 hm) (fun _ q => q) (F.2.2.2.2.1 G _ _ _) d (K _ rfl n0 p e s m args below meth c H A locs cells slots d0 C hd hl hw hS ha hb hc hs)
theorem g_getI {ci k j i N : Nat} {C0 : String} {T : u_T} {ty : FieldType} (F : fbI ci j C0 T N ty) (hm : Cond.fieldLink M.1.cls i (T j).1 (T j).2.1 (T j).2.2.1 ∈ Wt) (hL : Lay k = .inl ci) (hk : k < n) (d : decode M.2.1 pc = .ok (.getfield i, 3)) (K : Go G M n1 R h n (pc + 3) ls (.int (h.1 k j) :: st)) : Go G M n1 R h n (pc) ls (ga G k :: st) := by
  intro n0 p e s m args below meth c H A locs cells slots d0 C hd hl hw hS ha hb hc hs
  exact va_get C.1 C.2.1 (C.ws d0) F.1.2.1 C.2.2.2.2.1 hw.2.2.1 hw.2.1 k (wl_o hk hL) F.1.1 j F.2.1 (C.w d0 hm) (fun _ q => q) (F.2.2.2.2.1 G _ _ _) d (K n0 p e s m args below meth c H A locs cells slots d0 C hd hl hw hS ha hb hc hs)
theorem g_getF_a {ci k j i N : Nat} {C0 : String} {T : u_T} (F : fbF ci j C0 T N) (hm : Cond.fieldLink M.1.cls i (T j).1 (T j).2.1 (T j).2.2.1 ∈ Wt) (hL : Lay k = .inl ci) (hk : k < n) (d : decode M.2.1 pc = .ok (.getfield i, 3)) (K : ∀ x : UInt32, (h.2.1 k j) = x → Go G M n1 R h n (pc + 3) ls (.float x :: st)) : Go G M n1 R h n (pc) ls (ga G k :: st) := by
  intro n0 p e s m args below meth c H A locs cells slots d0 C hd hl hw hS ha hb hc hs
  exact va_get C.1 C.2.1 (C.ws d0) F.1.2.1 C.2.2.2.2.1 hw.2.2.1 hw.2.1 k (wl_o hk hL) F.1.1 j F.2.1 (C.w d0 hm) (fun _ q => q) (F.2.2.2.2.1 G _ _ _) d (K _ rfl n0 p e s m args below meth c H A locs cells slots d0 C hd hl hw hS ha hb hc hs)
theorem g_getF {ci k j i N : Nat} {C0 : String} {T : u_T} (F : fbF ci j C0 T N) (hm : Cond.fieldLink M.1.cls i (T j).1 (T j).2.1 (T j).2.2.1 ∈ Wt) (hL : Lay k = .inl ci) (hk : k < n) (d : decode M.2.1 pc = .ok (.getfield i, 3)) (K : Go G M n1 R h n (pc + 3) ls (.float (h.2.1 k j) :: st)) : Go G M n1 R h n (pc) ls (ga G k :: st) := by
  intro n0 p e s m args below meth c H A locs cells slots d0 C hd hl hw hS ha hb hc hs
  exact va_get C.1 C.2.1 (C.ws d0) F.1.2.1 C.2.2.2.2.1 hw.2.2.1 hw.2.1 k (wl_o hk hL) F.1.1 j F.2.1 (C.w d0 hm) (fun _ q => q) (F.2.2.2.2.1 G _ _ _) d (K n0 p e s m args below meth c H A locs cells slots d0 C hd hl hw hS ha hb hc hs)
theorem g_getQ {ci k j i N q : Nat} {C0 : String} {T : u_T} {ty : FieldType} (F : fbQ ci j C0 T N ty) (hm : Cond.fieldLink M.1.cls i (T j).1 (T j).2.1 (T j).2.2.1 ∈ Wt) (hL : Lay k = .inl ci) (hk : k < n) (hq : h.2.2.2 k j = some q) (d : decode M.2.1 pc = .ok (.getfield i, 3)) (K : Go G M n1 R h n (pc + 3) ls (ga G q :: st)) : Go G M n1 R h n (pc) ls (ga G k :: st) := by
  intro n0 p e s m args below meth c H A locs cells slots d0 C hd hl hw hS ha hb hc hs
  exact va_get C.1 C.2.1 (C.ws d0) F.1.2.1 C.2.2.2.2.1 hw.2.2.1 hw.2.1 k (wl_o hk hL) F.1.1 j F.2.1 (C.w d0 hm) (fun _ q => q) ((F.2.2.2.2.1 G _ _ _).trans (by rw [hq]; rfl)) d (K n0 p e s m args below meth c H A locs cells slots d0 C hd hl hw hS ha hb hc hs)
theorem g_putI {ci k j i N : Nat} {C0 : String} {T : u_T} {ty : FieldType} {x : Int32} (F : fbI ci j C0 T N ty) (hm : Cond.fieldLink M.1.cls i (T j).1 (T j).2.1 (T j).2.2.1 ∈ Wt) (hL : Lay k = .inl ci) (hk : k < n) (hx : narrow ty (.int x) = .int x) (hx2 : fits ty (.int x) = true) (d : decode M.2.1 pc = .ok (.putfield i, 3)) (K : Go G M n1 R (wI h k j x) n (pc + 3) ls (st)) : Go G M n1 R h n (pc) ls (.int x :: ga G k :: st) := by
  intro n0 p e s m args below meth c H A locs cells slots d0 C hd hl hw hS ha hb hc hs
  obtain ⟨ty0, hty, -⟩ := F.1.2.2.1
  refine va_put C.1 C.2.1 (C.ws d0) F.1.2.1 ty0 hty F.1.2.2.2.1 C.2.2.2.2.1 hw.2.2.1 hw.2.1 wl_D hS k (wl_o hk hL) F.1.1 j F.2.1 (C.w d0 hm) (fun _ q => q) F.2.2.1 F.2.2.2.1 hx hx2 (flr_len (F.2.2.2.2.1 G _ _ _)) d (fun H1 locs1 hP1 hD1 hS1 => ?_)
  rw [wl_set (h' := wI h k j x) hk (by rw [ent_o hL, wI_s, F.2.2.2.2.2]; rfl) (fun _ q => wI_o q)] at hP1
  intro T1 hT1 X
  exact K n0 p e s m args below meth c H1 A locs1 cells slots d0 C hd hl (hw.put (wp_size X hT1 C.2.2.2.2.2.2.2.2 ha hc hP1 hS1) hP1 (wp_low C.2.2.2.2.2.2.2.2 hS hS1)) hS1 ha hb hc hs T1 hT1 X
theorem g_putF {ci k j i N : Nat} {C0 : String} {T : u_T} {x : UInt32} (F : fbF ci j C0 T N) (hm : Cond.fieldLink M.1.cls i (T j).1 (T j).2.1 (T j).2.2.1 ∈ Wt) (hL : Lay k = .inl ci) (hk : k < n) (d : decode M.2.1 pc = .ok (.putfield i, 3)) (K : Go G M n1 R (wF h k j x) n (pc + 3) ls (st)) : Go G M n1 R h n (pc) ls (.float x :: ga G k :: st) := by
  intro n0 p e s m args below meth c H A locs cells slots d0 C hd hl hw hS ha hb hc hs
  obtain ⟨ty0, hty, -⟩ := F.1.2.2.1
  refine va_put C.1 C.2.1 (C.ws d0) F.1.2.1 ty0 hty F.1.2.2.2.1 C.2.2.2.2.1 hw.2.2.1 hw.2.1 wl_D hS k (wl_o hk hL) F.1.1 j F.2.1 (C.w d0 hm) (fun _ q => q) F.2.2.1 F.2.2.2.1 rfl rfl (flr_len (F.2.2.2.2.1 G _ _ _)) d (fun H1 locs1 hP1 hD1 hS1 => ?_)
  rw [wl_set (h' := wF h k j x) hk (by rw [ent_o hL, wF_s, F.2.2.2.2.2]; rfl) (fun _ q => wF_o q)] at hP1
  intro T1 hT1 X
  exact K n0 p e s m args below meth c H1 A locs1 cells slots d0 C hd hl (hw.put (wp_size X hT1 C.2.2.2.2.2.2.2.2 ha hc hP1 hS1) hP1 (wp_low C.2.2.2.2.2.2.2.2 hS hS1)) hS1 ha hb hc hs T1 hT1 X
theorem g_putQ {ci k j i N x : Nat} {C0 : String} {T : u_T} {ty : FieldType} (F : fbQ ci j C0 T N ty) (hini : M.1.name = "<init>") (hcls : C0 = M.1.cls) (hm : Cond.fieldLink M.1.cls i (T j).1 (T j).2.1 (T j).2.2.1 ∈ Wt) (hL : Lay k = .inl ci) (hk : k < n) (d : decode M.2.1 pc = .ok (.putfield i, 3)) (K : Go G M n1 R (wQ h k j (some x)) n (pc + 3) ls (st)) : Go G M n1 R h n (pc) ls (ga G x :: ga G k :: st) := by
  intro n0 p e s m args below meth c H A locs cells slots d0 C hd hl hw hS ha hb hc hs
  obtain ⟨ty0, hty, -⟩ := F.1.2.2.1
  refine va_putF C.1 C.2.1 (C.ws d0) F.1.2.1 ty0 hty F.1.2.2.2.1 C.2.2.2.2.1 hw.2.2.1 hw.2.1 wl_D hS k (wl_o hk hL) F.1.1 j F.2.1 (C.w d0 hm) (fun _ q => q) F.2.2.1 (C.2.2.2.2.2.2.2.1.trans hini) (F.2.2.2.2.2.2.2.trans hcls) F.2.2.2.1 (F.2.2.2.2.2.2.1 _).1 (F.2.2.2.2.2.2.1 _).2 (flr_len (F.2.2.2.2.1 G _ _ _)) d (fun H1 locs1 hP1 hD1 hS1 => ?_)
  rw [wl_set (h' := wQ h k j (some x)) hk (by rw [ent_o hL, wQ_s, F.2.2.2.2.2.1]; rfl) (fun _ q => wQ_o q)] at hP1
  intro T1 hT1 X
  exact K n0 p e s m args below meth c H1 A locs1 cells slots d0 C hd hl (hw.put (wp_size X hT1 C.2.2.2.2.2.2.2.2 ha hc hP1 hS1) hP1 (wp_low C.2.2.2.2.2.2.2.2 hS hS1)) hS1 ha hb hc hs T1 hT1 X
theorem vin {x : Int32} {j w : Nat} (hx : x = nI j) (hj : j < w) (hw : w < 100000) : vp_in x w ∧ x.toNatClampNeg = j := by
  subst hx
  exact ⟨vp_in_nI hj (by omega), nI_clamp (by omega)⟩
def lpr (x : Nat ⊕ (Nat × Nat)) : Prop := ∀ t w, x = .inr (t, w) → w < 100000
theorem lpr_if {c : Prop} [Decidable c] {a b : Nat ⊕ (Nat × Nat)} (ha : lpr a) (hb : lpr b) : lpr (if c then a else b) := by
  by_cases h : c
  · rw [if_pos h]; exact ha
  · rw [if_neg h]; exact hb
theorem lpr_l (i : Nat) : lpr (.inl i) := fun _ _ h => by cases h
theorem lpr_r (t w : Nat) (hw : w < 100000) : lpr (.inr (t, w)) := fun _ _ h => by cases h; exact hw
theorem lpr_SL (o : Nat) : lpr (SL o) := lpr_if (lpr_l _) (lpr_if (lpr_l _) (lpr_if (lpr_r _ _ (by decide)) (lpr_if (lpr_l _) (lpr_if (lpr_r _ _ (by decide)) (lpr_if (lpr_l _) (lpr_if (lpr_l _) (lpr_if (lpr_r _ _ (by decide)) (lpr_if (lpr_l _) (lpr_if (lpr_l _) (lpr_r _ _ (by decide)))))))))))
theorem lpr_Lay (a : Nat) : lpr (Lay a) := lpr_if (lpr_l _) (lpr_if (lpr_SL _) (lpr_if (lpr_l _) (lpr_if (lpr_r _ _ (by decide)) (lpr_if (lpr_SL _) (lpr_if (lpr_l _) (lpr_if (lpr_r _ _ (by decide)) (lpr_if (lpr_r _ _ (by decide)) (lpr_if (lpr_r _ _ (by decide)) (lpr_if (lpr_r _ _ (by decide)) (lpr_if (lpr_r _ _ (by decide)) (lpr_if (lpr_r _ _ (by decide)) (lpr_if (lpr_r _ _ (by decide)) (lpr_r _ _ (by decide))))))))))))))
theorem lay_lt {k t w : Nat} (hL : Lay k = .inr (t, w)) : w < 100000 := lpr_Lay k t w hL
theorem g_iald {k j w : Nat} {x : Int32} (hL : Lay k = .inr (0, w)) (hk : k < n) (hx : x = nI j) (hj : j < w) (d : decode M.2.1 pc = .ok (.iaload, 1)) (K : Go G M n1 R h n (pc + 1) ls (.int (h.1 k j) :: st)) : Go G M n1 R h n (pc) ls (.int x :: ga G k :: st) := by
  intro n0 p e s m args below meth c H A locs cells slots d0 C hd hl hw hS ha hb hc hs
  obtain ⟨v1, v2⟩ := vin hx hj (lay_lt hL)
  refine va_iald (s := s.setDrawn d0) C.1 C.2.1 hw.2.2.1 hw.2.1 k 0 (wl_a hk hL) rfl v1 d ?_
  rw [v2]
  exact K n0 p e s m args below meth c H A locs cells slots d0 C hd hl hw hS ha hb hc hs
theorem g_dald {k j w : Nat} {x : Int32} (hL : Lay k = .inr (2, w)) (hk : k < n) (hx : x = nI j) (hj : j < w) (d : decode M.2.1 pc = .ok (.daload, 1)) (K : Go G M n1 R h n (pc + 1) ls (.double (h.2.2.1 k j) :: st)) : Go G M n1 R h n (pc) ls (.int x :: ga G k :: st) := by
  intro n0 p e s m args below meth c H A locs cells slots d0 C hd hl hw hS ha hb hc hs
  obtain ⟨v1, v2⟩ := vin hx hj (lay_lt hL)
  refine va_dald (s := s.setDrawn d0) C.1 C.2.1 hw.2.2.1 hw.2.1 k 2 (wl_a hk hL) rfl v1 d ?_
  rw [v2]
  exact K n0 p e s m args below meth c H A locs cells slots d0 C hd hl hw hS ha hb hc hs
theorem g_qald3 {k j w q : Nat} {x : Int32} (hL : Lay k = .inr (3, w)) (hk : k < n) (hx : x = nI j) (hj : j < w) (hq : h.2.2.2 k j = some q) (d : decode M.2.1 pc = .ok (.aaload, 1)) (K : Go G M n1 R h n (pc + 1) ls (ga G q :: st)) : Go G M n1 R h n (pc) ls (.int x :: ga G k :: st) := by
  intro n0 p e s m args below meth c H A locs cells slots d0 C hd hl hw hS ha hb hc hs
  obtain ⟨v1, v2⟩ := vin hx hj (lay_lt hL)
  refine va_aldq (s := s.setDrawn d0) C.1 C.2.1 hw.2.2.1 hw.2.1 k 3 (wl_a hk hL) rfl v1 d ?_
  rw [v2, hq]
  exact K n0 p e s m args below meth c H A locs cells slots d0 C hd hl hw hS ha hb hc hs
theorem g_qald4 {k j w q : Nat} {x : Int32} (hL : Lay k = .inr (4, w)) (hk : k < n) (hx : x = nI j) (hj : j < w) (hq : h.2.2.2 k j = some q) (d : decode M.2.1 pc = .ok (.aaload, 1)) (K : Go G M n1 R h n (pc + 1) ls (ga G q :: st)) : Go G M n1 R h n (pc) ls (.int x :: ga G k :: st) := by
  intro n0 p e s m args below meth c H A locs cells slots d0 C hd hl hw hS ha hb hc hs
  obtain ⟨v1, v2⟩ := vin hx hj (lay_lt hL)
  refine va_aldq (s := s.setDrawn d0) C.1 C.2.1 hw.2.2.1 hw.2.1 k 4 (wl_a hk hL) rfl v1 d ?_
  rw [v2, hq]
  exact K n0 p e s m args below meth c H A locs cells slots d0 C hd hl hw hS ha hb hc hs
theorem g_qald5 {k j w q : Nat} {x : Int32} (hL : Lay k = .inr (5, w)) (hk : k < n) (hx : x = nI j) (hj : j < w) (hq : h.2.2.2 k j = some q) (d : decode M.2.1 pc = .ok (.aaload, 1)) (K : Go G M n1 R h n (pc + 1) ls (ga G q :: st)) : Go G M n1 R h n (pc) ls (.int x :: ga G k :: st) := by
  intro n0 p e s m args below meth c H A locs cells slots d0 C hd hl hw hS ha hb hc hs
  obtain ⟨v1, v2⟩ := vin hx hj (lay_lt hL)
  refine va_aldq (s := s.setDrawn d0) C.1 C.2.1 hw.2.2.1 hw.2.1 k 5 (wl_a hk hL) rfl v1 d ?_
  rw [v2, hq]
  exact K n0 p e s m args below meth c H A locs cells slots d0 C hd hl hw hS ha hb hc hs
theorem g_qald6 {k j w q : Nat} {x : Int32} (hL : Lay k = .inr (6, w)) (hk : k < n) (hx : x = nI j) (hj : j < w) (hq : h.2.2.2 k j = some q) (d : decode M.2.1 pc = .ok (.aaload, 1)) (K : Go G M n1 R h n (pc + 1) ls (ga G q :: st)) : Go G M n1 R h n (pc) ls (.int x :: ga G k :: st) := by
  intro n0 p e s m args below meth c H A locs cells slots d0 C hd hl hw hS ha hb hc hs
  obtain ⟨v1, v2⟩ := vin hx hj (lay_lt hL)
  refine va_aldq (s := s.setDrawn d0) C.1 C.2.1 hw.2.2.1 hw.2.1 k 6 (wl_a hk hL) rfl v1 d ?_
  rw [v2, hq]
  exact K n0 p e s m args below meth c H A locs cells slots d0 C hd hl hw hS ha hb hc hs
theorem g_iast {k j w : Nat} {x v : Int32} (hL : Lay k = .inr (0, w)) (hk : k < n) (hx : x = nI j) (hj : j < w) (d : decode M.2.1 pc = .ok (.iastore, 1)) (K : Go G M n1 R (wI h k j v) n (pc + 1) ls (st)) : Go G M n1 R h n (pc) ls (.int v :: .int x :: ga G k :: st) := by
  intro n0 p e s m args below meth c H A locs cells slots d0 C hd hl hw hS ha hb hc hs
  obtain ⟨v1, v2⟩ := vin hx hj (lay_lt hL)
  refine va_iast (s := s.setDrawn d0) C.1 C.2.1 hw.2.2.1 hw.2.1 wl_D hS k 0 (wl_a hk hL) rfl v1 d (fun H1 locs1 hP1 hD1 hS1 => ?_)
  rw [v2, wl_set (h' := wI h k j v) hk (by rw [ent_a hL, wI_s]; rfl) (fun _ q => wI_o q)] at hP1
  intro T1 hT1 X
  exact K n0 p e s m args below meth c H1 A locs1 cells slots d0 C hd hl (hw.put (wp_size X hT1 C.2.2.2.2.2.2.2.2 ha hc hP1 hS1) hP1 (wp_low C.2.2.2.2.2.2.2.2 hS hS1)) hS1 ha hb hc hs T1 hT1 X
theorem g_dast {k j w : Nat} {x : Int32} {v : UInt64} (hL : Lay k = .inr (2, w)) (hk : k < n) (hx : x = nI j) (hj : j < w) (d : decode M.2.1 pc = .ok (.dastore, 1)) (K : Go G M n1 R (wD h k j v) n (pc + 1) ls (st)) : Go G M n1 R h n (pc) ls (.double v :: .int x :: ga G k :: st) := by
  intro n0 p e s m args below meth c H A locs cells slots d0 C hd hl hw hS ha hb hc hs
  obtain ⟨v1, v2⟩ := vin hx hj (lay_lt hL)
  refine va_dast (s := s.setDrawn d0) C.1 C.2.1 hw.2.2.1 hw.2.1 wl_D hS k 2 (wl_a hk hL) rfl v1 d (fun H1 locs1 hP1 hD1 hS1 => ?_)
  rw [v2, wl_set (h' := wD h k j v) hk (by rw [ent_a hL, wD_s]; rfl) (fun _ q => wD_o q)] at hP1
  intro T1 hT1 X
  exact K n0 p e s m args below meth c H1 A locs1 cells slots d0 C hd hl (hw.put (wp_size X hT1 C.2.2.2.2.2.2.2.2 ha hc hP1 hS1) hP1 (wp_low C.2.2.2.2.2.2.2.2 hS hS1)) hS1 ha hb hc hs T1 hT1 X
theorem g_qast3 {k j w q : Nat} {x : Int32} (hL : Lay k = .inr (3, w)) (hk : k < n) (hx : x = nI j) (hj : j < w) (hq : Lay q = .inl 2) (hqn : q < n) (d : decode M.2.1 pc = .ok (.aastore, 1)) (K : Go G M n1 R (wQ h k j (some q)) n (pc + 1) ls (st)) : Go G M n1 R h n (pc) ls (ga G q :: .int x :: ga G k :: st) := by
  intro n0 p e s m args below meth c H A locs cells slots d0 C hd hl hw hS ha hb hc hs
  obtain ⟨v1, v2⟩ := vin hx hj (lay_lt hL)
  refine va_astq (r := (RX2, TX2, 8)) (s := s.setDrawn d0) C.1 C.2.1 hw.2.2.1 hw.2.1 wl_D hS k 3 q 2 (wl_a hk hL) rfl (wl_o hqn hq) rfl v1 d (fun H1 locs1 hP1 hD1 hS1 => ?_)
  rw [v2, wl_set (h' := wQ h k j (some q)) hk (by rw [ent_a hL, wQ_s]; exact congrArg (fun f => Sum.inl (_, _, f)) (congrArg (fun f => Sum.inr (Sum.inr (Sum.inr (Sum.inr f)))) (funext fun i => by unfold va_up; split <;> rfl))) (fun _ q => wQ_o q)] at hP1
  intro T1 hT1 X
  exact K n0 p e s m args below meth c H1 A locs1 cells slots d0 C hd hl (hw.put (wp_size X hT1 C.2.2.2.2.2.2.2.2 ha hc hP1 hS1) hP1 (wp_low C.2.2.2.2.2.2.2.2 hS hS1)) hS1 ha hb hc hs T1 hT1 X
theorem g_qast4 {k j w q : Nat} {x : Int32} (hL : Lay k = .inr (4, w)) (hk : k < n) (hx : x = nI j) (hj : j < w) (hq : Lay q = .inl 0) (hqn : q < n) (d : decode M.2.1 pc = .ok (.aastore, 1)) (K : Go G M n1 R (wQ h k j (some q)) n (pc + 1) ls (st)) : Go G M n1 R h n (pc) ls (ga G q :: .int x :: ga G k :: st) := by
  intro n0 p e s m args below meth c H A locs cells slots d0 C hd hl hw hS ha hb hc hs
  obtain ⟨v1, v2⟩ := vin hx hj (lay_lt hL)
  refine va_astq (r := (RX0, TX0, 7)) (s := s.setDrawn d0) C.1 C.2.1 hw.2.2.1 hw.2.1 wl_D hS k 4 q 0 (wl_a hk hL) rfl (wl_o hqn hq) rfl v1 d (fun H1 locs1 hP1 hD1 hS1 => ?_)
  rw [v2, wl_set (h' := wQ h k j (some q)) hk (by rw [ent_a hL, wQ_s]; exact congrArg (fun f => Sum.inl (_, _, f)) (congrArg (fun f => Sum.inr (Sum.inr (Sum.inr (Sum.inr f)))) (funext fun i => by unfold va_up; split <;> rfl))) (fun _ q => wQ_o q)] at hP1
  intro T1 hT1 X
  exact K n0 p e s m args below meth c H1 A locs1 cells slots d0 C hd hl (hw.put (wp_size X hT1 C.2.2.2.2.2.2.2.2 ha hc hP1 hS1) hP1 (wp_low C.2.2.2.2.2.2.2.2 hS hS1)) hS1 ha hb hc hs T1 hT1 X
theorem g_qast5 {k j w q : Nat} {x : Int32} (hL : Lay k = .inr (5, w)) (hk : k < n) (hx : x = nI j) (hj : j < w) (hq : Lay q = .inl 3) (hqn : q < n) (d : decode M.2.1 pc = .ok (.aastore, 1)) (K : Go G M n1 R (wQ h k j (some q)) n (pc + 1) ls (st)) : Go G M n1 R h n (pc) ls (ga G q :: .int x :: ga G k :: st) := by
  intro n0 p e s m args below meth c H A locs cells slots d0 C hd hl hw hS ha hb hc hs
  obtain ⟨v1, v2⟩ := vin hx hj (lay_lt hL)
  refine va_astq (r := (RX3, TX3, 13)) (s := s.setDrawn d0) C.1 C.2.1 hw.2.2.1 hw.2.1 wl_D hS k 5 q 3 (wl_a hk hL) rfl (wl_o hqn hq) rfl v1 d (fun H1 locs1 hP1 hD1 hS1 => ?_)
  rw [v2, wl_set (h' := wQ h k j (some q)) hk (by rw [ent_a hL, wQ_s]; exact congrArg (fun f => Sum.inl (_, _, f)) (congrArg (fun f => Sum.inr (Sum.inr (Sum.inr (Sum.inr f)))) (funext fun i => by unfold va_up; split <;> rfl))) (fun _ q => wQ_o q)] at hP1
  intro T1 hT1 X
  exact K n0 p e s m args below meth c H1 A locs1 cells slots d0 C hd hl (hw.put (wp_size X hT1 C.2.2.2.2.2.2.2.2 ha hc hP1 hS1) hP1 (wp_low C.2.2.2.2.2.2.2.2 hS hS1)) hS1 ha hb hc hs T1 hT1 X
theorem g_qast6 {k j w q : Nat} {x : Int32} (hL : Lay k = .inr (6, w)) (hk : k < n) (hx : x = nI j) (hj : j < w) (hq : Lay q = .inl 6) (hqn : q < n) (d : decode M.2.1 pc = .ok (.aastore, 1)) (K : Go G M n1 R (wQ h k j (some q)) n (pc + 1) ls (st)) : Go G M n1 R h n (pc) ls (ga G q :: .int x :: ga G k :: st) := by
  intro n0 p e s m args below meth c H A locs cells slots d0 C hd hl hw hS ha hb hc hs
  obtain ⟨v1, v2⟩ := vin hx hj (lay_lt hL)
  refine va_astq (r := (RX6, TX6, 12)) (s := s.setDrawn d0) C.1 C.2.1 hw.2.2.1 hw.2.1 wl_D hS k 6 q 6 (wl_a hk hL) rfl (wl_o hqn hq) rfl v1 d (fun H1 locs1 hP1 hD1 hS1 => ?_)
  rw [v2, wl_set (h' := wQ h k j (some q)) hk (by rw [ent_a hL, wQ_s]; exact congrArg (fun f => Sum.inl (_, _, f)) (congrArg (fun f => Sum.inr (Sum.inr (Sum.inr (Sum.inr f)))) (funext fun i => by unfold va_up; split <;> rfl))) (fun _ q => wQ_o q)] at hP1
  intro T1 hT1 X
  exact K n0 p e s m args below meth c H1 A locs1 cells slots d0 C hd hl (hw.put (wp_size X hT1 C.2.2.2.2.2.2.2.2 ha hc hP1 hS1) hP1 (wp_low C.2.2.2.2.2.2.2.2 hS hS1)) hS1 ha hb hc hs T1 hT1 X
theorem g_alen {k t w : Nat} {v : Int32} (hL : Lay k = .inr (t, w)) (hk : k < n) (ht : t < 7) (hv : nI w = v) (d : decode M.2.1 pc = .ok (.arraylength, 1)) (K : Go G M n1 R h n (pc + 1) ls (.int v :: st)) : Go G M n1 R h n (pc) ls (ga G k :: st) := by
  intro n0 p e s m args below meth c H A locs cells slots d0 C hd hl hw hS ha hb hc hs
  obtain ⟨q, hq⟩ : ∃ q, (gtys G)[t]? = some (G.2.2.2.1 t, q) := by
    match t, ht with
    | 0, _ => exact ⟨_, rfl⟩
    | 1, _ => exact ⟨_, rfl⟩
    | 2, _ => exact ⟨_, rfl⟩
    | 3, _ => exact ⟨_, rfl⟩
    | 4, _ => exact ⟨_, rfl⟩
    | 5, _ => exact ⟨_, rfl⟩
    | 6, _ => exact ⟨_, rfl⟩
  exact va_alen (s := s.setDrawn d0) C.1 C.2.1 hw.2.2.1 hw.2.1 k t (wl_a hk hL) hq hv d (K n0 p e s m args below meth c H A locs cells slots d0 C hd hl hw hS ha hb hc hs)
theorem g_sld {j : Nat} {x : Int32} (hx : x = nI j) (hj : j < G.2.2.2.2.2.1) (hw9 : G.2.2.2.2.2.1 < 100000) (d : decode M.2.1 pc = .ok (.iaload, 1)) (K : Go G M n1 R h n (pc + 1) ls (.int (G.2.2.2.2.2.2 j) :: st)) : Go G M n1 R h n (pc) ls (.int x :: .ref G.2.2.2.2.1 :: st) := by
  intro n0 p e s m args below meth c H A locs cells slots d0 C hd hl hw hS ha hb hc hs
  obtain ⟨v1, v2⟩ := vin hx hj hw9
  refine va_sld (s := s.setDrawn d0) (A := gA G) (H0 := H) (locs := locs) C.1 C.2.1 hw.2.2.2.2.1 (by have := hw.1; have := hw.2.2.2.2.2; omega) (Nat.not_le.mpr hw.2.2.2.2.2) ⟨Nat.le_refl _, fun _ _ _ => rfl, hS.2.2⟩ v1 d ?_
  rw [v2]
  exact K n0 p e s m args below meth c H A locs cells slots d0 C hd hl hw hS ha hb hc hs
theorem g_slen (d : decode M.2.1 pc = .ok (.arraylength, 1)) (K : Go G M n1 R h n (pc + 1) ls (.int (nI G.2.2.2.2.2.1) :: st)) : Go G M n1 R h n (pc) ls (.ref G.2.2.2.2.1 :: st) := by
  intro n0 p e s m args below meth c H A locs cells slots d0 C hd hl hw hS ha hb hc hs
  exact va_slen (s := s.setDrawn d0) (A := gA G) (H0 := H) (locs := locs) C.1 C.2.1 hw.2.2.2.2.1 (by have := hw.1; have := hw.2.2.2.2.2; omega) (Nat.not_le.mpr hw.2.2.2.2.2) ⟨Nat.le_refl _, fun _ _ _ => rfl, hS.2.2⟩ d (K n0 p e s m args below meth c H A locs cells slots d0 C hd hl hw hS ha hb hc hs)
theorem new_at {ws : va_W} {n : Nat} {q : Nat} {e : va_E} {H1 : Heap} (hws : ws = wl G h n) (hP1 : va_P G.2.2.1 vwCl (ws ++ [(q, e)]) H1) (hD1 : va_D (gA G) (ws ++ [(q, e)])) (hz : H1.size ≤ G.2.1 + (n + 1)) : q = G.2.1 + n := by
  subst hws
  have hlen : (wl G h n).length = n := by simp [wl]
  have hq : (wl G h n ++ [(q, e)])[n]? = some (q, e) := by rw [List.getElem?_append_right (by omega), hlen, Nat.sub_self]; rfl
  have h1 : G.2.1 ≤ q := hD1.2 n _ hq
  have h2 : q < H1.size := (hP1 n _ hq).lt
  rcases Nat.lt_or_ge q (G.2.1 + n) with h3 | h3
  · exfalso
    have hk : q - G.2.1 < n := by omega
    have hk2 : (wl G h n ++ [(q, e)])[q - G.2.1]? = some (G.2.1 + (q - G.2.1), ent G h (q - G.2.1)) := by rw [List.getElem?_append_left (by omega)]; exact wl_at hk
    have := hD1.1 n (q - G.2.1) _ _ hq hk2 (by show q = G.2.1 + (q - G.2.1); omega)
    omega
  · omega
theorem stand_up {p : Program} {e : Env} {Rm : Room} {s : State} {m : MethodId} {args : Array Value} {below : List Frame} {meth : Method} {c : Code} {T : State} {locs : List Loc} {n0 cells slots : Nat} {H : Heap} {d0 : Drawn} (X : Stand p G.1 e Rm (s.setDrawn d0) m args below meth c T locs cells slots) (hT : T.heap = H) (hz : s.heap.size = G.2.1 + n0) (hn : n0 ≤ n) (hc : cells = n - n0) : H.size ≤ G.2.1 + n := by
  have h1 : T.heap.size ≤ s.heap.size + cells := X.same.2.2.1
  rw [hT] at h1
  omega
theorem g_new {ci i N : Nat} {C0 : String} {T : u_T} (F : cb ci C0 T N) (hm : Cond.classLink M.1.cls i C0 ∈ Wt) (hm2 : Cond.instantiable C0 N ∈ Wt) (hm3 : Cond.initialized C0 ∈ Wt) (hL : Lay n = .inl ci) (hn : n + 1 ≤ n1) (d : decode M.2.1 pc = .ok (.new i, 3)) (K : Go G M n1 R (wN h n) (n + 1) (pc + 3) ls (ga G n :: st)) : Go G M n1 R h n (pc) ls (st) := by
  intro n0 p e s m args below meth c H A locs cells slots d0 C hd hl hw hS ha hb hc hs
  obtain ⟨ty0, hty, hdf⟩ := F.2.2.1
  have hcs := F.2.2.2.2 n hL
  have hsl : sl (n + 1) = sl n + N := by show sl n + csz n = _; rw [hcs]
  have m1 := sl_mono (show n + 1 ≤ n1 from hn)
  have m2 := sl_mono (show n0 ≤ n from ha)
  refine va_new (s := s.setDrawn d0) C.1 C.2.1 (C.ws d0) F.2.1 ty0 hty C.2.2.2.2.1 (C.w d0 hm) (C.w d0 hm2) (C.w d0 hm3) hw.2.2.1 hw.2.1 wl_D hS (fun q hq => by show G.2.1 ≤ q; have : (s.setDrawn d0).heap.size = G.2.1 + n0 := C.2.2.2.2.2.2.2.2; have hq2 : s.heap.size ≤ q := hq; have := C.2.2.2.2.2.2.2.2; omega) F.1 (fun j hj => hdf G j hj) (by show cells + 1 ≤ n1 - n0; omega) (by show slots + N ≤ sl n1 - sl n0; omega) d (fun q H1 hP1 hD1 hS1 => ?_)
  intro T1 hT1 X
  have hq := new_at (G := G) (h := h) rfl hP1 hD1 (stand_up X hT1 C.2.2.2.2.2.2.2.2 (n := n + 1) (by omega) (by omega))
  subst hq
  rw [wl_push (h' := wN h n) (by rw [ent_o hL]; obtain ⟨a1, a2, a3, a4⟩ := wN_s (h := h) (a := n); rw [a1, a2, a4]) (fun q hq => wN_o (Nat.ne_of_lt hq))] at hP1
  exact K n0 p e s m args below meth c H1 A locs (cells + 1) (slots + N) d0 C hd hl (hw.put (wp_size X hT1 C.2.2.2.2.2.2.2.2 (by omega) (by omega) hP1 hS1) hP1 (wp_low C.2.2.2.2.2.2.2.2 hS hS1)) hS1 (by omega) hn (by omega) (by omega) T1 hT1 X
theorem g_newa_int {w : Nat} {x : Int32} (hm : Cond.arrayClass .int ∈ Wt) (hL : Lay n = .inr (0, w)) (hx : x = nI w) (hn : n + 1 ≤ n1) (d : decode M.2.1 pc = .ok (.newarray .int, 2)) (K : Go G M n1 R (wN h n) (n + 1) (pc + 2) ls (ga G n :: st)) : Go G M n1 R h n (pc) ls (.int x :: st) := by
  intro n0 p e s m args below meth c H A locs cells slots d0 C hd hl hw hS ha hb hc hs
  have hw9 := lay_lt hL
  have hsl : sl (n + 1) = sl n + w := by show sl n + csz n = _; simp only [csz, hL]
  have m1 := sl_mono (show n + 1 ≤ n1 from hn)
  have m2 := sl_mono (show n0 ≤ n from ha)
  refine va_newa (s := s.setDrawn d0) (atype := .int) C.1 C.2.1 (C.w d0 hm) (ty := .int) rfl hw.2.2.1 hw.2.1 wl_D hS (fun q hq => by show G.2.1 ≤ q; have hq2 : s.heap.size ≤ q := hq; have := C.2.2.2.2.2.2.2.2; omega) (N' := w) (a0 := (w, .inl (fun _ => 0))) (fun _ => rfl) (by rw [hx]; exact nI_pos (by omega)) (by rw [hx]; exact nI_clamp (by omega)) (by show w * 4 ≤ _; omega) (by show cells + 1 ≤ n1 - n0; omega) (by show slots + w ≤ sl n1 - sl n0; omega) d (fun q cA H1 hK1 hP1 hD1 hS1 => ?_)
  intro T1 hT1 X
  have hq := new_at (G := G) (h := h) rfl hP1 hD1 (stand_up X hT1 C.2.2.2.2.2.2.2.2 (n := n + 1) (by omega) (by omega))
  subst hq
  have hcA : cA = G.2.2.2.1 0 := Option.some.inj ((show s.vm.findClass _ = some cA from (hK1.2 7 (cA, .int) rfl).2).symm.trans (show s.vm.findClass _ = some (G.2.2.2.1 0) from (hw.2.2.1.2 0 (G.2.2.2.1 0, .int) rfl).2))
  subst hcA
  rw [wl_push (h' := wN h n) (by rw [ent_a hL]; obtain ⟨a1, a2, a3, a4⟩ := wN_s (h := h) (a := n); rw [a1, a3, a4]; rfl) (fun q hq => wN_o (Nat.ne_of_lt hq))] at hP1
  exact K n0 p e s m args below meth c H1 A locs (cells + 1) (slots + w) d0 C hd hl (hw.put (wp_size X hT1 C.2.2.2.2.2.2.2.2 (by omega) (by omega) hP1 hS1) hP1 (wp_low C.2.2.2.2.2.2.2.2 hS hS1)) hS1 (by omega) hn (by omega) (by omega) T1 hT1 X
theorem g_newa_char {w : Nat} {x : Int32} (hm : Cond.arrayClass .char ∈ Wt) (hL : Lay n = .inr (1, w)) (hx : x = nI w) (hn : n + 1 ≤ n1) (d : decode M.2.1 pc = .ok (.newarray .char, 2)) (K : Go G M n1 R (wN h n) (n + 1) (pc + 2) ls (ga G n :: st)) : Go G M n1 R h n (pc) ls (.int x :: st) := by
  intro n0 p e s m args below meth c H A locs cells slots d0 C hd hl hw hS ha hb hc hs
  have hw9 := lay_lt hL
  have hsl : sl (n + 1) = sl n + w := by show sl n + csz n = _; simp only [csz, hL]
  have m1 := sl_mono (show n + 1 ≤ n1 from hn)
  have m2 := sl_mono (show n0 ≤ n from ha)
  refine va_newa (s := s.setDrawn d0) (atype := .char) C.1 C.2.1 (C.w d0 hm) (ty := .char) rfl hw.2.2.1 hw.2.1 wl_D hS (fun q hq => by show G.2.1 ≤ q; have hq2 : s.heap.size ≤ q := hq; have := C.2.2.2.2.2.2.2.2; omega) (N' := w) (a0 := (w, .inl (fun _ => 0))) (fun _ => rfl) (by rw [hx]; exact nI_pos (by omega)) (by rw [hx]; exact nI_clamp (by omega)) (by show w * 2 ≤ _; omega) (by show cells + 1 ≤ n1 - n0; omega) (by show slots + w ≤ sl n1 - sl n0; omega) d (fun q cA H1 hK1 hP1 hD1 hS1 => ?_)
  intro T1 hT1 X
  have hq := new_at (G := G) (h := h) rfl hP1 hD1 (stand_up X hT1 C.2.2.2.2.2.2.2.2 (n := n + 1) (by omega) (by omega))
  subst hq
  have hcA : cA = G.2.2.2.1 1 := Option.some.inj ((show s.vm.findClass _ = some cA from (hK1.2 7 (cA, .char) rfl).2).symm.trans (show s.vm.findClass _ = some (G.2.2.2.1 1) from (hw.2.2.1.2 1 (G.2.2.2.1 1, .char) rfl).2))
  subst hcA
  rw [wl_push (h' := wN h n) (by rw [ent_a hL]; obtain ⟨a1, a2, a3, a4⟩ := wN_s (h := h) (a := n); rw [a1, a3, a4]; rfl) (fun q hq => wN_o (Nat.ne_of_lt hq))] at hP1
  exact K n0 p e s m args below meth c H1 A locs (cells + 1) (slots + w) d0 C hd hl (hw.put (wp_size X hT1 C.2.2.2.2.2.2.2.2 (by omega) (by omega) hP1 hS1) hP1 (wp_low C.2.2.2.2.2.2.2.2 hS hS1)) hS1 (by omega) hn (by omega) (by omega) T1 hT1 X
theorem g_newa_double {w : Nat} {x : Int32} (hm : Cond.arrayClass .double ∈ Wt) (hL : Lay n = .inr (2, w)) (hx : x = nI w) (hn : n + 1 ≤ n1) (d : decode M.2.1 pc = .ok (.newarray .double, 2)) (K : Go G M n1 R (wN h n) (n + 1) (pc + 2) ls (ga G n :: st)) : Go G M n1 R h n (pc) ls (.int x :: st) := by
  intro n0 p e s m args below meth c H A locs cells slots d0 C hd hl hw hS ha hb hc hs
  have hw9 := lay_lt hL
  have hsl : sl (n + 1) = sl n + w := by show sl n + csz n = _; simp only [csz, hL]
  have m1 := sl_mono (show n + 1 ≤ n1 from hn)
  have m2 := sl_mono (show n0 ≤ n from ha)
  refine va_newa (s := s.setDrawn d0) (atype := .double) C.1 C.2.1 (C.w d0 hm) (ty := .double) rfl hw.2.2.1 hw.2.1 wl_D hS (fun q hq => by show G.2.1 ≤ q; have hq2 : s.heap.size ≤ q := hq; have := C.2.2.2.2.2.2.2.2; omega) (N' := w) (a0 := (w, .inr (.inr (.inr (.inl (fun _ => 0)))))) (fun _ => rfl) (by rw [hx]; exact nI_pos (by omega)) (by rw [hx]; exact nI_clamp (by omega)) (by show w * 8 ≤ _; omega) (by show cells + 1 ≤ n1 - n0; omega) (by show slots + w ≤ sl n1 - sl n0; omega) d (fun q cA H1 hK1 hP1 hD1 hS1 => ?_)
  intro T1 hT1 X
  have hq := new_at (G := G) (h := h) rfl hP1 hD1 (stand_up X hT1 C.2.2.2.2.2.2.2.2 (n := n + 1) (by omega) (by omega))
  subst hq
  have hcA : cA = G.2.2.2.1 2 := Option.some.inj ((show s.vm.findClass _ = some cA from (hK1.2 7 (cA, .double) rfl).2).symm.trans (show s.vm.findClass _ = some (G.2.2.2.1 2) from (hw.2.2.1.2 2 (G.2.2.2.1 2, .double) rfl).2))
  subst hcA
  rw [wl_push (h' := wN h n) (by rw [ent_a hL]; obtain ⟨a1, a2, a3, a4⟩ := wN_s (h := h) (a := n); rw [a1, a3, a4]; rfl) (fun q hq => wN_o (Nat.ne_of_lt hq))] at hP1
  exact K n0 p e s m args below meth c H1 A locs (cells + 1) (slots + w) d0 C hd hl (hw.put (wp_size X hT1 C.2.2.2.2.2.2.2.2 (by omega) (by omega) hP1 hS1) hP1 (wp_low C.2.2.2.2.2.2.2.2 hS hS1)) hS1 (by omega) hn (by omega) (by omega) T1 hT1 X
theorem g_newq3 {w i : Nat} {x : Int32} (hm : Cond.classLink M.1.cls i RX2 ∈ Wt) (hL : Lay n = .inr (3, w)) (hx : x = nI w) (hn : n + 1 ≤ n1) (d : decode M.2.1 pc = .ok (.anewarray i, 3)) (K : Go G M n1 R (wN h n) (n + 1) (pc + 3) ls (ga G n :: st)) : Go G M n1 R h n (pc) ls (.int x :: st) := by
  intro n0 p e s m args below meth c H A locs cells slots d0 C hd hl hw hS ha hb hc hs
  have hw9 := lay_lt hL
  have hsl : sl (n + 1) = sl n + w := by show sl n + csz n = _; simp only [csz, hL]
  have m1 := sl_mono (show n + 1 ≤ n1 from hn)
  have m2 := sl_mono (show n0 ≤ n from ha)
  refine va_newq (s := s.setDrawn d0) C.1 C.2.1 C.2.2.2.2.1 (C.w d0 hm) (va_AO.moved (Vm.Alike.refl _) hw.2.2.2.1.1) hw.2.2.1 hw.2.1 wl_D hS (fun q hq => by show G.2.1 ≤ q; have hq2 : s.heap.size ≤ q := hq; have := C.2.2.2.2.2.2.2.2; omega) (N' := w) (by rw [hx]; exact nI_pos (by omega)) (by rw [hx]; exact nI_clamp (by omega)) (by omega) (by show cells + 1 ≤ n1 - n0; omega) (by show slots + w ≤ sl n1 - sl n0; omega) d (fun q cA H1 hK1 hP1 hD1 hS1 => ?_)
  intro T1 hT1 X
  have hq := new_at (G := G) (h := h) rfl hP1 hD1 (stand_up X hT1 C.2.2.2.2.2.2.2.2 (n := n + 1) (by omega) (by omega))
  subst hq
  have hcA : cA = G.2.2.2.1 3 := by
    obtain ⟨_, _, _, _, _, b1⟩ := (hK1.2 7 (cA, .object RX2) rfl).2
    obtain ⟨_, _, _, _, _, b2⟩ := (hw.2.2.1.2 3 (G.2.2.2.1 3, .object RX2) rfl).2
    exact Option.some.inj (b1.symm.trans b2)
  subst hcA
  rw [wl_push (h' := wN h n) (by rw [ent_a hL]; obtain ⟨a1, a2, a3, a4⟩ := wN_s (h := h) (a := n); rw [a4]; rfl) (fun q hq => wN_o (Nat.ne_of_lt hq))] at hP1
  exact K n0 p e s m args below meth c H1 A locs (cells + 1) (slots + w) d0 C hd hl (hw.put (wp_size X hT1 C.2.2.2.2.2.2.2.2 (by omega) (by omega) hP1 hS1) hP1 (wp_low C.2.2.2.2.2.2.2.2 hS hS1)) hS1 (by omega) hn (by omega) (by omega) T1 hT1 X
theorem g_newq4 {w i : Nat} {x : Int32} (hm : Cond.classLink M.1.cls i RX0 ∈ Wt) (hL : Lay n = .inr (4, w)) (hx : x = nI w) (hn : n + 1 ≤ n1) (d : decode M.2.1 pc = .ok (.anewarray i, 3)) (K : Go G M n1 R (wN h n) (n + 1) (pc + 3) ls (ga G n :: st)) : Go G M n1 R h n (pc) ls (.int x :: st) := by
  intro n0 p e s m args below meth c H A locs cells slots d0 C hd hl hw hS ha hb hc hs
  have hw9 := lay_lt hL
  have hsl : sl (n + 1) = sl n + w := by show sl n + csz n = _; simp only [csz, hL]
  have m1 := sl_mono (show n + 1 ≤ n1 from hn)
  have m2 := sl_mono (show n0 ≤ n from ha)
  refine va_newq (s := s.setDrawn d0) C.1 C.2.1 C.2.2.2.2.1 (C.w d0 hm) (va_AO.moved (Vm.Alike.refl _) hw.2.2.2.1.2.1) hw.2.2.1 hw.2.1 wl_D hS (fun q hq => by show G.2.1 ≤ q; have hq2 : s.heap.size ≤ q := hq; have := C.2.2.2.2.2.2.2.2; omega) (N' := w) (by rw [hx]; exact nI_pos (by omega)) (by rw [hx]; exact nI_clamp (by omega)) (by omega) (by show cells + 1 ≤ n1 - n0; omega) (by show slots + w ≤ sl n1 - sl n0; omega) d (fun q cA H1 hK1 hP1 hD1 hS1 => ?_)
  intro T1 hT1 X
  have hq := new_at (G := G) (h := h) rfl hP1 hD1 (stand_up X hT1 C.2.2.2.2.2.2.2.2 (n := n + 1) (by omega) (by omega))
  subst hq
  have hcA : cA = G.2.2.2.1 4 := by
    obtain ⟨_, _, _, _, _, b1⟩ := (hK1.2 7 (cA, .object RX0) rfl).2
    obtain ⟨_, _, _, _, _, b2⟩ := (hw.2.2.1.2 4 (G.2.2.2.1 4, .object RX0) rfl).2
    exact Option.some.inj (b1.symm.trans b2)
  subst hcA
  rw [wl_push (h' := wN h n) (by rw [ent_a hL]; obtain ⟨a1, a2, a3, a4⟩ := wN_s (h := h) (a := n); rw [a4]; rfl) (fun q hq => wN_o (Nat.ne_of_lt hq))] at hP1
  exact K n0 p e s m args below meth c H1 A locs (cells + 1) (slots + w) d0 C hd hl (hw.put (wp_size X hT1 C.2.2.2.2.2.2.2.2 (by omega) (by omega) hP1 hS1) hP1 (wp_low C.2.2.2.2.2.2.2.2 hS hS1)) hS1 (by omega) hn (by omega) (by omega) T1 hT1 X
theorem g_newq5 {w i : Nat} {x : Int32} (hm : Cond.classLink M.1.cls i RX3 ∈ Wt) (hL : Lay n = .inr (5, w)) (hx : x = nI w) (hn : n + 1 ≤ n1) (d : decode M.2.1 pc = .ok (.anewarray i, 3)) (K : Go G M n1 R (wN h n) (n + 1) (pc + 3) ls (ga G n :: st)) : Go G M n1 R h n (pc) ls (.int x :: st) := by
  intro n0 p e s m args below meth c H A locs cells slots d0 C hd hl hw hS ha hb hc hs
  have hw9 := lay_lt hL
  have hsl : sl (n + 1) = sl n + w := by show sl n + csz n = _; simp only [csz, hL]
  have m1 := sl_mono (show n + 1 ≤ n1 from hn)
  have m2 := sl_mono (show n0 ≤ n from ha)
  refine va_newq (s := s.setDrawn d0) C.1 C.2.1 C.2.2.2.2.1 (C.w d0 hm) (va_AO.moved (Vm.Alike.refl _) hw.2.2.2.1.2.2.1) hw.2.2.1 hw.2.1 wl_D hS (fun q hq => by show G.2.1 ≤ q; have hq2 : s.heap.size ≤ q := hq; have := C.2.2.2.2.2.2.2.2; omega) (N' := w) (by rw [hx]; exact nI_pos (by omega)) (by rw [hx]; exact nI_clamp (by omega)) (by omega) (by show cells + 1 ≤ n1 - n0; omega) (by show slots + w ≤ sl n1 - sl n0; omega) d (fun q cA H1 hK1 hP1 hD1 hS1 => ?_)
  intro T1 hT1 X
  have hq := new_at (G := G) (h := h) rfl hP1 hD1 (stand_up X hT1 C.2.2.2.2.2.2.2.2 (n := n + 1) (by omega) (by omega))
  subst hq
  have hcA : cA = G.2.2.2.1 5 := by
    obtain ⟨_, _, _, _, _, b1⟩ := (hK1.2 7 (cA, .object RX3) rfl).2
    obtain ⟨_, _, _, _, _, b2⟩ := (hw.2.2.1.2 5 (G.2.2.2.1 5, .object RX3) rfl).2
    exact Option.some.inj (b1.symm.trans b2)
  subst hcA
  rw [wl_push (h' := wN h n) (by rw [ent_a hL]; obtain ⟨a1, a2, a3, a4⟩ := wN_s (h := h) (a := n); rw [a4]; rfl) (fun q hq => wN_o (Nat.ne_of_lt hq))] at hP1
  exact K n0 p e s m args below meth c H1 A locs (cells + 1) (slots + w) d0 C hd hl (hw.put (wp_size X hT1 C.2.2.2.2.2.2.2.2 (by omega) (by omega) hP1 hS1) hP1 (wp_low C.2.2.2.2.2.2.2.2 hS hS1)) hS1 (by omega) hn (by omega) (by omega) T1 hT1 X
theorem g_newq6 {w i : Nat} {x : Int32} (hm : Cond.classLink M.1.cls i RX6 ∈ Wt) (hL : Lay n = .inr (6, w)) (hx : x = nI w) (hn : n + 1 ≤ n1) (d : decode M.2.1 pc = .ok (.anewarray i, 3)) (K : Go G M n1 R (wN h n) (n + 1) (pc + 3) ls (ga G n :: st)) : Go G M n1 R h n (pc) ls (.int x :: st) := by
  intro n0 p e s m args below meth c H A locs cells slots d0 C hd hl hw hS ha hb hc hs
  have hw9 := lay_lt hL
  have hsl : sl (n + 1) = sl n + w := by show sl n + csz n = _; simp only [csz, hL]
  have m1 := sl_mono (show n + 1 ≤ n1 from hn)
  have m2 := sl_mono (show n0 ≤ n from ha)
  refine va_newq (s := s.setDrawn d0) C.1 C.2.1 C.2.2.2.2.1 (C.w d0 hm) (va_AO.moved (Vm.Alike.refl _) hw.2.2.2.1.2.2.2) hw.2.2.1 hw.2.1 wl_D hS (fun q hq => by show G.2.1 ≤ q; have hq2 : s.heap.size ≤ q := hq; have := C.2.2.2.2.2.2.2.2; omega) (N' := w) (by rw [hx]; exact nI_pos (by omega)) (by rw [hx]; exact nI_clamp (by omega)) (by omega) (by show cells + 1 ≤ n1 - n0; omega) (by show slots + w ≤ sl n1 - sl n0; omega) d (fun q cA H1 hK1 hP1 hD1 hS1 => ?_)
  intro T1 hT1 X
  have hq := new_at (G := G) (h := h) rfl hP1 hD1 (stand_up X hT1 C.2.2.2.2.2.2.2.2 (n := n + 1) (by omega) (by omega))
  subst hq
  have hcA : cA = G.2.2.2.1 6 := by
    obtain ⟨_, _, _, _, _, b1⟩ := (hK1.2 7 (cA, .object RX6) rfl).2
    obtain ⟨_, _, _, _, _, b2⟩ := (hw.2.2.1.2 6 (G.2.2.2.1 6, .object RX6) rfl).2
    exact Option.some.inj (b1.symm.trans b2)
  subst hcA
  rw [wl_push (h' := wN h n) (by rw [ent_a hL]; obtain ⟨a1, a2, a3, a4⟩ := wN_s (h := h) (a := n); rw [a4]; rfl) (fun q hq => wN_o (Nat.ne_of_lt hq))] at hP1
  exact K n0 p e s m args below meth c H1 A locs (cells + 1) (slots + w) d0 C hd hl (hw.put (wp_size X hT1 C.2.2.2.2.2.2.2.2 (by omega) (by omega) hP1 hS1) hP1 (wp_low C.2.2.2.2.2.2.2.2 hS hS1)) hS1 (by omega) hn (by omega) (by omega) T1 hT1 X
theorem g_iret {v : Int32} (hr : M.2.2.2.1 = some .int) (d : decode M.2.1 pc = .ok (.ireturn, 1)) (hR : R (some (.int v)) h) : Go G M n R h n pc ls [.int v] := by
  intro n0 p e s m args below meth c H A locs cells slots d0 C hd hl hw hS ha hb hc hs
  subst hc; subst hs
  refine W.endD hd ?_
  exact W.iret (s := s.setDrawn d0) C.1 C.2.1 (C.2.2.1.trans hr) (fun t ht hW => ⟨⟨_, h, rfl, hR, by rw [ht]; exact (hw.moved (show s.vm.Alike t.vm from hW.alike))⟩, hS.F ht⟩) hS.2.2 d C.2.2.2.2.2.2.1
theorem g_zret {v : Int32} (hv : narrow .boolean (.int v) = .int v) (hr : M.2.2.2.1 = some .boolean) (d : decode M.2.1 pc = .ok (.ireturn, 1)) (hR : R (some (.int v)) h) : Go G M n R h n pc ls [.int v] := by
  intro n0 p e s m args below meth c H A locs cells slots d0 C hd hl hw hS ha hb hc hs
  subst hc; subst hs
  refine W.endD hd ?_
  exact W.zret (s := s.setDrawn d0) C.1 C.2.1 (C.2.2.1.trans hr) hv (fun t ht hW => ⟨⟨_, h, rfl, hR, by rw [ht]; exact (hw.moved (show s.vm.Alike t.vm from hW.alike))⟩, hS.F ht⟩) hS.2.2 d C.2.2.2.2.2.2.1
theorem g_fret {v : UInt32} (hr : M.2.2.2.1 = some .float) (d : decode M.2.1 pc = .ok (.freturn, 1)) (hR : R (some (.float v)) h) : Go G M n R h n pc ls [.float v] := by
  intro n0 p e s m args below meth c H A locs cells slots d0 C hd hl hw hS ha hb hc hs
  subst hc; subst hs
  refine W.endD hd ?_
  exact W.fret (s := s.setDrawn d0) C.1 C.2.1 (C.2.2.1.trans hr) (fun t ht hW => ⟨⟨_, h, rfl, hR, by rw [ht]; exact (hw.moved (show s.vm.Alike t.vm from hW.alike))⟩, hS.F ht⟩) hS.2.2 d C.2.2.2.2.2.2.1
theorem g_vret  (hr : M.2.2.2.1 = none) (d : decode M.2.1 pc = .ok (.return_, 1)) (hR : R (none) h) : Go G M n R h n pc ls [] := by
  intro n0 p e s m args below meth c H A locs cells slots d0 C hd hl hw hS ha hb hc hs
  subst hc; subst hs
  refine W.endD hd ?_
  exact W.vret (s := s.setDrawn d0) C.1 C.2.1 (C.2.2.1.trans hr) (fun t ht hW => ⟨⟨_, h, rfl, hR, by rw [ht]; exact (hw.moved (show s.vm.Alike t.vm from hW.alike))⟩, hS.F ht⟩) hS.2.2 d C.2.2.2.2.2.2.1
theorem g_aret {v : Value} {nm : String} (hv : v = .null ∨ ∃ a, v = .ref a) (hr : M.2.2.2.1 = some (.object nm)) (d : decode M.2.1 pc = .ok (.areturn, 1)) (hR : R (some (v)) h) : Go G M n R h n pc ls [v] := by
  intro n0 p e s m args below meth c H A locs cells slots d0 C hd hl hw hS ha hb hc hs
  subst hc; subst hs
  refine W.endD hd ?_
  exact W.aret (s := s.setDrawn d0) C.1 C.2.1 (C.2.2.1.trans hr) (Or.inl ⟨_, rfl⟩) hv (fun t ht hW => ⟨⟨_, h, rfl, hR, by rw [ht]; exact (hw.moved (show s.vm.Alike t.vm from hW.alike))⟩, hS.F ht⟩) hS.2.2 d C.2.2.2.2.2.2.1
theorem g_objInit {k i : Nat} (hm : Cond.methodLink M.1.cls i objectInit ∈ Wt) (hrm : 1 ≤ M.2.2.2.2.1 ∧ 20 ≤ M.2.2.2.2.2) (hst : (st.map fun v => v.category).sum ≤ 8) (d : decode M.2.1 pc = .ok (.invokespecial i, 3)) (K : Go G M n1 R h n (pc + 3) ls (st)) : Go G M n1 R h n (pc) ls (ga G k :: st) := by
  intro n0 p e s m args below meth c H A locs cells slots d0 C hd hl hw hS ha hb hc hs
  refine W.objInit (s := s.setDrawn d0) C.1 C.2.1 C.2.2.2.2.1 (C.w d0 hm) (C.w d0 (mOI)) (C.w d0 mOC) (g := F0 m pc A (ga G k :: st)) rfl (hl.2.1.trans C.2.2.2.1.symm) rfl d hrm.1 (by show 2 * 0 + _ + 12 ≤ M.2.2.2.2.2; omega) ?_
  exact K n0 p e s m args below meth c H A locs cells slots d0 C hd hl hw hS ha hb hc hs
theorem g_min {i : Nat} {x y : Int32} (hm : Cond.methodLink M.1.cls i Lib.Math.min.name ∈ Wt) (hrm : 1 ≤ M.2.2.2.2.1 ∧ 21 ≤ M.2.2.2.2.2) (hst : (st.map fun v => v.category).sum ≤ 8) (d : decode M.2.1 pc = .ok (.invokestatic i, 3)) (K : Go G M n1 R h n (pc + 3) ls (.int (if y < x then y else x) :: st)) : Go G M n1 R h n (pc) ls (.int y :: .int x :: st) := by
  intro n0 p e s m args below meth c H A locs cells slots d0 C hd hl hw hS ha hb hc hs
  have q1 := sl_mono hb
  have q2 := sl_mono ha
  refine va_mmin (s := s.setDrawn d0) C.1 C.2.1 (C.2.2.2.1.trans hl.2.1.symm) C.2.2.2.2.1 (C.w d0 hm) (C.w d0 mMinS) (C.w d0 mMathI) (C.w d0 mMinC) hrm.1 (by show _ + 13 ≤ M.2.2.2.2.2; omega) (by show cells ≤ n1 - n0; omega) (by show slots ≤ sl n1 - sl n0; omega) d ?_
  exact K n0 p e s m args below meth c H A locs cells slots d0 C hd hl hw hS ha hb hc hs
theorem g_abs {i : Nat} {x : Int32} (hm : Cond.methodLink M.1.cls i Lib.Math.abs.name ∈ Wt) (hrm : 1 ≤ M.2.2.2.2.1 ∧ 21 ≤ M.2.2.2.2.2) (hst : (st.map fun v => v.category).sum ≤ 8) (d : decode M.2.1 pc = .ok (.invokestatic i, 3)) (K : Go G M n1 R h n (pc + 3) ls (.int (if 0 ≤ x then x else 0 - x) :: st)) : Go G M n1 R h n (pc) ls (.int x :: st) := by
  intro n0 p e s m args below meth c H A locs cells slots d0 C hd hl hw hS ha hb hc hs
  have q1 := sl_mono hb
  have q2 := sl_mono ha
  refine va_mabs (s := s.setDrawn d0) C.1 C.2.1 (C.2.2.2.1.trans hl.2.1.symm) C.2.2.2.2.1 (C.w d0 hm) (C.w d0 mAbsS) (C.w d0 mMathI) (C.w d0 mAbsC) hrm.1 (by show _ + 13 ≤ M.2.2.2.2.2; omega) (by show cells ≤ n1 - n0; omega) (by show slots ≤ sl n1 - sl n0; omega) d ?_
  exact K n0 p e s m args below meth c H A locs cells slots d0 C hd hl hw hS ha hb hc hs
theorem g_copy {i k0 k1 w0 w1 w : Nat} (hm : Cond.methodLink M.1.cls i arraycopyName ∈ Wt) (hL0 : Lay k0 = .inr (0, w0)) (hk0 : k0 < n) (hL1 : Lay k1 = .inr (0, w1)) (hk1 : k1 < n) (h0 : w ≤ w0) (h1 : w ≤ w1) (hw1 : w < 100000) (hrm : 1 ≤ M.2.2.2.2.1 ∧ 8 + (nativeFrameWords "java/lang/System" "arraycopy" 5 + 11) ≤ M.2.2.2.2.2) (hst : (st.map fun v => v.category).sum ≤ 8) (d : decode M.2.1 pc = .ok (.invokestatic i, 3)) (K : Go G M n1 R (wR h k1 (va_cpy (h.1 k0) (h.1 k1) 0 0 w)) n (pc + 3) ls (st)) : Go G M n1 R h n (pc) ls (.int (nI w) :: .int 0 :: ga G k1 :: .int 0 :: ga G k0 :: st) := by
  intro n0 p e s m args below meth c H A locs cells slots d0 C hd hl hw hS ha hb hc hs
  have e1 : (nI w).toNatClampNeg = w := nI_clamp (by omega)
  have e0 : (0 : Int32).toNatClampNeg = 0 := rfl
  refine va_copyi (s := s.setDrawn d0) C.1 C.2.1 (C.2.2.2.1.trans hl.2.1.symm) C.2.2.2.2.1 (C.w d0 hm) (C.w d0 mCpN) (C.w d0 mCpS) (C.w d0 mSysI) hw.2.2.1 hw.2.1 wl_D hS k0 k1 0 0 (wl_a hk0 hL0) (wl_a hk1 hL1) (ty := .int) rfl rfl rfl (by decide) (by decide) (nI_pos (by omega)) (by rw [e0, e1]; omega) (by rw [e0, e1]; omega) (fun _ _ => rfl) hrm.1 (by show _ + _ ≤ M.2.2.2.2.2; omega) d (fun H1 locs1 hP1 hD1 hS1 => ?_)
  rw [e0, e1, wl_set (h' := wR h k1 (va_cpy (h.1 k0) (h.1 k1) 0 0 w)) hk1 (by rw [ent_a hL1, wR_s]; rfl) (fun _ q => wR_o q)] at hP1
  intro T1 hT1 X
  exact K n0 p e s m args below meth c H1 A locs1 cells slots d0 C hd hl (hw.put (wp_size X hT1 C.2.2.2.2.2.2.2.2 ha hc hP1 hS1) hP1 (wp_low C.2.2.2.2.2.2.2.2 hS hS1)) hS1 ha hb hc hs T1 hT1 X
end GM
end
section
/-! ===== CALLS (written by gen/calls.py) ===== -/
/-- results: an int, a float, nothing, a cell or null, each with the heap behind it -/
def dI (r : Int32) (h2 : Hp) : Option Value → Hp → Prop := fun v h' => v = some (.int r) ∧ h' = h2
def dF (r : UInt32) (h2 : Hp) : Option Value → Hp → Prop := fun v h' => v = some (.float r) ∧ h' = h2
def dV (h2 : Hp) : Option Value → Hp → Prop := fun v h' => v = none ∧ h' = h2
def dQ (G : Gl) (q : Option Nat) (h2 : Hp) : Option Value → Hp → Prop := fun v h' => v = some (gr G q) ∧ h' = h2
def rI (Q : Int32 → Hp → Prop) : Option Value → Hp → Prop := fun v h' => ∃ r, v = some (.int r) ∧ Q r h'
def rV (Q : Hp → Prop) : Option Value → Hp → Prop := fun v h' => v = none ∧ Q h'
def okB (Mc : Mt) (k : Nat) : Prop := Cond.initialized Mc.1.cls ∈ Wt ∧ Cond.code Mc.1 Mc.2.1 Mc.2.2.1 Mc.2.2.2.1 ∈ Wt ∧ (Mc.1.cls ≠ "java/lang/invoke/MethodHandle" ∧ Mc.1.cls ≠ "java/lang/invoke/VarHandle") ∧ (parseMethodDescriptor Mc.1.desc).map (fun d => d.parameters.length) = some k
def okV (Mc : Mt) (k : Nat) : Prop := okB Mc k ∧ Cond.instanceMethod Mc.1 ∈ Wt ∧ Cond.selects Mc.1.cls Mc.1 Mc.1 ∈ Wt
def okS (Mc : Mt) (k : Nat) : Prop := okB Mc k ∧ Cond.static Mc.1 ∈ Wt
def okI (Mc : Mt) (k : Nat) : Prop := okB Mc k ∧ Cond.instanceMethod Mc.1 ∈ Wt ∧ Mc.1.name = "<init>" ∧ Mc.2.2.2.1 = none
def okR (M Mc : Mt) : Prop := Mc.2.2.2.2.1 + 1 ≤ M.2.2.2.2.1 ∧ 8 + (Mc.2.2.1 + 11) + Mc.2.2.2.2.2 ≤ M.2.2.2.2.2
theorem gd_M {M Mc : Mt} (h : Cond.code Mc.1 Mc.2.1 Mc.2.2.1 Mc.2.2.2.1 ∈ Wt) : GoodIn (wM M) (wM Mc) := by
  intro w hw
  rcases List.mem_cons.mp hw with rfl | hw
  · exact ⟨List.mem_cons_of_mem _ h, (Wt_good _ h).2⟩
  · exact ⟨List.mem_cons_of_mem _ hw, (Wt_good _ hw).2⟩
section GC
variable {G : Gl} {M : Mt} {n1 : Nat} {R : Option Value → Hp → Prop} {h : Hp} {n pc : Nat} {ls : List (Option Value)} {st : List Value}
theorem dI_K {r : Int32} {h2 : Hp} {n' pc' : Nat} (K : Go G M n1 R h2 n' pc' ls (.int r :: st)) : ∀ v h', dI r h2 v h' → Go G M n1 R h' n' pc' ls (v.toList ++ st) := by
  rintro _ _ ⟨rfl, rfl⟩; exact K
theorem dF_K {r : UInt32} {h2 : Hp} {n' pc' : Nat} (K : Go G M n1 R h2 n' pc' ls (.float r :: st)) : ∀ v h', dF r h2 v h' → Go G M n1 R h' n' pc' ls (v.toList ++ st) := by
  rintro _ _ ⟨rfl, rfl⟩; exact K
theorem dV_K {h2 : Hp} {n' pc' : Nat} (K : Go G M n1 R h2 n' pc' ls st) : ∀ v h', dV h2 v h' → Go G M n1 R h' n' pc' ls (v.toList ++ st) := by
  rintro _ _ ⟨rfl, rfl⟩; exact K
theorem dQ_K {q : Nat} {h2 : Hp} {n' pc' : Nat} (K : Go G M n1 R h2 n' pc' ls (ga G q :: st)) : ∀ v h', dQ G (some q) h2 v h' → Go G M n1 R h' n' pc' ls (v.toList ++ st) := by
  rintro _ _ ⟨rfl, rfl⟩; exact K
theorem dQ_Kn {h2 : Hp} {n' pc' : Nat} (K : Go G M n1 R h2 n' pc' ls (.null :: st)) : ∀ v h', dQ G none h2 v h' → Go G M n1 R h' n' pc' ls (v.toList ++ st) := by
  rintro _ _ ⟨rfl, rfl⟩; exact K
theorem rI_K {Q : Int32 → Hp → Prop} {n' pc' : Nat} (K : ∀ r h', Q r h' → Go G M n1 R h' n' pc' ls (.int r :: st)) : ∀ v h', rI Q v h' → Go G M n1 R h' n' pc' ls (v.toList ++ st) := by
  rintro _ h' ⟨r, rfl, hq⟩; exact K r h' hq
theorem rV_K {Q : Hp → Prop} {n' pc' : Nat} (K : ∀ h', Q h' → Go G M n1 R h' n' pc' ls st) : ∀ v h', rV Q v h' → Go G M n1 R h' n' pc' ls (v.toList ++ st) := by
  rintro _ h' ⟨rfl, hq⟩; exact K h' hq
theorem g_run {p : Program} {e : Env} {s : State} {m : MethodId} {args : Array Value} {below : List Frame} {meth : Method} {c : Code} {H : Heap} {A : Array Slot} {locs : List Loc} {n0 cells slots n' : Nat} {d0 : Drawn} {R' : Option Value → Hp → Prop} {a : Array Value} {rest st0 : List Value} (C : Cx G M n0 p s m args meth c) (hd : s.drawn.sameBut d0 lw_cs) (hl : lh M.2.2.1 A ls) (hw : Wp G h n s H) (hS : va_S (gA G) s.heap H locs) (ha : n0 ≤ n) (hb : n ≤ n1) (hc : cells = n - n0) (hs : slots = sl n - sl n0) (hn : n ≤ n') (hn1 : n' ≤ n1)
    (hr : va_RunD lw_cs p G.1 e (rmOf M (n1 - n0) (sl n1 - sl n0)) (s.setDrawn d0) m args below meth c H locs cells slots (n' - n) (sl n' - sl n) (F0 m pc A st0) rest (Qr G R' n' a) (gA G))
    (K : ∀ v h', R' v h' → Go G M n1 R h' n' (pc + 3) ls (v.toList ++ rest)) : W p G.1 e (rmOf M (n1 - n0) (sl n1 - sl n0)) (s.setDrawn d0) m args below meth c H locs cells slots (MQD lw_cs below (Qr G R n1) args s (n1 - n0) (sl n1 - sl n0) (gA G)) (F0 m pc A st0) := by
  intro T hT X
  obtain ⟨v, st₀, t, T', L, d', hd', h0, X', hL, e1, e2, ⟨⟨v', h', hv, hR, hw'⟩, hF⟩, stp⟩ := hr T hT X
  cases hv
  have q1 := sl_mono hn
  have q2 := sl_mono ha
  have hvm : s.vm.Alike T'.vm := X'.warmed.alike
  have hS' : va_S (gA G) s.heap T'.heap (locs ++ L) := by
    obtain ⟨hz, hk⟩ := hF
    rw [h0] at hz hk
    refine ⟨Nat.le_trans hS.1 (by rw [e1]; exact hz), fun q h1 h2 => ?_, fun q hq => ?_⟩
    · rw [e1, hk q (Nat.lt_of_lt_of_le h1 hS.1) h2]; exact hS.2.1 q h1 h2
    · rcases List.mem_append.mp hq with h | h
      · exact hS.2.2 q h
      · exact hL q h
  obtain ⟨t2, a1, b1⟩ := K v h' hR n0 p e s m args below meth c T'.heap A (locs ++ L) (cells + (n' - n)) (slots + (sl n' - sl n)) d' C (hd.trans hd') hl (by rw [e1]; exact hw'.moved (by rw [← e2]; exact hvm.symm)) hS' (by omega) hn1 (by omega) (by omega) T' rfl X'
  exact ⟨t2, stp t2 a1, b1⟩
theorem wp_blind {as : List Value} : FrameBlind (va_Pc as (fun U => Wp G h n U U.heap)) := fun a U g mk q => ⟨q.1, q.2.1, q.2.2.1, va_K.moved (u := U) (U := U.calling g mk a) (Vm.Alike.refl U.vm) q.2.2.2.1, ⟨va_AO.moved (u := U) (U := U.calling g mk a) (Vm.Alike.refl U.vm) q.2.2.2.2.1.1, va_AO.moved (u := U) (U := U.calling g mk a) (Vm.Alike.refl U.vm) q.2.2.2.2.1.2.1, va_AO.moved (u := U) (U := U.calling g mk a) (Vm.Alike.refl U.vm) q.2.2.2.2.1.2.2.1, va_AO.moved (u := U) (U := U.calling g mk a) (Vm.Alike.refl U.vm) q.2.2.2.2.1.2.2.2⟩, va_X.moved (u := U) (U := U.calling g mk a) (Vm.Alike.refl U.vm) q.2.2.2.2.2.1, q.2.2.2.2.2.2⟩
theorem g_callV {Mc : Mt} {as rest : List Value} {k ci i N n' : Nat} {T : u_T} {R' : Option Value → Hp → Prop} (hc9 : Ct G Mc (ga G k :: as) h n n' R') (hm : Cond.methodLink M.1.cls i Mc.1 ∈ Wt) (ok : okV Mc as.length) (hrm : okR M Mc) (hL : Lay k = .inl ci) (hk : k < n) (hci : vwCl[ci]? = some (Mc.1.cls, T, N)) (hn : n ≤ n') (hn1 : n' ≤ n1) (hst : (rest.map fun v => v.category).sum ≤ 8) (d : decode M.2.1 pc = .ok (.invokevirtual i, 3))
    (K : ∀ v h', R' v h' → Go G M n1 R h' n' (pc + 3) ls (v.toList ++ rest)) : Go G M n1 R h n pc ls (as.reverse ++ ga G k :: rest) := by
  intro n0 p e s m args below meth c H A locs cells slots d0 C hd hl hw hS ha hb hc hs
  have q1 := sl_mono hn
  have q2 := sl_mono ha
  have q3 := sl_mono hn1
  obtain ⟨⟨o1, o2, o3, o4⟩, o5, o6⟩ := ok
  refine g_run C hd hl hw hS ha hb hc hs hn hn1 (va_runV_D (s := s.setDrawn d0) (nL := M.2.2.1) (own := M.1.cls) (C := Mc.1.cls) (Ts := wM M) (As := as) (rest := rest) ⟨C.1, C.2.1, C.2.2.2.1, C.2.2.2.2.1, dr_words C.2.2.2.2.2.1 d0⟩ hc9 (cwV (own := M.1.cls) (index := i) as.length (dr_words C.2.2.2.2.2.1 d0) ?_ rfl rfl rfl ⟨rfl, o3.1, o3.2, o4⟩ hrm) ⟨wp_blind, va_recv (s := s.setDrawn d0) hw.2.2.1 hw.2.1 hci (wl_o hk hL), fun U hU hW => ⟨rfl, by show Wp G h n U U.heap; rw [hU]; exact hw.moved (show s.vm.Alike U.vm from hW.alike)⟩⟩ rfl rfl hl.2.1 rfl (lv_room hst) d ⟨by show cells + (n' - n) ≤ n1 - n0; omega, by show slots + (sl n' - sl n) ≤ sl n1 - sl n0; omega⟩) K
  intro w hw9
  unfold wsV at hw9
  rcases List.mem_append.mp hw9 with h9 | h9
  · simp only [List.mem_cons, List.not_mem_nil, or_false] at h9
    rcases h9 with rfl | rfl | rfl | rfl
    · exact ⟨List.mem_cons_of_mem _ hm, (Wt_good _ hm).2⟩
    · exact ⟨List.mem_cons_of_mem _ o5, (Wt_good _ o5).2⟩
    · exact ⟨List.mem_cons_of_mem _ o6, (Wt_good _ o6).2⟩
    · exact ⟨List.mem_cons_of_mem _ o1, (Wt_good _ o1).2⟩
  · exact gd_M o2 w h9
theorem g_callS {Mc : Mt} {as rest : List Value} {i n' : Nat} {R' : Option Value → Hp → Prop} (hc9 : Ct G Mc as h n n' R') (hm : Cond.methodLink M.1.cls i Mc.1 ∈ Wt) (ok : okS Mc as.length) (hrm : okR M Mc) (hn : n ≤ n') (hn1 : n' ≤ n1) (hst : (rest.map fun v => v.category).sum ≤ 8) (d : decode M.2.1 pc = .ok (.invokestatic i, 3))
    (K : ∀ v h', R' v h' → Go G M n1 R h' n' (pc + 3) ls (v.toList ++ rest)) : Go G M n1 R h n pc ls (as.reverse ++ rest) := by
  intro n0 p e s m args below meth c H A locs cells slots d0 C hd hl hw hS ha hb hc hs
  have q1 := sl_mono hn
  have q2 := sl_mono ha
  have q3 := sl_mono hn1
  obtain ⟨⟨o1, o2, o3, o4⟩, o5⟩ := ok
  refine g_run C hd hl hw hS ha hb hc hs hn hn1 (va_runS_D (s := s.setDrawn d0) (nL := M.2.2.1) (own := M.1.cls) (Ts := wM M) (As := as) (rest := rest) ⟨C.1, C.2.1, C.2.2.2.1, C.2.2.2.2.1, dr_words C.2.2.2.2.2.1 d0⟩ hc9 (va_cwS (own := M.1.cls) (index := i) as.length (dr_words C.2.2.2.2.2.1 d0) ?_ rfl rfl rfl ⟨o3.1, o3.2, o4⟩ hrm) ⟨wp_blind, fun U hU hW => ⟨rfl, by show Wp G h n U U.heap; rw [hU]; exact hw.moved (show s.vm.Alike U.vm from hW.alike)⟩⟩ rfl rfl hl.2.1 rfl (lv_room hst) d ⟨by show cells + (n' - n) ≤ n1 - n0; omega, by show slots + (sl n' - sl n) ≤ sl n1 - sl n0; omega⟩) K
  intro w hw9
  unfold va_wsS at hw9
  rcases List.mem_append.mp hw9 with h9 | h9
  · simp only [List.mem_cons, List.not_mem_nil, or_false] at h9
    rcases h9 with rfl | rfl | rfl
    · exact ⟨List.mem_cons_of_mem _ hm, (Wt_good _ hm).2⟩
    · exact ⟨List.mem_cons_of_mem _ o5, (Wt_good _ o5).2⟩
    · exact ⟨List.mem_cons_of_mem _ o1, (Wt_good _ o1).2⟩
  · exact gd_M o2 w h9
theorem g_callI {Mc : Mt} {as rest : List Value} {k i n' : Nat} {R' : Option Value → Hp → Prop} (hc9 : Ct G Mc (ga G k :: as) h n n' R') (hm : Cond.methodLink M.1.cls i Mc.1 ∈ Wt) (ok : okI Mc as.length) (hrm : okR M Mc) (hn : n ≤ n') (hn1 : n' ≤ n1) (hst : (rest.map fun v => v.category).sum ≤ 8) (d : decode M.2.1 pc = .ok (.invokespecial i, 3))
    (K : ∀ v h', R' v h' → Go G M n1 R h' n' (pc + 3) ls (v.toList ++ rest)) : Go G M n1 R h n pc ls (as.reverse ++ ga G k :: rest) := by
  intro n0 p e s m args below meth c H A locs cells slots d0 C hd hl hw hS ha hb hc hs
  have q1 := sl_mono hn
  have q2 := sl_mono ha
  have q3 := sl_mono hn1
  obtain ⟨⟨o1, o2, o3, o4⟩, o5, o6, o7⟩ := ok
  exact g_run C hd hl hw hS ha hb hc hs hn hn1 (va_runI_D (s := s.setDrawn d0) (nL := M.2.2.1) (own := M.1.cls) (Ts := wM M) (As := as) (rest := rest) ⟨C.1, C.2.1, C.2.2.2.1, C.2.2.2.2.1, dr_words C.2.2.2.2.2.1 d0⟩ hc9 (cwI (bytes := Mc.2.1) (maxL := Mc.2.2.1) (own := M.1.cls) (index := i) as.length (dr_words C.2.2.2.2.2.1 d0) (gd_M o2) (by rw [← o7]; rfl) rfl rfl (C.w d0 o1) (C.w d0 hm) (C.w d0 o5) o6 ⟨o3.1, o3.2, o4⟩ hrm) ⟨wp_blind, fun U hU hW => ⟨rfl, by show Wp G h n U U.heap; rw [hU]; exact hw.moved (show s.vm.Alike U.vm from hW.alike)⟩⟩ rfl rfl hl.2.1 rfl (lv_room hst) d ⟨by show cells + (n' - n) ≤ n1 - n0; omega, by show slots + (sl n' - sl n) ≤ sl n1 - sl n0; omega⟩) K
theorem g_callV0 {Mc : Mt} {rest : List Value} {k ci i N n' : Nat} {T : u_T} {R' : Option Value → Hp → Prop} (hc9 : Ct G Mc (ga G k :: []) h n n' R') (hm : Cond.methodLink M.1.cls i Mc.1 ∈ Wt) (ok : okV Mc 0) (hrm : okR M Mc) (hL : Lay k = .inl ci) (hk : k < n) (hci : vwCl[ci]? = some (Mc.1.cls, T, N)) (hn : n ≤ n') (hn1 : n' ≤ n1) (hst : (rest.map fun v => v.category).sum ≤ 8) (d : decode M.2.1 pc = .ok (.invokevirtual i, 3)) (K : ∀ v h', R' v h' → Go G M n1 R h' n' (pc + 3) ls (v.toList ++ rest)) : Go G M n1 R h n pc ls (ga G k :: rest) := g_callV (as := []) hc9 hm ok hrm hL hk hci hn hn1 hst d K
theorem g_callV1 {Mc : Mt} {x0 : Value} {rest : List Value} {k ci i N n' : Nat} {T : u_T} {R' : Option Value → Hp → Prop} (hc9 : Ct G Mc (ga G k :: [x0]) h n n' R') (hm : Cond.methodLink M.1.cls i Mc.1 ∈ Wt) (ok : okV Mc 1) (hrm : okR M Mc) (hL : Lay k = .inl ci) (hk : k < n) (hci : vwCl[ci]? = some (Mc.1.cls, T, N)) (hn : n ≤ n') (hn1 : n' ≤ n1) (hst : (rest.map fun v => v.category).sum ≤ 8) (d : decode M.2.1 pc = .ok (.invokevirtual i, 3)) (K : ∀ v h', R' v h' → Go G M n1 R h' n' (pc + 3) ls (v.toList ++ rest)) : Go G M n1 R h n pc ls (x0 :: ga G k :: rest) := g_callV (as := [x0]) hc9 hm ok hrm hL hk hci hn hn1 hst d K
theorem g_callV2 {Mc : Mt} {x0 x1 : Value} {rest : List Value} {k ci i N n' : Nat} {T : u_T} {R' : Option Value → Hp → Prop} (hc9 : Ct G Mc (ga G k :: [x0, x1]) h n n' R') (hm : Cond.methodLink M.1.cls i Mc.1 ∈ Wt) (ok : okV Mc 2) (hrm : okR M Mc) (hL : Lay k = .inl ci) (hk : k < n) (hci : vwCl[ci]? = some (Mc.1.cls, T, N)) (hn : n ≤ n') (hn1 : n' ≤ n1) (hst : (rest.map fun v => v.category).sum ≤ 8) (d : decode M.2.1 pc = .ok (.invokevirtual i, 3)) (K : ∀ v h', R' v h' → Go G M n1 R h' n' (pc + 3) ls (v.toList ++ rest)) : Go G M n1 R h n pc ls (x1 :: x0 :: ga G k :: rest) := g_callV (as := [x0, x1]) hc9 hm ok hrm hL hk hci hn hn1 hst d K
theorem g_callV3 {Mc : Mt} {x0 x1 x2 : Value} {rest : List Value} {k ci i N n' : Nat} {T : u_T} {R' : Option Value → Hp → Prop} (hc9 : Ct G Mc (ga G k :: [x0, x1, x2]) h n n' R') (hm : Cond.methodLink M.1.cls i Mc.1 ∈ Wt) (ok : okV Mc 3) (hrm : okR M Mc) (hL : Lay k = .inl ci) (hk : k < n) (hci : vwCl[ci]? = some (Mc.1.cls, T, N)) (hn : n ≤ n') (hn1 : n' ≤ n1) (hst : (rest.map fun v => v.category).sum ≤ 8) (d : decode M.2.1 pc = .ok (.invokevirtual i, 3)) (K : ∀ v h', R' v h' → Go G M n1 R h' n' (pc + 3) ls (v.toList ++ rest)) : Go G M n1 R h n pc ls (x2 :: x1 :: x0 :: ga G k :: rest) := g_callV (as := [x0, x1, x2]) hc9 hm ok hrm hL hk hci hn hn1 hst d K
theorem g_callV4 {Mc : Mt} {x0 x1 x2 x3 : Value} {rest : List Value} {k ci i N n' : Nat} {T : u_T} {R' : Option Value → Hp → Prop} (hc9 : Ct G Mc (ga G k :: [x0, x1, x2, x3]) h n n' R') (hm : Cond.methodLink M.1.cls i Mc.1 ∈ Wt) (ok : okV Mc 4) (hrm : okR M Mc) (hL : Lay k = .inl ci) (hk : k < n) (hci : vwCl[ci]? = some (Mc.1.cls, T, N)) (hn : n ≤ n') (hn1 : n' ≤ n1) (hst : (rest.map fun v => v.category).sum ≤ 8) (d : decode M.2.1 pc = .ok (.invokevirtual i, 3)) (K : ∀ v h', R' v h' → Go G M n1 R h' n' (pc + 3) ls (v.toList ++ rest)) : Go G M n1 R h n pc ls (x3 :: x2 :: x1 :: x0 :: ga G k :: rest) := g_callV (as := [x0, x1, x2, x3]) hc9 hm ok hrm hL hk hci hn hn1 hst d K
theorem g_callS0 {Mc : Mt} {rest : List Value} {i n' : Nat} {R' : Option Value → Hp → Prop} (hc9 : Ct G Mc [] h n n' R') (hm : Cond.methodLink M.1.cls i Mc.1 ∈ Wt) (ok : okS Mc 0) (hrm : okR M Mc) (hn : n ≤ n') (hn1 : n' ≤ n1) (hst : (rest.map fun v => v.category).sum ≤ 8) (d : decode M.2.1 pc = .ok (.invokestatic i, 3)) (K : ∀ v h', R' v h' → Go G M n1 R h' n' (pc + 3) ls (v.toList ++ rest)) : Go G M n1 R h n pc ls (rest) := g_callS (as := []) hc9 hm ok hrm hn hn1 hst d K
theorem g_callS1 {Mc : Mt} {x0 : Value} {rest : List Value} {i n' : Nat} {R' : Option Value → Hp → Prop} (hc9 : Ct G Mc [x0] h n n' R') (hm : Cond.methodLink M.1.cls i Mc.1 ∈ Wt) (ok : okS Mc 1) (hrm : okR M Mc) (hn : n ≤ n') (hn1 : n' ≤ n1) (hst : (rest.map fun v => v.category).sum ≤ 8) (d : decode M.2.1 pc = .ok (.invokestatic i, 3)) (K : ∀ v h', R' v h' → Go G M n1 R h' n' (pc + 3) ls (v.toList ++ rest)) : Go G M n1 R h n pc ls (x0 :: rest) := g_callS (as := [x0]) hc9 hm ok hrm hn hn1 hst d K
theorem g_callS2 {Mc : Mt} {x0 x1 : Value} {rest : List Value} {i n' : Nat} {R' : Option Value → Hp → Prop} (hc9 : Ct G Mc [x0, x1] h n n' R') (hm : Cond.methodLink M.1.cls i Mc.1 ∈ Wt) (ok : okS Mc 2) (hrm : okR M Mc) (hn : n ≤ n') (hn1 : n' ≤ n1) (hst : (rest.map fun v => v.category).sum ≤ 8) (d : decode M.2.1 pc = .ok (.invokestatic i, 3)) (K : ∀ v h', R' v h' → Go G M n1 R h' n' (pc + 3) ls (v.toList ++ rest)) : Go G M n1 R h n pc ls (x1 :: x0 :: rest) := g_callS (as := [x0, x1]) hc9 hm ok hrm hn hn1 hst d K
theorem g_callS3 {Mc : Mt} {x0 x1 x2 : Value} {rest : List Value} {i n' : Nat} {R' : Option Value → Hp → Prop} (hc9 : Ct G Mc [x0, x1, x2] h n n' R') (hm : Cond.methodLink M.1.cls i Mc.1 ∈ Wt) (ok : okS Mc 3) (hrm : okR M Mc) (hn : n ≤ n') (hn1 : n' ≤ n1) (hst : (rest.map fun v => v.category).sum ≤ 8) (d : decode M.2.1 pc = .ok (.invokestatic i, 3)) (K : ∀ v h', R' v h' → Go G M n1 R h' n' (pc + 3) ls (v.toList ++ rest)) : Go G M n1 R h n pc ls (x2 :: x1 :: x0 :: rest) := g_callS (as := [x0, x1, x2]) hc9 hm ok hrm hn hn1 hst d K
theorem g_callS4 {Mc : Mt} {x0 x1 x2 x3 : Value} {rest : List Value} {i n' : Nat} {R' : Option Value → Hp → Prop} (hc9 : Ct G Mc [x0, x1, x2, x3] h n n' R') (hm : Cond.methodLink M.1.cls i Mc.1 ∈ Wt) (ok : okS Mc 4) (hrm : okR M Mc) (hn : n ≤ n') (hn1 : n' ≤ n1) (hst : (rest.map fun v => v.category).sum ≤ 8) (d : decode M.2.1 pc = .ok (.invokestatic i, 3)) (K : ∀ v h', R' v h' → Go G M n1 R h' n' (pc + 3) ls (v.toList ++ rest)) : Go G M n1 R h n pc ls (x3 :: x2 :: x1 :: x0 :: rest) := g_callS (as := [x0, x1, x2, x3]) hc9 hm ok hrm hn hn1 hst d K
theorem g_callS5 {Mc : Mt} {x0 x1 x2 x3 x4 : Value} {rest : List Value} {i n' : Nat} {R' : Option Value → Hp → Prop} (hc9 : Ct G Mc [x0, x1, x2, x3, x4] h n n' R') (hm : Cond.methodLink M.1.cls i Mc.1 ∈ Wt) (ok : okS Mc 5) (hrm : okR M Mc) (hn : n ≤ n') (hn1 : n' ≤ n1) (hst : (rest.map fun v => v.category).sum ≤ 8) (d : decode M.2.1 pc = .ok (.invokestatic i, 3)) (K : ∀ v h', R' v h' → Go G M n1 R h' n' (pc + 3) ls (v.toList ++ rest)) : Go G M n1 R h n pc ls (x4 :: x3 :: x2 :: x1 :: x0 :: rest) := g_callS (as := [x0, x1, x2, x3, x4]) hc9 hm ok hrm hn hn1 hst d K
theorem g_callS6 {Mc : Mt} {x0 x1 x2 x3 x4 x5 : Value} {rest : List Value} {i n' : Nat} {R' : Option Value → Hp → Prop} (hc9 : Ct G Mc [x0, x1, x2, x3, x4, x5] h n n' R') (hm : Cond.methodLink M.1.cls i Mc.1 ∈ Wt) (ok : okS Mc 6) (hrm : okR M Mc) (hn : n ≤ n') (hn1 : n' ≤ n1) (hst : (rest.map fun v => v.category).sum ≤ 8) (d : decode M.2.1 pc = .ok (.invokestatic i, 3)) (K : ∀ v h', R' v h' → Go G M n1 R h' n' (pc + 3) ls (v.toList ++ rest)) : Go G M n1 R h n pc ls (x5 :: x4 :: x3 :: x2 :: x1 :: x0 :: rest) := g_callS (as := [x0, x1, x2, x3, x4, x5]) hc9 hm ok hrm hn hn1 hst d K
theorem g_callS7 {Mc : Mt} {x0 x1 x2 x3 x4 x5 x6 : Value} {rest : List Value} {i n' : Nat} {R' : Option Value → Hp → Prop} (hc9 : Ct G Mc [x0, x1, x2, x3, x4, x5, x6] h n n' R') (hm : Cond.methodLink M.1.cls i Mc.1 ∈ Wt) (ok : okS Mc 7) (hrm : okR M Mc) (hn : n ≤ n') (hn1 : n' ≤ n1) (hst : (rest.map fun v => v.category).sum ≤ 8) (d : decode M.2.1 pc = .ok (.invokestatic i, 3)) (K : ∀ v h', R' v h' → Go G M n1 R h' n' (pc + 3) ls (v.toList ++ rest)) : Go G M n1 R h n pc ls (x6 :: x5 :: x4 :: x3 :: x2 :: x1 :: x0 :: rest) := g_callS (as := [x0, x1, x2, x3, x4, x5, x6]) hc9 hm ok hrm hn hn1 hst d K
theorem g_callS8 {Mc : Mt} {x0 x1 x2 x3 x4 x5 x6 x7 : Value} {rest : List Value} {i n' : Nat} {R' : Option Value → Hp → Prop} (hc9 : Ct G Mc [x0, x1, x2, x3, x4, x5, x6, x7] h n n' R') (hm : Cond.methodLink M.1.cls i Mc.1 ∈ Wt) (ok : okS Mc 8) (hrm : okR M Mc) (hn : n ≤ n') (hn1 : n' ≤ n1) (hst : (rest.map fun v => v.category).sum ≤ 8) (d : decode M.2.1 pc = .ok (.invokestatic i, 3)) (K : ∀ v h', R' v h' → Go G M n1 R h' n' (pc + 3) ls (v.toList ++ rest)) : Go G M n1 R h n pc ls (x7 :: x6 :: x5 :: x4 :: x3 :: x2 :: x1 :: x0 :: rest) := g_callS (as := [x0, x1, x2, x3, x4, x5, x6, x7]) hc9 hm ok hrm hn hn1 hst d K
theorem g_callS9 {Mc : Mt} {x0 x1 x2 x3 x4 x5 x6 x7 x8 : Value} {rest : List Value} {i n' : Nat} {R' : Option Value → Hp → Prop} (hc9 : Ct G Mc [x0, x1, x2, x3, x4, x5, x6, x7, x8] h n n' R') (hm : Cond.methodLink M.1.cls i Mc.1 ∈ Wt) (ok : okS Mc 9) (hrm : okR M Mc) (hn : n ≤ n') (hn1 : n' ≤ n1) (hst : (rest.map fun v => v.category).sum ≤ 8) (d : decode M.2.1 pc = .ok (.invokestatic i, 3)) (K : ∀ v h', R' v h' → Go G M n1 R h' n' (pc + 3) ls (v.toList ++ rest)) : Go G M n1 R h n pc ls (x8 :: x7 :: x6 :: x5 :: x4 :: x3 :: x2 :: x1 :: x0 :: rest) := g_callS (as := [x0, x1, x2, x3, x4, x5, x6, x7, x8]) hc9 hm ok hrm hn hn1 hst d K
theorem g_callI0 {Mc : Mt} {rest : List Value} {k i n' : Nat} {R' : Option Value → Hp → Prop} (hc9 : Ct G Mc (ga G k :: []) h n n' R') (hm : Cond.methodLink M.1.cls i Mc.1 ∈ Wt) (ok : okI Mc 0) (hrm : okR M Mc) (hn : n ≤ n') (hn1 : n' ≤ n1) (hst : (rest.map fun v => v.category).sum ≤ 8) (d : decode M.2.1 pc = .ok (.invokespecial i, 3)) (K : ∀ v h', R' v h' → Go G M n1 R h' n' (pc + 3) ls (v.toList ++ rest)) : Go G M n1 R h n pc ls (ga G k :: rest) := g_callI (as := []) hc9 hm ok hrm hn hn1 hst d K
end GC
end
section
def mX0_init : Mt := (yX0_init, cX0_init, 1, none, 1, 20)
set_option maxRecDepth 20000 in
theorem ok_X0_init : okI mX0_init 0 := ⟨⟨mw_1_5, mw_1_82, ⟨by decide, by decide⟩, by decide +kernel⟩, mw_1_81, rfl, rfl⟩
def mX0_begin : Mt := (yX0_begin, cX0_begin, 2, none, 0, 0)
set_option maxRecDepth 20000 in
theorem ok_X0_begin : okV mX0_begin 1 := ⟨⟨mw_1_5, mw_3_160, ⟨by decide, by decide⟩, by decide +kernel⟩, mw_3_158, mw_3_159⟩
def mX0_copyFrom : Mt := (yX0_copyFrom, cX0_copyFrom, 2, none, 0, 0)
set_option maxRecDepth 20000 in
theorem ok_X0_copyFrom : okV mX0_copyFrom 1 := ⟨⟨mw_1_5, mw_3_102, ⟨by decide, by decide⟩, by decide +kernel⟩, mw_3_100, mw_3_101⟩
def mX0_isTooDusty : Mt := (yX0_isTooDusty, cX0_isTooDusty, 1, (some .boolean), 0, 0)
set_option maxRecDepth 20000 in
theorem ok_X0_isTooDusty : okV mX0_isTooDusty 0 := ⟨⟨mw_1_5, mw_2_184, ⟨by decide, by decide⟩, by decide +kernel⟩, mw_2_182, mw_2_183⟩
def mX0_readTape : Mt := (yX0_readTape, cX0_readTape, 3, (some .boolean), 0, 0)
set_option maxRecDepth 20000 in
theorem ok_X0_readTape : okV mX0_readTape 1 := ⟨⟨mw_1_5, mw_4_84, ⟨by decide, by decide⟩, by decide +kernel⟩, mw_4_82, mw_4_83⟩
def mX0_cleanWith : Mt := (yX0_cleanWith, cX0_cleanWith, 2, none, 0, 0)
set_option maxRecDepth 20000 in
theorem ok_X0_cleanWith : okV mX0_cleanWith 1 := ⟨⟨mw_1_5, mw_4_94, ⟨by decide, by decide⟩, by decide +kernel⟩, mw_4_92, mw_4_93⟩
def mX0_tell : Mt := (yX0_tell, cX0_tell, 2, (some .int), 1, 20)
set_option maxRecDepth 20000 in
theorem ok_X0_tell : okV mX0_tell 1 := ⟨⟨mw_1_5, mw_2_180, ⟨by decide, by decide⟩, by decide +kernel⟩, mw_2_178, mw_2_179⟩
def mX1_init : Mt := (yX1_init, cX1_init, 2, none, 4, 81)
set_option maxRecDepth 20000 in
theorem ok_X1_init : okI mX1_init 0 := ⟨⟨mw_1_9, mw_2_52, ⟨by decide, by decide⟩, by decide +kernel⟩, mw_2_51, rfl, rfl⟩
def mX1_record : Mt := (yX1_record, cX1_record, 2, none, 3, 71)
set_option maxRecDepth 20000 in
theorem ok_X1_record : okV mX1_record 1 := ⟨⟨mw_1_9, mw_3_82, ⟨by decide, by decide⟩, by decide +kernel⟩, mw_3_80, mw_3_81⟩
def mX1_dropOldest : Mt := (yX1_dropOldest, cX1_dropOldest, 3, none, 0, 0)
set_option maxRecDepth 20000 in
theorem ok_X1_dropOldest : okV mX1_dropOldest 0 := ⟨⟨mw_1_9, mw_3_86, ⟨by decide, by decide⟩, by decide +kernel⟩, mw_3_85, mw_s_2⟩
def mX2_init : Mt := (yX2_init, cX2_init, 1, none, 1, 20)
set_option maxRecDepth 20000 in
theorem ok_X2_init : okI mX2_init 0 := ⟨⟨mw_1_4, mw_1_38, ⟨by decide, by decide⟩, by decide +kernel⟩, mw_1_37, rfl, rfl⟩
def mX2_beginTape : Mt := (yX2_beginTape, cX2_beginTape, 4, none, 1, 21)
set_option maxRecDepth 20000 in
theorem ok_X2_beginTape : okV mX2_beginTape 3 := ⟨⟨mw_1_4, mw_3_127, ⟨by decide, by decide⟩, by decide +kernel⟩, mw_3_125, mw_3_126⟩
def mX2_beginCleaner : Mt := (yX2_beginCleaner, cX2_beginCleaner, 3, none, 1, 21)
set_option maxRecDepth 20000 in
theorem ok_X2_beginCleaner : okV mX2_beginCleaner 2 := ⟨⟨mw_1_4, mw_3_140, ⟨by decide, by decide⟩, by decide +kernel⟩, mw_3_138, mw_3_139⟩
def mX2_begin : Mt := (yX2_begin, cX2_begin, 2, none, 0, 0)
set_option maxRecDepth 20000 in
theorem ok_X2_begin : okV mX2_begin 1 := ⟨⟨mw_1_4, mw_3_131, ⟨by decide, by decide⟩, by decide +kernel⟩, mw_3_130, mw_s_3⟩
def mX2_copyFrom : Mt := (yX2_copyFrom, cX2_copyFrom, 2, none, 0, 0)
set_option maxRecDepth 20000 in
theorem ok_X2_copyFrom : okV mX2_copyFrom 1 := ⟨⟨mw_1_4, mw_3_98, ⟨by decide, by decide⟩, by decide +kernel⟩, mw_3_96, mw_3_97⟩
def mX2_tell : Mt := (yX2_tell, cX2_tell, 2, (some .int), 0, 0)
set_option maxRecDepth 20000 in
theorem ok_X2_tell : okV mX2_tell 1 := ⟨⟨mw_1_4, mw_2_151, ⟨by decide, by decide⟩, by decide +kernel⟩, mw_2_149, mw_2_150⟩
def mX3_init : Mt := (yX3_init, cX3_init, 1, none, 1, 20)
set_option maxRecDepth 20000 in
theorem ok_X3_init : okI mX3_init 0 := ⟨⟨mw_1_7, mw_1_138, ⟨by decide, by decide⟩, by decide +kernel⟩, mw_1_137, rfl, rfl⟩
def mX3_enter : Mt := (yX3_enter, cX3_enter, 4, none, 0, 0)
set_option maxRecDepth 20000 in
theorem ok_X3_enter : okV mX3_enter 3 := ⟨⟨mw_1_7, mw_3_186, ⟨by decide, by decide⟩, by decide +kernel⟩, mw_3_184, mw_3_185⟩
def mX3_copyFrom : Mt := (yX3_copyFrom, cX3_copyFrom, 2, none, 0, 0)
set_option maxRecDepth 20000 in
theorem ok_X3_copyFrom : okV mX3_copyFrom 1 := ⟨⟨mw_1_7, mw_3_110, ⟨by decide, by decide⟩, by decide +kernel⟩, mw_3_108, mw_3_109⟩
def mX3_isOpen : Mt := (yX3_isOpen, cX3_isOpen, 1, (some .boolean), 0, 0)
set_option maxRecDepth 20000 in
theorem ok_X3_isOpen : okV mX3_isOpen 0 := ⟨⟨mw_1_7, mw_2_143, ⟨by decide, by decide⟩, by decide +kernel⟩, mw_2_141, mw_2_142⟩
def mX3_carriedItem : Mt := (yX3_carriedItem, cX3_carriedItem, 1, (some .int), 0, 0)
set_option maxRecDepth 20000 in
theorem ok_X3_carriedItem : okV mX3_carriedItem 0 := ⟨⟨mw_1_7, mw_2_147, ⟨by decide, by decide⟩, by decide +kernel⟩, mw_2_145, mw_2_146⟩
def mX3_steps : Mt := (yX3_steps, cX3_steps, 1, (some .int), 0, 0)
set_option maxRecDepth 20000 in
theorem ok_X3_steps : okV mX3_steps 0 := ⟨⟨mw_1_7, mw_4_106, ⟨by decide, by decide⟩, by decide +kernel⟩, mw_4_104, mw_4_105⟩
def mX3_tell : Mt := (yX3_tell, cX3_tell, 2, (some .int), 0, 0)
set_option maxRecDepth 20000 in
theorem ok_X3_tell : okV mX3_tell 1 := ⟨⟨mw_1_7, mw_2_222, ⟨by decide, by decide⟩, by decide +kernel⟩, mw_2_220, mw_2_221⟩
def mX4_init : Mt := (yX4_init, cX4_init, 1, none, 1, 20)
set_option maxRecDepth 20000 in
theorem ok_X4_init : okI mX4_init 0 := ⟨⟨mw_1_8, mw_1_217, ⟨by decide, by decide⟩, by decide +kernel⟩, mw_1_216, rfl, rfl⟩
def mX4_copyFrom : Mt := (yX4_copyFrom, cX4_copyFrom, 2, none, 1, 29)
set_option maxRecDepth 20000 in
theorem ok_X4_copyFrom : okV mX4_copyFrom 1 := ⟨⟨mw_1_8, mw_3_114, ⟨by decide, by decide⟩, by decide +kernel⟩, mw_3_112, mw_3_113⟩
def mX4_add : Mt := (yX4_add, cX4_add, 5, none, 1, 21)
set_option maxRecDepth 20000 in
theorem ok_X4_add : okV mX4_add 4 := ⟨⟨mw_1_8, mw_4_33, ⟨by decide, by decide⟩, by decide +kernel⟩, mw_4_31, mw_4_32⟩
def mX5_init : Mt := (yX5_init, cX5_init, 2, none, 2, 40)
set_option maxRecDepth 20000 in
theorem ok_X5_init : okI mX5_init 0 := ⟨⟨mw_1_6, mw_1_131, ⟨by decide, by decide⟩, by decide +kernel⟩, mw_1_130, rfl, rfl⟩
def mX5_copyFrom : Mt := (yX5_copyFrom, cX5_copyFrom, 3, none, 1, 21)
set_option maxRecDepth 20000 in
theorem ok_X5_copyFrom : okV mX5_copyFrom 1 := ⟨⟨mw_1_6, mw_3_106, ⟨by decide, by decide⟩, by decide +kernel⟩, mw_3_104, mw_3_105⟩
def mX5_jobAt : Mt := (yX5_jobAt, cX5_jobAt, 2, (some (.object "DustRobot$Job")), 0, 0)
set_option maxRecDepth 20000 in
theorem ok_X5_jobAt : okV mX5_jobAt 1 := ⟨⟨mw_1_6, mw_2_218, ⟨by decide, by decide⟩, by decide +kernel⟩, mw_2_216, mw_2_217⟩
def mX5_enter : Mt := (yX5_enter, cX5_enter, 4, (some .int), 1, 23)
set_option maxRecDepth 20000 in
theorem ok_X5_enter : okV mX5_enter 3 := ⟨⟨mw_1_6, mw_3_182, ⟨by decide, by decide⟩, by decide +kernel⟩, mw_3_180, mw_3_181⟩
def mX5_rankKinds : Mt := (yX5_rankKinds, cX5_rankKinds, 3, (some .int), 0, 0)
set_option maxRecDepth 20000 in
theorem ok_X5_rankKinds : okV mX5_rankKinds 2 := ⟨⟨mw_1_6, mw_3_233, ⟨by decide, by decide⟩, by decide +kernel⟩, mw_3_231, mw_3_232⟩
def mX5_rankOf : Mt := (yX5_rankOf, cX5_rankOf, 2, (some .int), 0, 0)
set_option maxRecDepth 20000 in
theorem ok_X5_rankOf : okV mX5_rankOf 1 := ⟨⟨mw_1_6, mw_3_20, ⟨by decide, by decide⟩, by decide +kernel⟩, mw_3_18, mw_3_19⟩
def mX5_jobsInState : Mt := (yX5_jobsInState, cX5_jobsInState, 4, (some .int), 0, 0)
set_option maxRecDepth 20000 in
theorem ok_X5_jobsInState : okV mX5_jobsInState 1 := ⟨⟨mw_1_6, mw_2_233, ⟨by decide, by decide⟩, by decide +kernel⟩, mw_2_231, mw_2_232⟩
def mX5_jobsWith : Mt := (yX5_jobsWith, cX5_jobsWith, 5, (some .int), 1, 20)
set_option maxRecDepth 20000 in
theorem ok_X5_jobsWith : okV mX5_jobsWith 1 := ⟨⟨mw_1_6, mw_2_139, ⟨by decide, by decide⟩, by decide +kernel⟩, mw_2_137, mw_2_138⟩
def mX6_init : Mt := (yX6_init, cX6_init, 1, none, 3, 61)
set_option maxRecDepth 20000 in
theorem ok_X6_init : okI mX6_init 0 := ⟨⟨mw_1_2, mw_1_25, ⟨by decide, by decide⟩, by decide +kernel⟩, mw_1_24, rfl, rfl⟩
def mX6_copyFrom : Mt := (yX6_copyFrom, cX6_copyFrom, 2, none, 2, 50)
set_option maxRecDepth 20000 in
theorem ok_X6_copyFrom : okV mX6_copyFrom 1 := ⟨⟨mw_1_2, mw_3_90, ⟨by decide, by decide⟩, by decide +kernel⟩, mw_3_88, mw_3_89⟩
def mX6_isTakenOrAimedAt : Mt := (yX6_isTakenOrAimedAt, cX6_isTakenOrAimedAt, 4, (some .boolean), 1, 22)
set_option maxRecDepth 20000 in
theorem ok_X6_isTakenOrAimedAt : okV mX6_isTakenOrAimedAt 1 := ⟨⟨mw_1_2, mw_3_73, ⟨by decide, by decide⟩, by decide +kernel⟩, mw_3_71, mw_3_72⟩
def mX6_faultOfJob : Mt := (yX6_faultOfJob, cX6_faultOfJob, 5, (some .int), 1, 21)
set_option maxRecDepth 20000 in
theorem ok_X6_faultOfJob : okV mX6_faultOfJob 3 := ⟨⟨mw_1_2, mw_3_176, ⟨by decide, by decide⟩, by decide +kernel⟩, mw_3_174, mw_3_175⟩
def mX6_jobToBegin : Mt := (yX6_jobToBegin, cX6_jobToBegin, 6, (some .int), 3, 69)
set_option maxRecDepth 20000 in
theorem ok_X6_jobToBegin : okV mX6_jobToBegin 0 := ⟨⟨mw_1_2, mw_3_10, ⟨by decide, by decide⟩, by decide +kernel⟩, mw_3_8, mw_3_9⟩
def mX6_groupOf : Mt := (yX6_groupOf, cX6_groupOf, 3, (some .int), 1, 21)
set_option maxRecDepth 20000 in
theorem ok_X6_groupOf : okV mX6_groupOf 1 := ⟨⟨mw_1_2, mw_3_14, ⟨by decide, by decide⟩, by decide +kernel⟩, mw_3_13, mw_s_0⟩
def mX6_canBegin : Mt := (yX6_canBegin, cX6_canBegin, 3, (some .boolean), 2, 47)
set_option maxRecDepth 20000 in
theorem ok_X6_canBegin : okV mX6_canBegin 1 := ⟨⟨mw_1_2, mw_3_24, ⟨by decide, by decide⟩, by decide +kernel⟩, mw_3_23, mw_s_1⟩
def mX6_isAllowed : Mt := (yX6_isAllowed, cX6_isAllowed, 3, (some .boolean), 0, 0)
set_option maxRecDepth 20000 in
theorem ok_X6_isAllowed : okV mX6_isAllowed 2 := ⟨⟨mw_1_2, mw_4_60, ⟨by decide, by decide⟩, by decide +kernel⟩, mw_4_59, mw_s_10⟩
def mX6_costTo : Mt := (yX6_costTo, cX6_costTo, 4, (some .float), 1, 21)
set_option maxRecDepth 20000 in
theorem ok_X6_costTo : okV mX6_costTo 1 := ⟨⟨mw_1_2, mw_4_53, ⟨by decide, by decide⟩, by decide +kernel⟩, mw_4_52, mw_s_9⟩
def mX6_passOneTick : Mt := (yX6_passOneTick, cX6_passOneTick, 3, (some .int), 5, 116)
set_option maxRecDepth 20000 in
theorem ok_X6_passOneTick : okV mX6_passOneTick 0 := ⟨⟨mw_1_2, mw_4_24, ⟨by decide, by decide⟩, by decide +kernel⟩, mw_4_22, mw_4_23⟩
def mX6_beginJob : Mt := (yX6_beginJob, cX6_beginJob, 3, none, 4, 94)
set_option maxRecDepth 20000 in
theorem ok_X6_beginJob : okV mX6_beginJob 0 := ⟨⟨mw_1_2, mw_4_28, ⟨by decide, by decide⟩, by decide +kernel⟩, mw_4_27, mw_s_5⟩
def mX6_doStep : Mt := (yX6_doStep, cX6_doStep, 5, (some .boolean), 4, 91)
set_option maxRecDepth 20000 in
theorem ok_X6_doStep : okV mX6_doStep 1 := ⟨⟨mw_1_2, mw_4_40, ⟨by decide, by decide⟩, by decide +kernel⟩, mw_4_39, mw_s_6⟩
def mX6_doMoveStep : Mt := (yX6_doMoveStep, cX6_doMoveStep, 4, (some .boolean), 3, 68)
set_option maxRecDepth 20000 in
theorem ok_X6_doMoveStep : okV mX6_doMoveStep 3 := ⟨⟨mw_1_2, mw_4_45, ⟨by decide, by decide⟩, by decide +kernel⟩, mw_4_44, mw_s_7⟩
def mX6_doDriveStep : Mt := (yX6_doDriveStep, cX6_doDriveStep, 4, (some .boolean), 3, 68)
set_option maxRecDepth 20000 in
theorem ok_X6_doDriveStep : okV mX6_doDriveStep 3 := ⟨⟨mw_1_2, mw_4_72, ⟨by decide, by decide⟩, by decide +kernel⟩, mw_4_71, mw_s_13⟩
def mX6_goTo : Mt := (yX6_goTo, cX6_goTo, 4, (some .boolean), 2, 45)
set_option maxRecDepth 20000 in
theorem ok_X6_goTo : okV mX6_goTo 2 := ⟨⟨mw_1_2, mw_4_49, ⟨by decide, by decide⟩, by decide +kernel⟩, mw_4_48, mw_s_8⟩
def mX6_takeInHand : Mt := (yX6_takeInHand, cX6_takeInHand, 3, (some .boolean), 0, 0)
set_option maxRecDepth 20000 in
theorem ok_X6_takeInHand : okV mX6_takeInHand 2 := ⟨⟨mw_1_2, mw_4_64, ⟨by decide, by decide⟩, by decide +kernel⟩, mw_4_63, mw_s_11⟩
def mX6_putHome : Mt := (yX6_putHome, cX6_putHome, 2, (some .boolean), 0, 0)
set_option maxRecDepth 20000 in
theorem ok_X6_putHome : okV mX6_putHome 1 := ⟨⟨mw_1_2, mw_4_68, ⟨by decide, by decide⟩, by decide +kernel⟩, mw_4_67, mw_s_12⟩
def mX6_loadDrive : Mt := (yX6_loadDrive, cX6_loadDrive, 4, (some .boolean), 0, 0)
set_option maxRecDepth 20000 in
theorem ok_X6_loadDrive : okV mX6_loadDrive 3 := ⟨⟨mw_1_2, mw_4_76, ⟨by decide, by decide⟩, by decide +kernel⟩, mw_4_75, mw_s_14⟩
def mX6_unloadDrive : Mt := (yX6_unloadDrive, cX6_unloadDrive, 4, (some .boolean), 1, 22)
set_option maxRecDepth 20000 in
theorem ok_X6_unloadDrive : okV mX6_unloadDrive 3 := ⟨⟨mw_1_2, mw_4_98, ⟨by decide, by decide⟩, by decide +kernel⟩, mw_4_97, mw_s_17⟩
def mX6_readInDrive : Mt := (yX6_readInDrive, cX6_readInDrive, 4, (some .boolean), 2, 45)
set_option maxRecDepth 20000 in
theorem ok_X6_readInDrive : okV mX6_readInDrive 3 := ⟨⟨mw_1_2, mw_4_80, ⟨by decide, by decide⟩, by decide +kernel⟩, mw_4_79, mw_s_15⟩
def mX6_cleanDrive : Mt := (yX6_cleanDrive, cX6_cleanDrive, 4, (some .boolean), 2, 45)
set_option maxRecDepth 20000 in
theorem ok_X6_cleanDrive : okV mX6_cleanDrive 3 := ⟨⟨mw_1_2, mw_4_90, ⟨by decide, by decide⟩, by decide +kernel⟩, mw_4_89, mw_s_16⟩
def mX6_goOn : Mt := (yX6_goOn, cX6_goOn, 3, (some .int), 2, 45)
set_option maxRecDepth 20000 in
theorem ok_X6_goOn : okV mX6_goOn 1 := ⟨⟨mw_1_2, mw_4_102, ⟨by decide, by decide⟩, by decide +kernel⟩, mw_4_101, mw_s_18⟩
def mX7_init : Mt := (yX7_init, cX7_init, 2, none, 2, 40)
set_option maxRecDepth 20000 in
theorem ok_X7_init : okI mX7_init 0 := ⟨⟨mw_1_3, mw_1_31, ⟨by decide, by decide⟩, by decide +kernel⟩, mw_1_30, rfl, rfl⟩
def mX7_copyFrom : Mt := (yX7_copyFrom, cX7_copyFrom, 3, none, 1, 21)
set_option maxRecDepth 20000 in
theorem ok_X7_copyFrom : okV mX7_copyFrom 1 := ⟨⟨mw_1_3, mw_3_94, ⟨by decide, by decide⟩, by decide +kernel⟩, mw_3_92, mw_3_93⟩
def mX7_hasSlot : Mt := (yX7_hasSlot, cX7_hasSlot, 1, (some .boolean), 0, 0)
set_option maxRecDepth 20000 in
theorem ok_X7_hasSlot : okS mX7_hasSlot 1 := ⟨⟨mw_1_3, mw_2_161, ⟨by decide, by decide⟩, by decide +kernel⟩, mw_2_160⟩
def mX7_itemAt : Mt := (yX7_itemAt, cX7_itemAt, 2, (some (.object "DustRobot$Item")), 0, 0)
set_option maxRecDepth 20000 in
theorem ok_X7_itemAt : okV mX7_itemAt 1 := ⟨⟨mw_1_3, mw_2_132, ⟨by decide, by decide⟩, by decide +kernel⟩, mw_2_130, mw_2_131⟩
def mX7_driveAt : Mt := (yX7_driveAt, cX7_driveAt, 2, (some (.object "DustRobot$Drive")), 0, 0)
set_option maxRecDepth 20000 in
theorem ok_X7_driveAt : okV mX7_driveAt 1 := ⟨⟨mw_1_3, mw_2_176, ⟨by decide, by decide⟩, by decide +kernel⟩, mw_2_174, mw_2_175⟩
def mX7_freeItem : Mt := (yX7_freeItem, cX7_freeItem, 1, (some (.object "DustRobot$Item")), 0, 0)
set_option maxRecDepth 20000 in
theorem ok_X7_freeItem : okV mX7_freeItem 0 := ⟨⟨mw_1_3, mw_3_78, ⟨by decide, by decide⟩, by decide +kernel⟩, mw_3_76, mw_3_77⟩
def mX7_freeDrive : Mt := (yX7_freeDrive, cX7_freeDrive, 1, (some (.object "DustRobot$Drive")), 0, 0)
set_option maxRecDepth 20000 in
theorem ok_X7_freeDrive : okV mX7_freeDrive 0 := ⟨⟨mw_1_3, mw_3_156, ⟨by decide, by decide⟩, by decide +kernel⟩, mw_3_154, mw_3_155⟩
def mX7_itemWithHome : Mt := (yX7_itemWithHome, cX7_itemWithHome, 3, (some .int), 0, 0)
set_option maxRecDepth 20000 in
theorem ok_X7_itemWithHome : okV mX7_itemWithHome 1 := ⟨⟨mw_1_3, mw_2_165, ⟨by decide, by decide⟩, by decide +kernel⟩, mw_2_163, mw_2_164⟩
def mX7_driveBeside : Mt := (yX7_driveBeside, cX7_driveBeside, 3, (some .int), 0, 0)
set_option maxRecDepth 20000 in
theorem ok_X7_driveBeside : okV mX7_driveBeside 1 := ⟨⟨mw_1_3, mw_3_152, ⟨by decide, by decide⟩, by decide +kernel⟩, mw_3_150, mw_3_151⟩
def mX7_driveToRead : Mt := (yX7_driveToRead, cX7_driveToRead, 5, (some .int), 1, 20)
set_option maxRecDepth 20000 in
theorem ok_X7_driveToRead : okV mX7_driveToRead 0 := ⟨⟨mw_1_3, mw_3_28, ⟨by decide, by decide⟩, by decide +kernel⟩, mw_3_26, mw_3_27⟩
def mX7_cleanerNearest : Mt := (yX7_cleanerNearest, cX7_cleanerNearest, 7, (some .int), 1, 21)
set_option maxRecDepth 20000 in
theorem ok_X7_cleanerNearest : okV mX7_cleanerNearest 1 := ⟨⟨mw_1_3, mw_3_33, ⟨by decide, by decide⟩, by decide +kernel⟩, mw_3_31, mw_3_32⟩
def mX7_dustOfAll : Mt := (yX7_dustOfAll, cX7_dustOfAll, 3, (some .float), 0, 0)
set_option maxRecDepth 20000 in
theorem ok_X7_dustOfAll : okV mX7_dustOfAll 0 := ⟨⟨mw_1_3, mw_2_207, ⟨by decide, by decide⟩, by decide +kernel⟩, mw_2_205, mw_2_206⟩
def mX7_sumOverDrives : Mt := (yX7_sumOverDrives, cX7_sumOverDrives, 4, (some .int), 2, 41)
set_option maxRecDepth 20000 in
theorem ok_X7_sumOverDrives : okV mX7_sumOverDrives 1 := ⟨⟨mw_1_3, mw_2_237, ⟨by decide, by decide⟩, by decide +kernel⟩, mw_2_235, mw_2_236⟩
def mX7_usesOfAll : Mt := (yX7_usesOfAll, cX7_usesOfAll, 3, (some .int), 0, 0)
set_option maxRecDepth 20000 in
theorem ok_X7_usesOfAll : okV mX7_usesOfAll 0 := ⟨⟨mw_1_3, mw_3_2, ⟨by decide, by decide⟩, by decide +kernel⟩, mw_3_0, mw_3_1⟩
def mX8_init : Mt := (yX8_init, cX8_init, 1, none, 1, 20)
set_option maxRecDepth 20000 in
theorem ok_X8_init : okI mX8_init 0 := ⟨⟨mw_1_10, mw_2_69, ⟨by decide, by decide⟩, by decide +kernel⟩, mw_2_68, rfl, rfl⟩
def mX9_init : Mt := (yX9_init, cX9_init, 1, none, 5, 102)
set_option maxRecDepth 20000 in
theorem ok_X9_init : okI mX9_init 0 := ⟨⟨mw_1_1, mw_1_17, ⟨by decide, by decide⟩, by decide +kernel⟩, mw_1_16, rfl, rfl⟩
def mX9_addDrive : Mt := (yX9_addDrive, cX9_addDrive, 3, (some .int), 4, 92)
set_option maxRecDepth 20000 in
theorem ok_X9_addDrive : okV mX9_addDrive 1 := ⟨⟨mw_1_1, mw_3_148, ⟨by decide, by decide⟩, by decide +kernel⟩, mw_3_146, mw_3_147⟩
def mX9_addTape : Mt := (yX9_addTape, cX9_addTape, 4, (some .int), 4, 92)
set_option maxRecDepth 20000 in
theorem ok_X9_addTape : okV mX9_addTape 2 := ⟨⟨mw_1_1, mw_3_68, ⟨by decide, by decide⟩, by decide +kernel⟩, mw_3_66, mw_3_67⟩
def mX9_addCleaner : Mt := (yX9_addCleaner, cX9_addCleaner, 4, (some .int), 4, 92)
set_option maxRecDepth 20000 in
theorem ok_X9_addCleaner : okV mX9_addCleaner 2 := ⟨⟨mw_1_1, mw_3_136, ⟨by decide, by decide⟩, by decide +kernel⟩, mw_3_134, mw_3_135⟩
def mX9_refill : Mt := (yX9_refill, cX9_refill, 5, (some .int), 4, 92)
set_option maxRecDepth 20000 in
theorem ok_X9_refill : okV mX9_refill 2 := ⟨⟨mw_1_1, mw_3_224, ⟨by decide, by decide⟩, by decide +kernel⟩, mw_3_222, mw_3_223⟩
def mX9_setLimit : Mt := (yX9_setLimit, cX9_setLimit, 3, (some .int), 4, 92)
set_option maxRecDepth 20000 in
theorem ok_X9_setLimit : okV mX9_setLimit 1 := ⟨⟨mw_1_1, mw_3_213, ⟨by decide, by decide⟩, by decide +kernel⟩, mw_3_211, mw_3_212⟩
def mX9_setCeiling : Mt := (yX9_setCeiling, cX9_setCeiling, 5, (some .int), 4, 92)
set_option maxRecDepth 20000 in
theorem ok_X9_setCeiling : okV mX9_setCeiling 2 := ⟨⟨mw_1_1, mw_3_218, ⟨by decide, by decide⟩, by decide +kernel⟩, mw_3_216, mw_3_217⟩
def mX9_setOrder : Mt := (yX9_setOrder, cX9_setOrder, 3, (some .int), 4, 92)
set_option maxRecDepth 20000 in
theorem ok_X9_setOrder : okV mX9_setOrder 2 := ⟨⟨mw_1_1, mw_3_228, ⟨by decide, by decide⟩, by decide +kernel⟩, mw_3_226, mw_3_227⟩
def mX9_read : Mt := (yX9_read, cX9_read, 2, (some .int), 5, 116)
set_option maxRecDepth 20000 in
theorem ok_X9_read : okV mX9_read 1 := ⟨⟨mw_1_1, mw_3_168, ⟨by decide, by decide⟩, by decide +kernel⟩, mw_3_166, mw_3_167⟩
def mX9_clean : Mt := (yX9_clean, cX9_clean, 2, (some .int), 5, 116)
set_option maxRecDepth 20000 in
theorem ok_X9_clean : okV mX9_clean 1 := ⟨⟨mw_1_1, mw_3_190, ⟨by decide, by decide⟩, by decide +kernel⟩, mw_3_188, mw_3_189⟩
def mX9_move : Mt := (yX9_move, cX9_move, 3, (some .int), 5, 116)
set_option maxRecDepth 20000 in
theorem ok_X9_move : okV mX9_move 2 := ⟨⟨mw_1_1, mw_3_194, ⟨by decide, by decide⟩, by decide +kernel⟩, mw_3_192, mw_3_193⟩
def mX9_putOff : Mt := (yX9_putOff, cX9_putOff, 5, (some .int), 4, 92)
set_option maxRecDepth 20000 in
theorem ok_X9_putOff : okV mX9_putOff 2 := ⟨⟨mw_1_1, mw_3_201, ⟨by decide, by decide⟩, by decide +kernel⟩, mw_3_199, mw_3_200⟩
def mX9_withdraw : Mt := (yX9_withdraw, cX9_withdraw, 3, (some .int), 4, 92)
set_option maxRecDepth 20000 in
theorem ok_X9_withdraw : okV mX9_withdraw 1 := ⟨⟨mw_1_1, mw_3_205, ⟨by decide, by decide⟩, by decide +kernel⟩, mw_3_203, mw_3_204⟩
def mX9_tick : Mt := (yX9_tick, cX9_tick, 4, (some .int), 6, 138)
set_option maxRecDepth 20000 in
theorem ok_X9_tick : okV mX9_tick 1 := ⟨⟨mw_1_1, mw_4_20, ⟨by decide, by decide⟩, by decide +kernel⟩, mw_4_18, mw_4_19⟩
def mX9_item : Mt := (yX9_item, cX9_item, 4, (some .int), 2, 44)
set_option maxRecDepth 20000 in
theorem ok_X9_item : okV mX9_item 2 := ⟨⟨mw_1_1, mw_2_128, ⟨by decide, by decide⟩, by decide +kernel⟩, mw_2_126, mw_2_127⟩
def mX9_homeOf : Mt := (yX9_homeOf, cX9_homeOf, 2, (some .int), 1, 22)
set_option maxRecDepth 20000 in
theorem ok_X9_homeOf : okV mX9_homeOf 1 := ⟨⟨mw_1_1, mw_2_158, ⟨by decide, by decide⟩, by decide +kernel⟩, mw_2_156, mw_2_157⟩
def mX9_drive : Mt := (yX9_drive, cX9_drive, 4, (some .int), 2, 41)
set_option maxRecDepth 20000 in
theorem ok_X9_drive : okV mX9_drive 2 := ⟨⟨mw_1_1, mw_2_172, ⟨by decide, by decide⟩, by decide +kernel⟩, mw_2_170, mw_2_171⟩
def mX9_dust : Mt := (yX9_dust, cX9_dust, 3, (some .float), 1, 21)
set_option maxRecDepth 20000 in
theorem ok_X9_dust : okV mX9_dust 1 := ⟨⟨mw_1_1, mw_2_191, ⟨by decide, by decide⟩, by decide +kernel⟩, mw_2_189, mw_2_190⟩
def mX9_ceiling : Mt := (yX9_ceiling, cX9_ceiling, 3, (some .float), 1, 21)
set_option maxRecDepth 20000 in
theorem ok_X9_ceiling : okV mX9_ceiling 1 := ⟨⟨mw_1_1, mw_2_199, ⟨by decide, by decide⟩, by decide +kernel⟩, mw_2_197, mw_2_198⟩
def mX9_meter : Mt := (yX9_meter, cX9_meter, 2, (some .float), 1, 22)
set_option maxRecDepth 20000 in
theorem ok_X9_meter : okV mX9_meter 1 := ⟨⟨mw_1_1, mw_2_203, ⟨by decide, by decide⟩, by decide +kernel⟩, mw_2_201, mw_2_202⟩
def mX9_job : Mt := (yX9_job, cX9_job, 4, (some .int), 1, 22)
set_option maxRecDepth 20000 in
theorem ok_X9_job : okV mX9_job 2 := ⟨⟨mw_1_1, mw_2_214, ⟨by decide, by decide⟩, by decide +kernel⟩, mw_2_212, mw_2_213⟩
def mX9_next : Mt := (yX9_next, cX9_next, 1, (some .int), 4, 94)
set_option maxRecDepth 20000 in
theorem ok_X9_next : okV mX9_next 0 := ⟨⟨mw_1_1, mw_3_6, ⟨by decide, by decide⟩, by decide +kernel⟩, mw_3_4, mw_3_5⟩
def mX9_count : Mt := (yX9_count, cX9_count, 2, (some .int), 3, 64)
set_option maxRecDepth 20000 in
theorem ok_X9_count : okV mX9_count 1 := ⟨⟨mw_1_1, mw_2_229, ⟨by decide, by decide⟩, by decide +kernel⟩, mw_2_227, mw_2_228⟩
def mX9_giveJob : Mt := (yX9_giveJob, cX9_giveJob, 5, (some .int), 4, 92)
set_option maxRecDepth 20000 in
theorem ok_X9_giveJob : okV mX9_giveJob 3 := ⟨⟨mw_1_1, mw_3_172, ⟨by decide, by decide⟩, by decide +kernel⟩, mw_3_171, mw_s_4⟩
def mX9_isFrom : Mt := (yX9_isFrom, cX9_isFrom, 3, (some .boolean), 0, 0)
set_option maxRecDepth 20000 in
theorem ok_X9_isFrom : okS mX9_isFrom 3 := ⟨⟨mw_1_1, mw_2_135, ⟨by decide, by decide⟩, by decide +kernel⟩, mw_2_134⟩
def mX9_floatOf : Mt := (yX9_floatOf, cX9_floatOf, 6, (some .float), 0, 0)
set_option maxRecDepth 20000 in
theorem ok_X9_floatOf : okS mX9_floatOf 1 := ⟨⟨mw_1_1, mw_3_120, ⟨by decide, by decide⟩, by decide +kernel⟩, mw_3_119⟩
def mX9_noNumber : Mt := (yX9_noNumber, cX9_noNumber, 0, (some .float), 0, 0)
set_option maxRecDepth 20000 in
theorem ok_X9_noNumber : okS mX9_noNumber 0 := ⟨⟨mw_1_1, mw_2_194, ⟨by decide, by decide⟩, by decide +kernel⟩, mw_2_193⟩
def mL_cell : Mt := (yL_cell, cL_cell, 2, (some .int), 0, 0)
set_option maxRecDepth 20000 in
theorem ok_L_cell : okS mL_cell 2 := ⟨⟨mw_1_0, mw_2_116, ⟨by decide, by decide⟩, by decide +kernel⟩, mw_2_115⟩
def mL_low : Mt := (yL_low, cL_low, 2, (some .int), 0, 0)
set_option maxRecDepth 20000 in
theorem ok_L_low : okS mL_low 2 := ⟨⟨mw_1_0, mw_2_120, ⟨by decide, by decide⟩, by decide +kernel⟩, mw_2_119⟩
def mL_bits : Mt := (yL_bits, cL_bits, 2, (some .int), 0, 0)
set_option maxRecDepth 20000 in
theorem ok_L_bits : okS mL_bits 1 := ⟨⟨mw_1_0, mw_2_154, ⟨by decide, by decide⟩, by decide +kernel⟩, mw_2_153⟩
def mL_isDusty : Mt := (yL_isDusty, cL_isDusty, 2, (some .boolean), 0, 0)
set_option maxRecDepth 20000 in
theorem ok_L_isDusty : okS mL_isDusty 2 := ⟨⟨mw_1_0, mw_2_187, ⟨by decide, by decide⟩, by decide +kernel⟩, mw_2_186⟩
def mL_away : Mt := (yL_away, cL_away, 2, (some .int), 0, 0)
set_option maxRecDepth 20000 in
theorem ok_L_away : okS mL_away 2 := ⟨⟨mw_1_0, mw_3_55, ⟨by decide, by decide⟩, by decide +kernel⟩, mw_3_54⟩
def mL_atHome : Mt := (yL_atHome, cL_atHome, 5, (some .int), 0, 0)
set_option maxRecDepth 20000 in
theorem ok_L_atHome : okS mL_atHome 3 := ⟨⟨mw_1_0, mw_3_46, ⟨by decide, by decide⟩, by decide +kernel⟩, mw_3_45⟩
def mL_rank : Mt := (yL_rank, cL_rank, 2, (some .int), 0, 0)
set_option maxRecDepth 20000 in
theorem ok_L_rank : okS mL_rank 2 := ⟨⟨mw_1_0, mw_3_61, ⟨by decide, by decide⟩, by decide +kernel⟩, mw_3_60⟩
def mL_isAhead : Mt := (yL_isAhead, cL_isAhead, 8, (some .boolean), 1, 21)
set_option maxRecDepth 20000 in
theorem ok_L_isAhead : okS mL_isAhead 5 := ⟨⟨mw_1_0, mw_3_58, ⟨by decide, by decide⟩, by decide +kernel⟩, mw_3_57⟩
def mL_drive : Mt := (yL_drive, cL_drive, 4, (some .int), 1, 21)
set_option maxRecDepth 20000 in
theorem ok_L_drive : okS mL_drive 2 := ⟨⟨mw_1_0, mw_3_49, ⟨by decide, by decide⟩, by decide +kernel⟩, mw_3_48⟩
def mL_cleaner : Mt := (yL_cleaner, cL_cleaner, 5, (some .int), 1, 21)
set_option maxRecDepth 20000 in
theorem ok_L_cleaner : okS mL_cleaner 2 := ⟨⟨mw_1_0, mw_3_52, ⟨by decide, by decide⟩, by decide +kernel⟩, mw_3_51⟩
def mL_canBegin : Mt := (yL_canBegin, cL_canBegin, 7, (some .boolean), 2, 45)
set_option maxRecDepth 20000 in
theorem ok_L_canBegin : okS mL_canBegin 6 := ⟨⟨mw_1_0, mw_3_43, ⟨by decide, by decide⟩, by decide +kernel⟩, mw_3_42⟩
def mL_first : Mt := (yL_first, cL_first, 7, (some .int), 3, 71)
set_option maxRecDepth 20000 in
theorem ok_L_first : okS mL_first 5 := ⟨⟨mw_1_0, mw_3_40, ⟨by decide, by decide⟩, by decide +kernel⟩, mw_3_39⟩
def mL_isThere : Mt := (yL_isThere, cL_isThere, 8, (some .boolean), 1, 21)
set_option maxRecDepth 20000 in
theorem ok_L_isThere : okS mL_isThere 5 := ⟨⟨mw_1_0, mw_4_5, ⟨by decide, by decide⟩, by decide +kernel⟩, mw_4_4⟩
def mL_isRead : Mt := (yL_isRead, cL_isRead, 11, (some .boolean), 1, 21)
set_option maxRecDepth 20000 in
theorem ok_L_isRead : okS mL_isRead 8 := ⟨⟨mw_1_0, mw_4_13, ⟨by decide, by decide⟩, by decide +kernel⟩, mw_4_12⟩
def mL_puts : Mt := (yL_puts, cL_puts, 6, (some .boolean), 0, 0)
set_option maxRecDepth 20000 in
theorem ok_L_puts : okS mL_puts 6 := ⟨⟨mw_1_0, mw_4_10, ⟨by decide, by decide⟩, by decide +kernel⟩, mw_4_9⟩
def mL_isDone : Mt := (yL_isDone, cL_isDone, 12, (some .boolean), 2, 51)
set_option maxRecDepth 20000 in
theorem ok_L_isDone : okS mL_isDone 7 := ⟨⟨mw_1_0, mw_4_2, ⟨by decide, by decide⟩, by decide +kernel⟩, mw_4_1⟩
def mL_ticks : Mt := (yL_ticks, cL_ticks, 9, (some .int), 4, 97)
set_option maxRecDepth 20000 in
theorem ok_L_ticks : okS mL_ticks 7 := ⟨⟨mw_1_0, mw_3_239, ⟨by decide, by decide⟩, by decide +kernel⟩, mw_3_238⟩
def mL_areItems : Mt := (yL_areItems, cL_areItems, 11, (some .boolean), 3, 67)
set_option maxRecDepth 20000 in
theorem ok_L_areItems : okS mL_areItems 6 := ⟨⟨mw_1_0, mw_2_124, ⟨by decide, by decide⟩, by decide +kernel⟩, mw_2_123⟩
def mL_areDrives : Mt := (yL_areDrives, cL_areDrives, 6, (some .boolean), 3, 64)
set_option maxRecDepth 20000 in
theorem ok_L_areDrives : okS mL_areDrives 4 := ⟨⟨mw_1_0, mw_2_168, ⟨by decide, by decide⟩, by decide +kernel⟩, mw_2_167⟩
def mL_areJobs : Mt := (yL_areJobs, cL_areJobs, 6, (some .boolean), 2, 45)
set_option maxRecDepth 20000 in
theorem ok_L_areJobs : okS mL_areJobs 4 := ⟨⟨mw_1_0, mw_2_210, ⟨by decide, by decide⟩, by decide +kernel⟩, mw_2_209⟩
def mL_areCounts : Mt := (yL_areCounts, cL_areCounts, 9, (some .boolean), 5, 114)
set_option maxRecDepth 20000 in
theorem ok_L_areCounts : okS mL_areCounts 6 := ⟨⟨mw_1_0, mw_2_225, ⟨by decide, by decide⟩, by decide +kernel⟩, mw_2_224⟩
def mL_adds : Mt := (yL_adds, cL_adds, 10, (some .boolean), 5, 115)
set_option maxRecDepth 20000 in
theorem ok_L_adds : okS mL_adds 4 := ⟨⟨mw_1_0, mw_3_64, ⟨by decide, by decide⟩, by decide +kernel⟩, mw_3_63⟩
def mL_builds : Mt := (yL_builds, cL_builds, 8, (some .boolean), 5, 114)
set_option maxRecDepth 20000 in
theorem ok_L_builds : okS mL_builds 5 := ⟨⟨mw_1_0, mw_3_143, ⟨by decide, by decide⟩, by decide +kernel⟩, mw_3_142⟩
def mL_gives : Mt := (yL_gives, cL_gives, 12, (some .boolean), 6, 138)
set_option maxRecDepth 20000 in
theorem ok_L_gives : okS mL_gives 6 := ⟨⟨mw_1_0, mw_3_164, ⟨by decide, by decide⟩, by decide +kernel⟩, mw_3_163⟩
def mL_holds : Mt := (yL_holds, cL_holds, 9, (some .boolean), 5, 116)
set_option maxRecDepth 20000 in
theorem ok_L_holds : okS mL_holds 5 := ⟨⟨mw_1_0, mw_3_197, ⟨by decide, by decide⟩, by decide +kernel⟩, mw_3_196⟩
def mL_sets : Mt := (yL_sets, cL_sets, 8, (some .boolean), 5, 116)
set_option maxRecDepth 20000 in
theorem ok_L_sets : okS mL_sets 5 := ⟨⟨mw_1_0, mw_3_208, ⟨by decide, by decide⟩, by decide +kernel⟩, mw_3_207⟩
def mL_passes : Mt := (yL_passes, cL_passes, 11, (some .boolean), 7, 161)
set_option maxRecDepth 20000 in
theorem ok_L_passes : okS mL_passes 9 := ⟨⟨mw_1_0, mw_3_236, ⟨by decide, by decide⟩, by decide +kernel⟩, mw_3_235⟩
def mL_law : Mt := (yL_law, cL_law, 12, (some .boolean), 10, 388)
end
section
/-! ===== SMALL METHODS ===== -/
theorem wI_at {h : Hp} {a k : Nat} {v : Int32} : (wI h a k v).1 a k = v := if_pos ⟨rfl, rfl⟩
theorem wI_ne {h : Hp} {a k b j : Nat} {v : Int32} (q : ¬ (b = a ∧ j = k)) : (wI h a k v).1 b j = h.1 b j := if_neg q
theorem wF_at {h : Hp} {a k : Nat} {v : UInt32} : (wF h a k v).2.1 a k = v := if_pos ⟨rfl, rfl⟩
theorem wF_ne {h : Hp} {a k b j : Nat} {v : UInt32} (q : ¬ (b = a ∧ j = k)) : (wF h a k v).2.1 b j = h.2.1 b j := if_neg q
theorem wD_at {h : Hp} {a k : Nat} {v : UInt64} : (wD h a k v).2.2.1 a k = v := if_pos ⟨rfl, rfl⟩
theorem wD_ne {h : Hp} {a k b j : Nat} {v : UInt64} (q : ¬ (b = a ∧ j = k)) : (wD h a k v).2.2.1 b j = h.2.2.1 b j := if_neg q
theorem lay_item {i : Nat} (h : i < 18) : Lay (4 + i) = .inl 2 := by
  unfold Lay
  rw [if_neg (by omega), if_pos (by omega)]
  unfold SL
  rw [if_neg (by omega), if_neg (by omega), if_neg (by omega), if_pos (by omega)]
theorem lay_drive {i : Nat} (h : i < 4) : Lay (23 + i) = .inl 0 := by
  unfold Lay
  rw [if_neg (by omega), if_pos (by omega)]
  unfold SL
  rw [if_neg (by omega), if_neg (by omega), if_neg (by omega), if_neg (by omega), if_neg (by omega), if_pos (by omega)]
theorem lay_job {i : Nat} (h : i < 30) : Lay (29 + i) = .inl 3 := by
  unfold Lay
  rw [if_neg (by omega), if_pos (by omega)]
  unfold SL
  rw [if_neg (by omega), if_neg (by omega), if_neg (by omega), if_neg (by omega), if_neg (by omega), if_neg (by omega), if_neg (by omega), if_neg (by omega), if_pos (by omega)]
/-- a state's references, from its address b on -/
def St (h : Hp) (b : Nat) : Prop := h.2.2.2 b 0 = some (b + 1) ∧ h.2.2.2 b 1 = some (b + 26) ∧ h.2.2.2 b 2 = some (b + 58) ∧ h.2.2.2 (b + 1) 0 = some (b + 2) ∧ h.2.2.2 (b + 1) 2 = some (b + 21) ∧ (∀ i, i < 18 → h.2.2.2 (b + 2) i = some (b + 3 + i)) ∧ (∀ i, i < 4 → h.2.2.2 (b + 21) i = some (b + 22 + i)) ∧ h.2.2.2 (b + 26) 0 = some (b + 27) ∧ (∀ i, i < 30 → h.2.2.2 (b + 27) i = some (b + 28 + i)) ∧ h.2.2.2 (b + 58) 0 = some (b + 59) ∧ h.2.2.2 (b + 58) 1 = some (b + 60) ∧ h.2.2.2 (b + 58) 2 = some (b + 61) ∧ h.2.2.2 (b + 58) 3 = some (b + 62)
/-- the robot's references -/
def Sh (h : Hp) : Prop := St h 1 ∧ h.2.2.2 0 0 = some 1 ∧ h.2.2.2 0 1 = some 64 ∧ h.2.2.2 64 0 = some 65 ∧ (∀ i, i < 4 → ∃ j, j < 4 ∧ h.2.2.2 65 i = some (66 + 63 * j)) ∧ ∀ j, j < 4 → St h (66 + 63 * j)
theorem sh_now {h : Hp} (s : Sh h) : h.2.2.2 0 0 = some 1 := s.2.1
theorem sh_hist {h : Hp} (s : Sh h) : h.2.2.2 0 1 = some 64 := s.2.2.1
theorem sh_states {h : Hp} (s : Sh h) : h.2.2.2 64 0 = some 65 := s.2.2.2.1
theorem s1_store {h : Hp} (s : St h 1) : h.2.2.2 1 0 = some 2 := s.1
theorem sh_store {h : Hp} (s : Sh h) : h.2.2.2 1 0 = some 2 := s1_store s.1
theorem s1_queue {h : Hp} (s : St h 1) : h.2.2.2 1 1 = some 27 := s.2.1
theorem sh_queue {h : Hp} (s : Sh h) : h.2.2.2 1 1 = some 27 := s1_queue s.1
theorem s1_log {h : Hp} (s : St h 1) : h.2.2.2 1 2 = some 59 := s.2.2.1
theorem sh_log {h : Hp} (s : Sh h) : h.2.2.2 1 2 = some 59 := s1_log s.1
theorem s1_items {h : Hp} (s : St h 1) : h.2.2.2 2 0 = some 3 := s.2.2.2.1
theorem sh_items {h : Hp} (s : Sh h) : h.2.2.2 2 0 = some 3 := s1_items s.1
theorem s1_drives {h : Hp} (s : St h 1) : h.2.2.2 2 2 = some 22 := s.2.2.2.2.1
theorem sh_drives {h : Hp} (s : Sh h) : h.2.2.2 2 2 = some 22 := s1_drives s.1
theorem s1_item {h : Hp} (s : St h 1) {i : Nat} (hi : i < 18) : h.2.2.2 3 i = some (4 + i) := s.2.2.2.2.2.1 i hi
theorem sh_item {h : Hp} (s : Sh h) {i : Nat} (hi : i < 18) : h.2.2.2 3 i = some (4 + i) := s1_item s.1 hi
theorem s1_drive {h : Hp} (s : St h 1) {i : Nat} (hi : i < 4) : h.2.2.2 22 i = some (23 + i) := s.2.2.2.2.2.2.1 i hi
theorem sh_drive {h : Hp} (s : Sh h) {i : Nat} (hi : i < 4) : h.2.2.2 22 i = some (23 + i) := s1_drive s.1 hi
theorem s1_jobs {h : Hp} (s : St h 1) : h.2.2.2 27 0 = some 28 := s.2.2.2.2.2.2.2.1
theorem sh_jobs {h : Hp} (s : Sh h) : h.2.2.2 27 0 = some 28 := s1_jobs s.1
theorem s1_job {h : Hp} (s : St h 1) {i : Nat} (hi : i < 30) : h.2.2.2 28 i = some (29 + i) := s.2.2.2.2.2.2.2.2.1 i hi
theorem sh_job {h : Hp} (s : Sh h) {i : Nat} (hi : i < 30) : h.2.2.2 28 i = some (29 + i) := s1_job s.1 hi
theorem s1_lk {h : Hp} (s : St h 1) : h.2.2.2 59 0 = some 60 := s.2.2.2.2.2.2.2.2.2.1
theorem sh_lk {h : Hp} (s : Sh h) : h.2.2.2 59 0 = some 60 := s1_lk s.1
theorem s1_lj {h : Hp} (s : St h 1) : h.2.2.2 59 1 = some 61 := s.2.2.2.2.2.2.2.2.2.2.1
theorem sh_lj {h : Hp} (s : Sh h) : h.2.2.2 59 1 = some 61 := s1_lj s.1
theorem s1_ld {h : Hp} (s : St h 1) : h.2.2.2 59 2 = some 62 := s.2.2.2.2.2.2.2.2.2.2.2.1
theorem sh_ld {h : Hp} (s : Sh h) : h.2.2.2 59 2 = some 62 := s1_ld s.1
theorem s1_lt {h : Hp} (s : St h 1) : h.2.2.2 59 3 = some 63 := s.2.2.2.2.2.2.2.2.2.2.2.2
theorem sh_lt {h : Hp} (s : Sh h) : h.2.2.2 59 3 = some 63 := s1_lt s.1
theorem e_if {α : Type} {c : Prop} [Decidable c] {x a b : α} (h1 : c → x = a) (h2 : ¬ c → x = b) : x = (if c then a else b) := by
  by_cases hc : c
  · rw [if_pos hc]; exact h1 hc
  · rw [if_neg hc]; exact h2 hc
section P12
variable {G : Gl} {h : Hp}
/-- hasSlot(s) -/
theorem c_hasSlot (s : Nat) (hs : s < 1000) : Ct G mX7_hasSlot [.int (nI s)] h 456 456 (dI (if s < 24 then 1 else 0) h) := by
  refine Ct.of rfl (by simp [Value.category, ga]) (Nat.le_of_ble_eq_true rfl) (Nat.le_refl _) ?_
  show Go _ _ _ _ _ _ _ [some (.int (nI s))] []
  refine g_ild0 dX7_hasSlot_0 ?_
  refine g_if_lt_f (tgt := 14) dX7_hasSlot_1 (by decide) (Int32.not_lt.mpr (nI_pos' (by omega))) ?_
  refine g_ild0 dX7_hasSlot_4 ?_
  refine g_bipush (v := nI 24) dX7_hasSlot_5 (by decide +kernel) ?_
  refine g_icmp_ge (tgt := 14) dX7_hasSlot_7 (by decide) (fun c_7 => ?_) (fun c_7 => ?_)
  · skip
    have c := (nI_leI (by omega) (by omega)).mp c_7
    show Go _ _ _ _ _ _ 14 _ _
    refine g_iconst (v := nI 0) dX7_hasSlot_14 (by decide +kernel) ?_
    exact g_zret rfl rfl dX7_hasSlot_15 ⟨congrArg (fun z => some (Value.int z)) (e_if (fun q => by first | rfl | (exfalso; omega)) (fun q => by first | rfl | (exfalso; omega))), rfl⟩
  · skip
    have c : ¬ 24 ≤ s := fun q => c_7 ((nI_leI (by omega) (by omega)).mpr q)
    refine g_iconst (v := nI 1) dX7_hasSlot_10 (by decide +kernel) ?_
    refine g_goto (tgt := 15) dX7_hasSlot_11 (by decide) ?_
    exact g_zret rfl rfl dX7_hasSlot_15 ⟨congrArg (fun z => some (Value.int z)) (e_if (fun q => by first | rfl | (exfalso; omega)) (fun q => by first | rfl | (exfalso; omega))), rfl⟩
/-- isFrom(value, least, most) -/
theorem c_isFrom (v a b : Int32) : Ct G mX9_isFrom [.int v, .int a, .int b] h 456 456 (dI (if a ≤ v ∧ v ≤ b then 1 else 0) h) := by
  refine Ct.of rfl (by simp [Value.category, ga]) (Nat.le_of_ble_eq_true rfl) (Nat.le_refl _) ?_
  show Go _ _ _ _ _ _ _ [some (.int v), some (.int a), some (.int b)] []
  refine g_ild0 dX9_isFrom_0 ?_
  refine g_ild1 dX9_isFrom_1 ?_
  refine g_icmp_lt (tgt := 14) dX9_isFrom_2 (by decide) (fun c_2 => ?_) (fun c_2 => ?_)
  · skip
    refine g_iconst (v := nI 0) dX9_isFrom_14 (by decide +kernel) ?_
    exact g_zret rfl rfl dX9_isFrom_15 ⟨congrArg (fun z => some (Value.int z)) (e_if (fun q => by first | rfl | (exfalso; (first | exact absurd q.1 (Int32.not_le.mpr (by assumption)) | exact absurd q.2 (Int32.not_le.mpr (by assumption)) | exact q ⟨Int32.not_lt.mp (by assumption), Int32.not_lt.mp (by assumption)⟩))) (fun q => by first | rfl | (exfalso; (first | exact absurd q.1 (Int32.not_le.mpr (by assumption)) | exact absurd q.2 (Int32.not_le.mpr (by assumption)) | exact q ⟨Int32.not_lt.mp (by assumption), Int32.not_lt.mp (by assumption)⟩)))), rfl⟩
  · skip
    show Go _ _ _ _ _ _ 5 _ _
    refine g_ild0 dX9_isFrom_5 ?_
    refine g_ild2 dX9_isFrom_6 ?_
    refine g_icmp_gt (tgt := 14) dX9_isFrom_7 (by decide) (fun c_7 => ?_) (fun c_7 => ?_)
    · skip
      refine g_iconst (v := nI 0) dX9_isFrom_14 (by decide +kernel) ?_
      exact g_zret rfl rfl dX9_isFrom_15 ⟨congrArg (fun z => some (Value.int z)) (e_if (fun q => by first | rfl | (exfalso; (first | exact absurd q.1 (Int32.not_le.mpr (by assumption)) | exact absurd q.2 (Int32.not_le.mpr (by assumption)) | exact q ⟨Int32.not_lt.mp (by assumption), Int32.not_lt.mp (by assumption)⟩))) (fun q => by first | rfl | (exfalso; (first | exact absurd q.1 (Int32.not_le.mpr (by assumption)) | exact absurd q.2 (Int32.not_le.mpr (by assumption)) | exact q ⟨Int32.not_lt.mp (by assumption), Int32.not_lt.mp (by assumption)⟩)))), rfl⟩
    · skip
      refine g_iconst (v := nI 1) dX9_isFrom_10 (by decide +kernel) ?_
      show Go _ _ _ _ _ _ 11 _ _
      refine g_goto (tgt := 15) dX9_isFrom_11 (by decide) ?_
      exact g_zret rfl rfl dX9_isFrom_15 ⟨congrArg (fun z => some (Value.int z)) (e_if (fun q => by first | rfl | (exfalso; (first | exact absurd q.1 (Int32.not_le.mpr (by assumption)) | exact absurd q.2 (Int32.not_le.mpr (by assumption)) | exact q ⟨Int32.not_lt.mp (by assumption), Int32.not_lt.mp (by assumption)⟩))) (fun q => by first | rfl | (exfalso; (first | exact absurd q.1 (Int32.not_le.mpr (by assumption)) | exact absurd q.2 (Int32.not_le.mpr (by assumption)) | exact q ⟨Int32.not_lt.mp (by assumption), Int32.not_lt.mp (by assumption)⟩)))), rfl⟩
end P12
end
section
/-! ===== COPIES OF STATES, THE HISTORY ===== -/
/-- outside [lo, hi) nothing changes, no reference and no double anywhere -/
def Ck (h h' : Hp) (lo hi : Nat) : Prop := (∀ a j, (a < lo ∨ hi ≤ a) → h'.1 a j = h.1 a j ∧ h'.2.1 a j = h.2.1 a j) ∧ h'.2.2 = h.2.2
theorem Ck.rf (h : Hp) (lo hi : Nat) : Ck h h lo hi := ⟨fun _ _ _ => ⟨rfl, rfl⟩, rfl⟩
theorem Ck.wI {h h1 : Hp} {lo hi a j : Nat} {v : Int32} (ha : lo ≤ a ∧ a < hi) (c : Ck h h1 lo hi) : Ck h (wI h1 a j v) lo hi := ⟨fun b i hb => ⟨(if_neg (fun q => by omega)).trans (c.1 b i hb).1, (c.1 b i hb).2⟩, c.2⟩
theorem Ck.wF {h h1 : Hp} {lo hi a j : Nat} {v : UInt32} (ha : lo ≤ a ∧ a < hi) (c : Ck h h1 lo hi) : Ck h (wF h1 a j v) lo hi := ⟨fun b i hb => ⟨(c.1 b i hb).1, (if_neg (fun q => by omega)).trans (c.1 b i hb).2⟩, c.2⟩
theorem Ck.wR {h h1 : Hp} {lo hi a : Nat} {f : Nat → Int32} (ha : lo ≤ a ∧ a < hi) (c : Ck h h1 lo hi) : Ck h (wR h1 a f) lo hi := ⟨fun b i hb => ⟨(if_neg (fun q => by omega)).trans (c.1 b i hb).1, (c.1 b i hb).2⟩, c.2⟩
theorem Ck.tr {h h1 h2 : Hp} {lo hi lo2 hi2 : Nat} (c : Ck h h1 lo hi) (c2 : Ck h1 h2 lo2 hi2) (hl : lo ≤ lo2) (hh : hi2 ≤ hi) : Ck h h2 lo hi := ⟨fun a j ha => ⟨(c2.1 a j (by omega)).1.trans (c.1 a j ha).1, (c2.1 a j (by omega)).2.trans (c.1 a j ha).2⟩, c2.2.trans c.2⟩
theorem ck_q {h h1 : Hp} {lo hi k j q : Nat} (c : Ck h h1 lo hi) (hq : h.2.2.2 k j = some q) : h1.2.2.2 k j = some q := by rw [c.2]; exact hq
theorem ck_St {h h1 : Hp} {lo hi b : Nat} (c : Ck h h1 lo hi) (s : St h b) : St h1 b := by
  unfold St at s ⊢
  rw [c.2]; exact s
def bo (x : Int32) : Prop := narrow .boolean (.int x) = .int x ∧ fits .boolean (.int x) = true
/-- a history's state begins there -/
def Bs (b : Nat) : Prop := ∃ j, j < 4 ∧ b = 66 + 63 * j
theorem lay_b {b o : Nat} (hb : Bs b) (ho : o < 63) : Lay (b + o) = SL o := by
  obtain ⟨j, hj, rfl⟩ := hb
  unfold Lay
  rw [if_neg (by omega), if_neg (by omega), if_neg (by omega), if_neg (by omega), if_pos (by omega)]
  congr 1
  omega
theorem lb0 {b : Nat} (hb : Bs b) : Lay b = .inl 6 := (lay_b (o := 0) hb (by omega)).trans rfl
theorem lb1 {b : Nat} (hb : Bs b) : Lay (b + 1) = .inl 7 := (lay_b hb (by omega)).trans rfl
theorem lb2 {b : Nat} (hb : Bs b) : Lay (b + 2) = .inr (3, 18) := (lay_b hb (by omega)).trans rfl
theorem lb21 {b : Nat} (hb : Bs b) : Lay (b + 21) = .inr (4, 4) := (lay_b hb (by omega)).trans rfl
theorem lb26 {b : Nat} (hb : Bs b) : Lay (b + 26) = .inl 5 := (lay_b hb (by omega)).trans rfl
theorem lb27 {b : Nat} (hb : Bs b) : Lay (b + 27) = .inr (5, 30) := (lay_b hb (by omega)).trans rfl
theorem lb58 {b : Nat} (hb : Bs b) : Lay (b + 58) = .inl 4 := (lay_b hb (by omega)).trans rfl
theorem lb59 {b : Nat} (hb : Bs b) : Lay (b + 59) = .inr (0, 10) := (lay_b hb (by omega)).trans rfl
theorem lb60 {b : Nat} (hb : Bs b) : Lay (b + 60) = .inr (0, 10) := (lay_b hb (by omega)).trans rfl
theorem lb61 {b : Nat} (hb : Bs b) : Lay (b + 61) = .inr (0, 10) := (lay_b hb (by omega)).trans rfl
theorem lb62 {b : Nat} (hb : Bs b) : Lay (b + 62) = .inr (0, 10) := (lay_b hb (by omega)).trans rfl
theorem lbi {b i : Nat} (hb : Bs b) (hi : i < 18) : Lay (b + 3 + i) = .inl 2 := by
  rw [show b + 3 + i = b + (3 + i) by omega, lay_b hb (by omega)]
  unfold SL
  rw [if_neg (by omega), if_neg (by omega), if_neg (by omega), if_pos (by omega)]
theorem lbd {b i : Nat} (hb : Bs b) (hi : i < 4) : Lay (b + 22 + i) = .inl 0 := by
  rw [show b + 22 + i = b + (22 + i) by omega, lay_b hb (by omega)]
  unfold SL
  rw [if_neg (by omega), if_neg (by omega), if_neg (by omega), if_neg (by omega), if_neg (by omega), if_pos (by omega)]
theorem lbj {b i : Nat} (hb : Bs b) (hi : i < 30) : Lay (b + 28 + i) = .inl 3 := by
  rw [show b + 28 + i = b + (28 + i) by omega, lay_b hb (by omega)]
  unfold SL
  rw [if_neg (by omega), if_neg (by omega), if_neg (by omega), if_neg (by omega), if_neg (by omega), if_neg (by omega), if_neg (by omega), if_neg (by omega), if_pos (by omega)]
theorem Bs.lt {b : Nat} (hb : Bs b) : 66 ≤ b ∧ b + 63 ≤ 318 := by
  obtain ⟨j, hj, rfl⟩ := hb
  omega
section P13
variable {G : Gl} {h : Hp}
theorem c_icopy (k k2 : Nat) (hk : Lay k = .inl 2) (hk2 : Lay k2 = .inl 2) (l1 : k < 456) (l2 : k2 < 456) (hbo : bo (h.1 k2 0)) : Ct G mX2_copyFrom [ga G k, ga G k2] h 456 456 (rV (fun h' => Ck h h' k (k + 1))) := by
  refine Ct.of rfl (by simp [Value.category, ga]) (Nat.le_of_ble_eq_true rfl) (Nat.le_refl _) ?_
  show Go _ _ _ _ _ _ _ [some (ga G k), some (ga G k2)] []
  refine g_ald0 dX2_copyFrom_0 ?_
  refine g_ald1 dX2_copyFrom_1 ?_
  refine g_getI_a fb_2_0 mw_1_40 (by first | rfl | assumption | (exact lay_item (by omega)) | (exact lay_drive (by omega)) | (exact lay_job (by omega))) (by omega) dX2_copyFrom_2 (fun xx2 ee2 => ?_)
  refine g_putI fb_2_0 mw_1_40 (by first | rfl | assumption | (exact lay_item (by omega)) | (exact lay_drive (by omega)) | (exact lay_job (by omega))) (by omega) (by rw [← ee2]; exact hbo.1) (by rw [← ee2]; exact hbo.2) dX2_copyFrom_5 ?_
  refine g_ald0 dX2_copyFrom_8 ?_
  show Go _ _ _ _ _ _ 9 _ _
  refine g_ald1 dX2_copyFrom_9 ?_
  refine g_getI_a fb_2_1 mw_1_44 (by first | rfl | assumption | (exact lay_item (by omega)) | (exact lay_drive (by omega)) | (exact lay_job (by omega))) (by omega) dX2_copyFrom_10 (fun xx10 ee10 => ?_)
  refine g_putI fb_2_1 mw_1_44 (by first | rfl | assumption | (exact lay_item (by omega)) | (exact lay_drive (by omega)) | (exact lay_job (by omega))) (by omega) rfl rfl dX2_copyFrom_13 ?_
  refine g_ald0 dX2_copyFrom_16 ?_
  refine g_ald1 dX2_copyFrom_17 ?_
  refine g_getI_a fb_2_2 mw_1_47 (by first | rfl | assumption | (exact lay_item (by omega)) | (exact lay_drive (by omega)) | (exact lay_job (by omega))) (by omega) dX2_copyFrom_18 (fun xx18 ee18 => ?_)
  show Go _ _ _ _ _ _ 21 _ _
  refine g_putI fb_2_2 mw_1_47 (by first | rfl | assumption | (exact lay_item (by omega)) | (exact lay_drive (by omega)) | (exact lay_job (by omega))) (by omega) rfl rfl dX2_copyFrom_21 ?_
  refine g_ald0 dX2_copyFrom_24 ?_
  refine g_ald1 dX2_copyFrom_25 ?_
  refine g_getI_a fb_2_3 mw_1_49 (by first | rfl | assumption | (exact lay_item (by omega)) | (exact lay_drive (by omega)) | (exact lay_job (by omega))) (by omega) dX2_copyFrom_26 (fun xx26 ee26 => ?_)
  refine g_putI fb_2_3 mw_1_49 (by first | rfl | assumption | (exact lay_item (by omega)) | (exact lay_drive (by omega)) | (exact lay_job (by omega))) (by omega) rfl rfl dX2_copyFrom_29 ?_
  refine g_ald0 dX2_copyFrom_32 ?_
  show Go _ _ _ _ _ _ 33 _ _
  refine g_ald1 dX2_copyFrom_33 ?_
  refine g_getI_a fb_2_4 mw_1_51 (by first | rfl | assumption | (exact lay_item (by omega)) | (exact lay_drive (by omega)) | (exact lay_job (by omega))) (by omega) dX2_copyFrom_34 (fun xx34 ee34 => ?_)
  refine g_putI fb_2_4 mw_1_51 (by first | rfl | assumption | (exact lay_item (by omega)) | (exact lay_drive (by omega)) | (exact lay_job (by omega))) (by omega) rfl rfl dX2_copyFrom_37 ?_
  refine g_ald0 dX2_copyFrom_40 ?_
  refine g_ald1 dX2_copyFrom_41 ?_
  refine g_getI_a fb_2_5 mw_1_55 (by first | rfl | assumption | (exact lay_item (by omega)) | (exact lay_drive (by omega)) | (exact lay_job (by omega))) (by omega) dX2_copyFrom_42 (fun xx42 ee42 => ?_)
  show Go _ _ _ _ _ _ 45 _ _
  refine g_putI fb_2_5 mw_1_55 (by first | rfl | assumption | (exact lay_item (by omega)) | (exact lay_drive (by omega)) | (exact lay_job (by omega))) (by omega) rfl rfl dX2_copyFrom_45 ?_
  refine g_ald0 dX2_copyFrom_48 ?_
  refine g_ald1 dX2_copyFrom_49 ?_
  refine g_getF_a fb_2_6 mw_1_56 (by first | rfl | assumption | (exact lay_item (by omega)) | (exact lay_drive (by omega)) | (exact lay_job (by omega))) (by omega) dX2_copyFrom_50 (fun xx50 ee50 => ?_)
  refine g_putF fb_2_6 mw_1_56 (by first | rfl | assumption | (exact lay_item (by omega)) | (exact lay_drive (by omega)) | (exact lay_job (by omega))) (by omega) dX2_copyFrom_53 ?_
  refine g_ald0 dX2_copyFrom_56 ?_
  show Go _ _ _ _ _ _ 57 _ _
  refine g_ald1 dX2_copyFrom_57 ?_
  refine g_getI_a fb_2_7 mw_1_58 (by first | rfl | assumption | (exact lay_item (by omega)) | (exact lay_drive (by omega)) | (exact lay_job (by omega))) (by omega) dX2_copyFrom_58 (fun xx58 ee58 => ?_)
  refine g_putI fb_2_7 mw_1_58 (by first | rfl | assumption | (exact lay_item (by omega)) | (exact lay_drive (by omega)) | (exact lay_job (by omega))) (by omega) rfl rfl dX2_copyFrom_61 ?_
  exact g_vret rfl dX2_copyFrom_64 ⟨rfl, by repeat (first | exact Ck.rf _ _ _ | refine Ck.wI (by omega) ?_ | refine Ck.wF (by omega) ?_)⟩
theorem c_dcopy (k k2 : Nat) (hk : Lay k = .inl 0) (hk2 : Lay k2 = .inl 0) (l1 : k < 456) (l2 : k2 < 456) : Ct G mX0_copyFrom [ga G k, ga G k2] h 456 456 (rV (fun h' => Ck h h' k (k + 1))) := by
  refine Ct.of rfl (by simp [Value.category, ga]) (Nat.le_of_ble_eq_true rfl) (Nat.le_refl _) ?_
  show Go _ _ _ _ _ _ _ [some (ga G k), some (ga G k2)] []
  refine g_ald0 dX0_copyFrom_0 ?_
  refine g_ald1 dX0_copyFrom_1 ?_
  refine g_getI_a fb_0_0 mw_1_84 (by first | rfl | assumption | (exact lay_item (by omega)) | (exact lay_drive (by omega)) | (exact lay_job (by omega))) (by omega) dX0_copyFrom_2 (fun xx2 ee2 => ?_)
  refine g_putI fb_0_0 mw_1_84 (by first | rfl | assumption | (exact lay_item (by omega)) | (exact lay_drive (by omega)) | (exact lay_job (by omega))) (by omega) rfl rfl dX0_copyFrom_5 ?_
  refine g_ald0 dX0_copyFrom_8 ?_
  show Go _ _ _ _ _ _ 9 _ _
  refine g_ald1 dX0_copyFrom_9 ?_
  refine g_getF_a fb_0_1 mw_1_87 (by first | rfl | assumption | (exact lay_item (by omega)) | (exact lay_drive (by omega)) | (exact lay_job (by omega))) (by omega) dX0_copyFrom_10 (fun xx10 ee10 => ?_)
  refine g_putF fb_0_1 mw_1_87 (by first | rfl | assumption | (exact lay_item (by omega)) | (exact lay_drive (by omega)) | (exact lay_job (by omega))) (by omega) dX0_copyFrom_13 ?_
  refine g_ald0 dX0_copyFrom_16 ?_
  refine g_ald1 dX0_copyFrom_17 ?_
  refine g_getF_a fb_0_2 mw_1_90 (by first | rfl | assumption | (exact lay_item (by omega)) | (exact lay_drive (by omega)) | (exact lay_job (by omega))) (by omega) dX0_copyFrom_18 (fun xx18 ee18 => ?_)
  show Go _ _ _ _ _ _ 21 _ _
  refine g_putF fb_0_2 mw_1_90 (by first | rfl | assumption | (exact lay_item (by omega)) | (exact lay_drive (by omega)) | (exact lay_job (by omega))) (by omega) dX0_copyFrom_21 ?_
  refine g_ald0 dX0_copyFrom_24 ?_
  refine g_ald1 dX0_copyFrom_25 ?_
  refine g_getI_a fb_0_3 mw_1_92 (by first | rfl | assumption | (exact lay_item (by omega)) | (exact lay_drive (by omega)) | (exact lay_job (by omega))) (by omega) dX0_copyFrom_26 (fun xx26 ee26 => ?_)
  refine g_putI fb_0_3 mw_1_92 (by first | rfl | assumption | (exact lay_item (by omega)) | (exact lay_drive (by omega)) | (exact lay_job (by omega))) (by omega) rfl rfl dX0_copyFrom_29 ?_
  refine g_ald0 dX0_copyFrom_32 ?_
  show Go _ _ _ _ _ _ 33 _ _
  refine g_ald1 dX0_copyFrom_33 ?_
  refine g_getI_a fb_0_4 mw_1_93 (by first | rfl | assumption | (exact lay_item (by omega)) | (exact lay_drive (by omega)) | (exact lay_job (by omega))) (by omega) dX0_copyFrom_34 (fun xx34 ee34 => ?_)
  refine g_putI fb_0_4 mw_1_93 (by first | rfl | assumption | (exact lay_item (by omega)) | (exact lay_drive (by omega)) | (exact lay_job (by omega))) (by omega) rfl rfl dX0_copyFrom_37 ?_
  refine g_ald0 dX0_copyFrom_40 ?_
  refine g_ald1 dX0_copyFrom_41 ?_
  refine g_getI_a fb_0_5 mw_1_94 (by first | rfl | assumption | (exact lay_item (by omega)) | (exact lay_drive (by omega)) | (exact lay_job (by omega))) (by omega) dX0_copyFrom_42 (fun xx42 ee42 => ?_)
  show Go _ _ _ _ _ _ 45 _ _
  refine g_putI fb_0_5 mw_1_94 (by first | rfl | assumption | (exact lay_item (by omega)) | (exact lay_drive (by omega)) | (exact lay_job (by omega))) (by omega) rfl rfl dX0_copyFrom_45 ?_
  refine g_ald0 dX0_copyFrom_48 ?_
  refine g_ald1 dX0_copyFrom_49 ?_
  refine g_getI_a fb_0_6 mw_1_95 (by first | rfl | assumption | (exact lay_item (by omega)) | (exact lay_drive (by omega)) | (exact lay_job (by omega))) (by omega) dX0_copyFrom_50 (fun xx50 ee50 => ?_)
  refine g_putI fb_0_6 mw_1_95 (by first | rfl | assumption | (exact lay_item (by omega)) | (exact lay_drive (by omega)) | (exact lay_job (by omega))) (by omega) rfl rfl dX0_copyFrom_53 ?_
  exact g_vret rfl dX0_copyFrom_56 ⟨rfl, by repeat (first | exact Ck.rf _ _ _ | refine Ck.wI (by omega) ?_ | refine Ck.wF (by omega) ?_)⟩
theorem c_jcopy (k k2 : Nat) (hk : Lay k = .inl 3) (hk2 : Lay k2 = .inl 3) (l1 : k < 456) (l2 : k2 < 456) : Ct G mX3_copyFrom [ga G k, ga G k2] h 456 456 (rV (fun h' => Ck h h' k (k + 1))) := by
  refine Ct.of rfl (by simp [Value.category, ga]) (Nat.le_of_ble_eq_true rfl) (Nat.le_refl _) ?_
  show Go _ _ _ _ _ _ _ [some (ga G k), some (ga G k2)] []
  refine g_ald0 dX3_copyFrom_0 ?_
  refine g_ald1 dX3_copyFrom_1 ?_
  refine g_getI_a fb_3_0 mw_1_140 (by first | rfl | assumption | (exact lay_item (by omega)) | (exact lay_drive (by omega)) | (exact lay_job (by omega))) (by omega) dX3_copyFrom_2 (fun xx2 ee2 => ?_)
  refine g_putI fb_3_0 mw_1_140 (by first | rfl | assumption | (exact lay_item (by omega)) | (exact lay_drive (by omega)) | (exact lay_job (by omega))) (by omega) rfl rfl dX3_copyFrom_5 ?_
  refine g_ald0 dX3_copyFrom_8 ?_
  show Go _ _ _ _ _ _ 9 _ _
  refine g_ald1 dX3_copyFrom_9 ?_
  refine g_getI_a fb_3_1 mw_1_142 (by first | rfl | assumption | (exact lay_item (by omega)) | (exact lay_drive (by omega)) | (exact lay_job (by omega))) (by omega) dX3_copyFrom_10 (fun xx10 ee10 => ?_)
  refine g_putI fb_3_1 mw_1_142 (by first | rfl | assumption | (exact lay_item (by omega)) | (exact lay_drive (by omega)) | (exact lay_job (by omega))) (by omega) rfl rfl dX3_copyFrom_13 ?_
  refine g_ald0 dX3_copyFrom_16 ?_
  refine g_ald1 dX3_copyFrom_17 ?_
  refine g_getI_a fb_3_2 mw_1_144 (by first | rfl | assumption | (exact lay_item (by omega)) | (exact lay_drive (by omega)) | (exact lay_job (by omega))) (by omega) dX3_copyFrom_18 (fun xx18 ee18 => ?_)
  show Go _ _ _ _ _ _ 21 _ _
  refine g_putI fb_3_2 mw_1_144 (by first | rfl | assumption | (exact lay_item (by omega)) | (exact lay_drive (by omega)) | (exact lay_job (by omega))) (by omega) rfl rfl dX3_copyFrom_21 ?_
  refine g_ald0 dX3_copyFrom_24 ?_
  refine g_ald1 dX3_copyFrom_25 ?_
  refine g_getI_a fb_3_3 mw_1_146 (by first | rfl | assumption | (exact lay_item (by omega)) | (exact lay_drive (by omega)) | (exact lay_job (by omega))) (by omega) dX3_copyFrom_26 (fun xx26 ee26 => ?_)
  refine g_putI fb_3_3 mw_1_146 (by first | rfl | assumption | (exact lay_item (by omega)) | (exact lay_drive (by omega)) | (exact lay_job (by omega))) (by omega) rfl rfl dX3_copyFrom_29 ?_
  refine g_ald0 dX3_copyFrom_32 ?_
  show Go _ _ _ _ _ _ 33 _ _
  refine g_ald1 dX3_copyFrom_33 ?_
  refine g_getI_a fb_3_4 mw_1_150 (by first | rfl | assumption | (exact lay_item (by omega)) | (exact lay_drive (by omega)) | (exact lay_job (by omega))) (by omega) dX3_copyFrom_34 (fun xx34 ee34 => ?_)
  refine g_putI fb_3_4 mw_1_150 (by first | rfl | assumption | (exact lay_item (by omega)) | (exact lay_drive (by omega)) | (exact lay_job (by omega))) (by omega) rfl rfl dX3_copyFrom_37 ?_
  refine g_ald0 dX3_copyFrom_40 ?_
  refine g_ald1 dX3_copyFrom_41 ?_
  refine g_getI_a fb_3_5 mw_1_152 (by first | rfl | assumption | (exact lay_item (by omega)) | (exact lay_drive (by omega)) | (exact lay_job (by omega))) (by omega) dX3_copyFrom_42 (fun xx42 ee42 => ?_)
  show Go _ _ _ _ _ _ 45 _ _
  refine g_putI fb_3_5 mw_1_152 (by first | rfl | assumption | (exact lay_item (by omega)) | (exact lay_drive (by omega)) | (exact lay_job (by omega))) (by omega) rfl rfl dX3_copyFrom_45 ?_
  refine g_ald0 dX3_copyFrom_48 ?_
  refine g_ald1 dX3_copyFrom_49 ?_
  refine g_getI_a fb_3_6 mw_1_155 (by first | rfl | assumption | (exact lay_item (by omega)) | (exact lay_drive (by omega)) | (exact lay_job (by omega))) (by omega) dX3_copyFrom_50 (fun xx50 ee50 => ?_)
  refine g_putI fb_3_6 mw_1_155 (by first | rfl | assumption | (exact lay_item (by omega)) | (exact lay_drive (by omega)) | (exact lay_job (by omega))) (by omega) rfl rfl dX3_copyFrom_53 ?_
  refine g_ald0 dX3_copyFrom_56 ?_
  show Go _ _ _ _ _ _ 57 _ _
  refine g_ald1 dX3_copyFrom_57 ?_
  refine g_getI_a fb_3_7 mw_1_157 (by first | rfl | assumption | (exact lay_item (by omega)) | (exact lay_drive (by omega)) | (exact lay_job (by omega))) (by omega) dX3_copyFrom_58 (fun xx58 ee58 => ?_)
  refine g_putI fb_3_7 mw_1_157 (by first | rfl | assumption | (exact lay_item (by omega)) | (exact lay_drive (by omega)) | (exact lay_job (by omega))) (by omega) rfl rfl dX3_copyFrom_61 ?_
  refine g_ald0 dX3_copyFrom_64 ?_
  refine g_ald1 dX3_copyFrom_65 ?_
  refine g_getI_a fb_3_8 mw_1_159 (by first | rfl | assumption | (exact lay_item (by omega)) | (exact lay_drive (by omega)) | (exact lay_job (by omega))) (by omega) dX3_copyFrom_66 (fun xx66 ee66 => ?_)
  show Go _ _ _ _ _ _ 69 _ _
  refine g_putI fb_3_8 mw_1_159 (by first | rfl | assumption | (exact lay_item (by omega)) | (exact lay_drive (by omega)) | (exact lay_job (by omega))) (by omega) rfl rfl dX3_copyFrom_69 ?_
  refine g_ald0 dX3_copyFrom_72 ?_
  refine g_ald1 dX3_copyFrom_73 ?_
  refine g_getI_a fb_3_9 mw_1_161 (by first | rfl | assumption | (exact lay_item (by omega)) | (exact lay_drive (by omega)) | (exact lay_job (by omega))) (by omega) dX3_copyFrom_74 (fun xx74 ee74 => ?_)
  refine g_putI fb_3_9 mw_1_161 (by first | rfl | assumption | (exact lay_item (by omega)) | (exact lay_drive (by omega)) | (exact lay_job (by omega))) (by omega) rfl rfl dX3_copyFrom_77 ?_
  refine g_ald0 dX3_copyFrom_80 ?_
  show Go _ _ _ _ _ _ 81 _ _
  refine g_ald1 dX3_copyFrom_81 ?_
  refine g_getI_a fb_3_10 mw_1_163 (by first | rfl | assumption | (exact lay_item (by omega)) | (exact lay_drive (by omega)) | (exact lay_job (by omega))) (by omega) dX3_copyFrom_82 (fun xx82 ee82 => ?_)
  refine g_putI fb_3_10 mw_1_163 (by first | rfl | assumption | (exact lay_item (by omega)) | (exact lay_drive (by omega)) | (exact lay_job (by omega))) (by omega) rfl rfl dX3_copyFrom_85 ?_
  refine g_ald0 dX3_copyFrom_88 ?_
  refine g_ald1 dX3_copyFrom_89 ?_
  refine g_getI_a fb_3_11 mw_1_165 (by first | rfl | assumption | (exact lay_item (by omega)) | (exact lay_drive (by omega)) | (exact lay_job (by omega))) (by omega) dX3_copyFrom_90 (fun xx90 ee90 => ?_)
  show Go _ _ _ _ _ _ 93 _ _
  refine g_putI fb_3_11 mw_1_165 (by first | rfl | assumption | (exact lay_item (by omega)) | (exact lay_drive (by omega)) | (exact lay_job (by omega))) (by omega) rfl rfl dX3_copyFrom_93 ?_
  refine g_ald0 dX3_copyFrom_96 ?_
  refine g_ald1 dX3_copyFrom_97 ?_
  refine g_getI_a fb_3_12 mw_1_168 (by first | rfl | assumption | (exact lay_item (by omega)) | (exact lay_drive (by omega)) | (exact lay_job (by omega))) (by omega) dX3_copyFrom_98 (fun xx98 ee98 => ?_)
  refine g_putI fb_3_12 mw_1_168 (by first | rfl | assumption | (exact lay_item (by omega)) | (exact lay_drive (by omega)) | (exact lay_job (by omega))) (by omega) rfl rfl dX3_copyFrom_101 ?_
  exact g_vret rfl dX3_copyFrom_104 ⟨rfl, by repeat (first | exact Ck.rf _ _ _ | refine Ck.wI (by omega) ?_ | refine Ck.wF (by omega) ?_)⟩
theorem c_lcopy (b : Nat) (hb : Bs b) (s1 : St h 1) (sb : St h b) : Ct G mX4_copyFrom [ga G (b + 58), ga G 59] h 456 456 (rV (fun h' => Ck h h' b (b + 63))) := by
  have hlt := hb.lt
  obtain ⟨-, -, -, -, -, -, -, -, -, b1, b2, b3, b4⟩ := sb
  refine Ct.of rfl (by simp [Value.category, ga]) (Nat.le_of_ble_eq_true rfl) (Nat.le_refl _) ?_
  show Go _ _ _ _ _ _ _ [some (ga G (b + 58)), some (ga G 59)] []
  refine g_ald1 dX4_copyFrom_0 ?_
  refine g_getQ fb_4_0 mw_1_219 (by first | rfl | exact lb58 hb) (by omega) (s1_lk s1) dX4_copyFrom_1 ?_
  refine g_iconst (v := nI 0) dX4_copyFrom_4 (by decide +kernel) ?_
  refine g_ald0 dX4_copyFrom_5 ?_
  refine g_getQ fb_4_0 mw_1_219 (by first | rfl | exact lb58 hb) (by omega) b1 dX4_copyFrom_6 ?_
  show Go _ _ _ _ _ _ 9 _ _
  refine g_iconst (v := nI 0) dX4_copyFrom_9 (by decide +kernel) ?_
  refine g_bipush (v := nI 10) dX4_copyFrom_10 (by decide +kernel) ?_
  refine g_copy mw_3_115 (w0 := 10) (by decide) (by decide) (lb59 hb) (by omega) (by decide) (by decide) (by decide) (by decide) (Nat.le_of_ble_eq_true rfl) dX4_copyFrom_12 ?_
  refine g_ald1 dX4_copyFrom_15 ?_
  refine g_getQ fb_4_1 mw_1_220 (by first | rfl | exact lb58 hb) (by omega) (s1_lj s1) dX4_copyFrom_16 ?_
  refine g_iconst (v := nI 0) dX4_copyFrom_19 (by decide +kernel) ?_
  show Go _ _ _ _ _ _ 20 _ _
  refine g_ald0 dX4_copyFrom_20 ?_
  refine g_getQ fb_4_1 mw_1_220 (by first | rfl | exact lb58 hb) (by omega) b2 dX4_copyFrom_21 ?_
  refine g_iconst (v := nI 0) dX4_copyFrom_24 (by decide +kernel) ?_
  refine g_bipush (v := nI 10) dX4_copyFrom_25 (by decide +kernel) ?_
  refine g_copy mw_3_115 (w0 := 10) (by decide) (by decide) (lb60 hb) (by omega) (by decide) (by decide) (by decide) (by decide) (Nat.le_of_ble_eq_true rfl) dX4_copyFrom_27 ?_
  refine g_ald1 dX4_copyFrom_30 ?_
  show Go _ _ _ _ _ _ 31 _ _
  refine g_getQ fb_4_2 mw_1_221 (by first | rfl | exact lb58 hb) (by omega) (s1_ld s1) dX4_copyFrom_31 ?_
  refine g_iconst (v := nI 0) dX4_copyFrom_34 (by decide +kernel) ?_
  refine g_ald0 dX4_copyFrom_35 ?_
  refine g_getQ fb_4_2 mw_1_221 (by first | rfl | exact lb58 hb) (by omega) b3 dX4_copyFrom_36 ?_
  refine g_iconst (v := nI 0) dX4_copyFrom_39 (by decide +kernel) ?_
  refine g_bipush (v := nI 10) dX4_copyFrom_40 (by decide +kernel) ?_
  show Go _ _ _ _ _ _ 42 _ _
  refine g_copy mw_3_115 (w0 := 10) (by decide) (by decide) (lb61 hb) (by omega) (by decide) (by decide) (by decide) (by decide) (Nat.le_of_ble_eq_true rfl) dX4_copyFrom_42 ?_
  refine g_ald1 dX4_copyFrom_45 ?_
  refine g_getQ fb_4_3 mw_1_222 (by first | rfl | exact lb58 hb) (by omega) (s1_lt s1) dX4_copyFrom_46 ?_
  refine g_iconst (v := nI 0) dX4_copyFrom_49 (by decide +kernel) ?_
  refine g_ald0 dX4_copyFrom_50 ?_
  refine g_getQ fb_4_3 mw_1_222 (by first | rfl | exact lb58 hb) (by omega) b4 dX4_copyFrom_51 ?_
  show Go _ _ _ _ _ _ 54 _ _
  refine g_iconst (v := nI 0) dX4_copyFrom_54 (by decide +kernel) ?_
  refine g_bipush (v := nI 10) dX4_copyFrom_55 (by decide +kernel) ?_
  refine g_copy mw_3_115 (w0 := 10) (by decide) (by decide) (lb62 hb) (by omega) (by decide) (by decide) (by decide) (by decide) (Nat.le_of_ble_eq_true rfl) dX4_copyFrom_57 ?_
  refine g_ald0 dX4_copyFrom_60 ?_
  refine g_ald1 dX4_copyFrom_61 ?_
  refine g_getI_a fb_4_4 mw_1_223 (by first | rfl | exact lb58 hb) (by omega) dX4_copyFrom_62 (fun xx62 ee62 => ?_)
  show Go _ _ _ _ _ _ 65 _ _
  refine g_putI fb_4_4 mw_1_223 (by first | rfl | exact lb58 hb) (by omega) rfl rfl dX4_copyFrom_65 ?_
  refine g_ald0 dX4_copyFrom_68 ?_
  refine g_ald1 dX4_copyFrom_69 ?_
  refine g_getI_a fb_4_5 mw_1_224 (by first | rfl | exact lb58 hb) (by omega) dX4_copyFrom_70 (fun xx70 ee70 => ?_)
  refine g_putI fb_4_5 mw_1_224 (by first | rfl | exact lb58 hb) (by omega) rfl rfl dX4_copyFrom_73 ?_
  exact g_vret rfl dX4_copyFrom_76 ⟨rfl, by repeat (first | exact Ck.rf _ _ _ | refine Ck.wI (by omega) ?_ | refine Ck.wR (by omega) ?_)⟩
theorem c_qcopy (b nj : Nat) (hb : Bs b) (s1 : St h 1) (sb : St h b) (hn : h.1 27 1 = nI nj) (hj : nj ≤ 30) : Ct G mX5_copyFrom [ga G (b + 26), ga G 27] h 456 456 (rV (fun h' => Ck h h' b (b + 63))) := by
  have hlt := hb.lt
  refine Ct.of rfl (by simp [Value.category, ga]) (Nat.le_of_ble_eq_true rfl) (Nat.le_refl _) ?_
  show Go _ _ _ _ _ _ _ [some (ga G (b + 26)), some (ga G 27), none] []
  have loop : ∀ m i h1, m + i = nj → Ck h h1 b (b + 63) → h1.1 (b + 26) 1 = nI nj → Go G mX5_copyFrom 456 (rV (fun h' => Ck h h' b (b + 63))) h1 456 10 [some (ga G (b + 26)), some (ga G 27), some (.int (nI i))] [] := by
    intro m
    induction m with
    | zero =>
      intro i h1 hi hc h9
      refine g_ild2 dX5_copyFrom_10 ?_
      refine g_ald0 dX5_copyFrom_11 ?_
      refine g_getI fb_5_1 mw_1_199 (by first | rfl | exact lb26 hb | exact lb27 hb | exact lbj hb (by omega) | exact lay_job (by omega)) (by omega) dX5_copyFrom_12 ?_
      refine g_icmp_ge_t (tgt := 39) dX5_copyFrom_15 (by decide) (by rw [h9]; exact nI_le (by omega) (by omega)) ?_
      refine g_ald0 dX5_copyFrom_39 ?_
      show Go _ _ _ _ _ _ 40 _ _
      refine g_ald1 dX5_copyFrom_40 ?_
      refine g_getI fb_5_2 mw_1_202 (by first | rfl | exact lb26 hb | exact lb27 hb | exact lbj hb (by omega) | exact lay_job (by omega)) (by omega) dX5_copyFrom_41 ?_
      refine g_putI fb_5_2 mw_1_202 (by first | rfl | exact lb26 hb | exact lb27 hb | exact lbj hb (by omega) | exact lay_job (by omega)) (by omega) rfl rfl dX5_copyFrom_44 ?_
      refine g_ald0 dX5_copyFrom_47 ?_
      refine g_ald1 dX5_copyFrom_48 ?_
      refine g_getI fb_5_3 mw_1_203 (by first | rfl | exact lb26 hb | exact lb27 hb | exact lbj hb (by omega) | exact lay_job (by omega)) (by omega) dX5_copyFrom_49 ?_
      show Go _ _ _ _ _ _ 52 _ _
      refine g_putI fb_5_3 mw_1_203 (by first | rfl | exact lb26 hb | exact lb27 hb | exact lbj hb (by omega) | exact lay_job (by omega)) (by omega) rfl rfl dX5_copyFrom_52 ?_
      exact g_vret rfl dX5_copyFrom_55 ⟨rfl, by repeat (first | exact hc | refine Ck.wI (by omega) ?_)⟩
    | succ m ih =>
      intro i h1 hi hc h9
      refine g_ild2 dX5_copyFrom_10 ?_
      refine g_ald0 dX5_copyFrom_11 ?_
      refine g_getI fb_5_1 mw_1_199 (by first | rfl | exact lb26 hb | exact lb27 hb | exact lbj hb (by omega) | exact lay_job (by omega)) (by omega) dX5_copyFrom_12 ?_
      refine g_icmp_ge_f (tgt := 39) dX5_copyFrom_15 (by decide) (by rw [h9]; exact nI_ge (by omega) (by omega)) ?_
      refine g_ald0 dX5_copyFrom_18 ?_
      show Go _ _ _ _ _ _ 19 _ _
      refine g_getQ fb_5_0 mw_1_197 (by first | rfl | exact lb26 hb | exact lb27 hb | exact lbj hb (by omega) | exact lay_job (by omega)) (by omega) (ck_q hc sb.2.2.2.2.2.2.2.1) dX5_copyFrom_19 ?_
      refine g_ild2 dX5_copyFrom_22 ?_
      refine g_qald5 (by first | rfl | exact lb26 hb | exact lb27 hb | exact lbj hb (by omega) | exact lay_job (by omega)) (by omega) rfl (by omega) (ck_q hc (sb.2.2.2.2.2.2.2.2.1 i (by omega))) dX5_copyFrom_23 ?_
      refine g_ald1 dX5_copyFrom_24 ?_
      refine g_getQ fb_5_0 mw_1_197 (by first | rfl | exact lb26 hb | exact lb27 hb | exact lbj hb (by omega) | exact lay_job (by omega)) (by omega) (ck_q hc (s1_jobs s1)) dX5_copyFrom_25 ?_
      refine g_ild2 dX5_copyFrom_28 ?_
      show Go _ _ _ _ _ _ 29 _ _
      refine g_qald5 (by first | rfl | exact lb26 hb | exact lb27 hb | exact lbj hb (by omega) | exact lay_job (by omega)) (by omega) rfl (by omega) (ck_q hc (s1_job s1 (i := i) (by omega))) dX5_copyFrom_29 ?_
      refine g_callV1 (c_jcopy (h := h1) _ _ (lbj hb (by omega)) (lay_job (by omega)) (by omega) (by omega)) mw_3_107 ok_X3_copyFrom ⟨by decide, by decide⟩ (by first | rfl | exact lb26 hb | exact lb27 hb | exact lbj hb (by omega) | exact lay_job (by omega)) (by omega) rfl (by omega) (by omega) (Nat.le_of_ble_eq_true rfl) dX5_copyFrom_30 (rV_K ?_)
      intro h2 hc2
      refine g_iinc2 (by decide) dX5_copyFrom_33 (nI_1 i) ?_
      refine g_goto (tgt := 10) dX5_copyFrom_36 (by decide) ?_
      exact ih (i + 1) h2 (by omega) (hc.tr hc2 (by omega) (by omega)) ((hc2.1 _ _ (by omega)).1.trans h9)
  refine g_ald0 dX5_copyFrom_0 ?_
  refine g_ald1 dX5_copyFrom_1 ?_
  refine g_getI fb_5_1 mw_1_199 (by first | rfl | exact lb26 hb) (by omega) dX5_copyFrom_2 ?_
  refine g_putI fb_5_1 mw_1_199 (by first | rfl | exact lb26 hb) (by omega) rfl rfl dX5_copyFrom_5 ?_
  refine g_iconst (v := nI 0) dX5_copyFrom_8 (by decide +kernel) ?_
  show Go _ _ _ _ _ _ 9 _ _
  refine g_ist2 (by decide) dX5_copyFrom_9 ?_
  exact loop nj 0 _ (by omega) (Ck.wI (by omega) (Ck.rf _ _ _)) ((if_pos ⟨rfl, rfl⟩).trans hn)
theorem c_scopy (b ni nd : Nat) (hb : Bs b) (s1 : St h 1) (sb : St h b) (hn : h.1 2 1 = nI ni) (hi9 : ni ≤ 18) (hn2 : h.1 2 3 = nI nd) (hd9 : nd ≤ 4) (hbo : ∀ i, i < ni → bo (h.1 (4 + i) 0)) : Ct G mX7_copyFrom [ga G (b + 1), ga G 2] h 456 456 (rV (fun h' => Ck h h' b (b + 63))) := by
  have hlt := hb.lt
  refine Ct.of rfl (by simp [Value.category, ga]) (Nat.le_of_ble_eq_true rfl) (Nat.le_refl _) ?_
  show Go _ _ _ _ _ _ _ [some (ga G (b + 1)), some (ga G 2), none] []
  have loop2 : ∀ m i h1, m + i = nd → Ck h h1 b (b + 63) → h1.1 (b + 1) 3 = nI nd → Go G mX7_copyFrom 456 (rV (fun h' => Ck h h' b (b + 63))) h1 456 49 [some (ga G (b + 1)), some (ga G 2), some (.int (nI i))] [] := by
    intro m
    induction m with
    | zero =>
      intro i h1 hi hc h9
      refine g_ild2 dX7_copyFrom_49 ?_
      refine g_ald0 dX7_copyFrom_50 ?_
      refine g_getI fb_7_3 mw_1_116 (by first | rfl | exact lb1 hb | exact lb21 hb | exact lbd hb (by omega) | exact lay_drive (by omega)) (by omega) dX7_copyFrom_51 ?_
      refine g_icmp_ge_t (tgt := 78) dX7_copyFrom_54 (by decide) (by rw [h9]; exact nI_le (by omega) (by omega)) ?_
      exact g_vret rfl dX7_copyFrom_78 ⟨rfl, hc⟩
    | succ m ih =>
      intro i h1 hi hc h9
      refine g_ild2 dX7_copyFrom_49 ?_
      refine g_ald0 dX7_copyFrom_50 ?_
      refine g_getI fb_7_3 mw_1_116 (by first | rfl | exact lb1 hb | exact lb21 hb | exact lbd hb (by omega) | exact lay_drive (by omega)) (by omega) dX7_copyFrom_51 ?_
      refine g_icmp_ge_f (tgt := 78) dX7_copyFrom_54 (by decide) (by rw [h9]; exact nI_ge (by omega) (by omega)) ?_
      refine g_ald0 dX7_copyFrom_57 ?_
      show Go _ _ _ _ _ _ 58 _ _
      refine g_getQ fb_7_2 mw_1_115 (by first | rfl | exact lb1 hb | exact lb21 hb | exact lbd hb (by omega) | exact lay_drive (by omega)) (by omega) (ck_q hc sb.2.2.2.2.1) dX7_copyFrom_58 ?_
      refine g_ild2 dX7_copyFrom_61 ?_
      refine g_qald4 (by first | rfl | exact lb1 hb | exact lb21 hb | exact lbd hb (by omega) | exact lay_drive (by omega)) (by omega) rfl (by omega) (ck_q hc (sb.2.2.2.2.2.2.1 i (by omega))) dX7_copyFrom_62 ?_
      refine g_ald1 dX7_copyFrom_63 ?_
      refine g_getQ fb_7_2 mw_1_115 (by first | rfl | exact lb1 hb | exact lb21 hb | exact lbd hb (by omega) | exact lay_drive (by omega)) (by omega) (ck_q hc (s1_drives s1)) dX7_copyFrom_64 ?_
      refine g_ild2 dX7_copyFrom_67 ?_
      show Go _ _ _ _ _ _ 68 _ _
      refine g_qald4 (by first | rfl | exact lb1 hb | exact lb21 hb | exact lbd hb (by omega) | exact lay_drive (by omega)) (by omega) rfl (by omega) (ck_q hc (s1_drive s1 (i := i) (by omega))) dX7_copyFrom_68 ?_
      refine g_callV1 (c_dcopy (h := h1) _ _ (lbd hb (by omega)) (lay_drive (by omega)) (by omega) (by omega)) mw_3_99 ok_X0_copyFrom ⟨by decide, by decide⟩ (by first | rfl | exact lb1 hb | exact lb21 hb | exact lbd hb (by omega) | exact lay_drive (by omega)) (by omega) rfl (by omega) (by omega) (Nat.le_of_ble_eq_true rfl) dX7_copyFrom_69 (rV_K ?_)
      intro h2 hc2
      refine g_iinc2 (by decide) dX7_copyFrom_72 (nI_1 i) ?_
      refine g_goto (tgt := 49) dX7_copyFrom_75 (by decide) ?_
      exact ih (i + 1) h2 (by omega) (hc.tr hc2 (by omega) (by omega)) ((hc2.1 _ _ (by omega)).1.trans h9)
  have loop : ∀ m i h1, m + i = ni → Ck h h1 b (b + 63) → h1.1 (b + 1) 1 = nI ni → Go G mX7_copyFrom 456 (rV (fun h' => Ck h h' b (b + 63))) h1 456 10 [some (ga G (b + 1)), some (ga G 2), some (.int (nI i))] [] := by
    intro m
    induction m with
    | zero =>
      intro i h1 hi hc h9
      refine g_ild2 dX7_copyFrom_10 ?_
      refine g_ald0 dX7_copyFrom_11 ?_
      refine g_getI fb_7_1 mw_1_113 (by first | rfl | exact lb1 hb | exact lb2 hb | exact lbi hb (by omega) | exact lay_item (by omega)) (by omega) dX7_copyFrom_12 ?_
      refine g_icmp_ge_t (tgt := 39) dX7_copyFrom_15 (by decide) (by rw [h9]; exact nI_le (by omega) (by omega)) ?_
      refine g_ald0 dX7_copyFrom_39 ?_
      show Go _ _ _ _ _ _ 40 _ _
      refine g_ald1 dX7_copyFrom_40 ?_
      refine g_getI fb_7_3 mw_1_116 (by first | rfl | exact lb1 hb | exact lb2 hb | exact lbi hb (by omega) | exact lay_item (by omega)) (by omega) dX7_copyFrom_41 ?_
      refine g_putI fb_7_3 mw_1_116 (by first | rfl | exact lb1 hb | exact lb2 hb | exact lbi hb (by omega) | exact lay_item (by omega)) (by omega) rfl rfl dX7_copyFrom_44 ?_
      refine g_iconst (v := nI 0) dX7_copyFrom_47 (by decide +kernel) ?_
      refine g_ist2 (by decide) dX7_copyFrom_48 ?_
      exact loop2 nd 0 _ (by omega) (Ck.wI (by omega) hc) ((if_pos ⟨rfl, rfl⟩).trans (((hc.1 2 3 (by omega)).1).trans hn2))
    | succ m ih =>
      intro i h1 hi hc h9
      refine g_ild2 dX7_copyFrom_10 ?_
      refine g_ald0 dX7_copyFrom_11 ?_
      refine g_getI fb_7_1 mw_1_113 (by first | rfl | exact lb1 hb | exact lb2 hb | exact lbi hb (by omega) | exact lay_item (by omega)) (by omega) dX7_copyFrom_12 ?_
      refine g_icmp_ge_f (tgt := 39) dX7_copyFrom_15 (by decide) (by rw [h9]; exact nI_ge (by omega) (by omega)) ?_
      refine g_ald0 dX7_copyFrom_18 ?_
      show Go _ _ _ _ _ _ 19 _ _
      refine g_getQ fb_7_0 mw_1_112 (by first | rfl | exact lb1 hb | exact lb2 hb | exact lbi hb (by omega) | exact lay_item (by omega)) (by omega) (ck_q hc sb.2.2.2.1) dX7_copyFrom_19 ?_
      refine g_ild2 dX7_copyFrom_22 ?_
      refine g_qald3 (by first | rfl | exact lb1 hb | exact lb2 hb | exact lbi hb (by omega) | exact lay_item (by omega)) (by omega) rfl (by omega) (ck_q hc (sb.2.2.2.2.2.1 i (by omega))) dX7_copyFrom_23 ?_
      refine g_ald1 dX7_copyFrom_24 ?_
      refine g_getQ fb_7_0 mw_1_112 (by first | rfl | exact lb1 hb | exact lb2 hb | exact lbi hb (by omega) | exact lay_item (by omega)) (by omega) (ck_q hc (s1_items s1)) dX7_copyFrom_25 ?_
      refine g_ild2 dX7_copyFrom_28 ?_
      show Go _ _ _ _ _ _ 29 _ _
      refine g_qald3 (by first | rfl | exact lb1 hb | exact lb2 hb | exact lbi hb (by omega) | exact lay_item (by omega)) (by omega) rfl (by omega) (ck_q hc (s1_item s1 (i := i) (by omega))) dX7_copyFrom_29 ?_
      refine g_callV1 (c_icopy (h := h1) _ _ (lbi hb (by omega)) (lay_item (by omega)) (by omega) (by omega) (by rw [(hc.1 (4 + i) 0 (by omega)).1]; exact hbo i (by omega))) mw_3_95 ok_X2_copyFrom ⟨by decide, by decide⟩ (by first | rfl | exact lb1 hb | exact lb2 hb | exact lbi hb (by omega) | exact lay_item (by omega)) (by omega) rfl (by omega) (by omega) (Nat.le_of_ble_eq_true rfl) dX7_copyFrom_30 (rV_K ?_)
      intro h2 hc2
      refine g_iinc2 (by decide) dX7_copyFrom_33 (nI_1 i) ?_
      refine g_goto (tgt := 10) dX7_copyFrom_36 (by decide) ?_
      exact ih (i + 1) h2 (by omega) (hc.tr hc2 (by omega) (by omega)) ((hc2.1 _ _ (by omega)).1.trans h9)
  refine g_ald0 dX7_copyFrom_0 ?_
  refine g_ald1 dX7_copyFrom_1 ?_
  refine g_getI fb_7_1 mw_1_113 (by first | rfl | exact lb1 hb) (by omega) dX7_copyFrom_2 ?_
  refine g_putI fb_7_1 mw_1_113 (by first | rfl | exact lb1 hb) (by omega) rfl rfl dX7_copyFrom_5 ?_
  refine g_iconst (v := nI 0) dX7_copyFrom_8 (by decide +kernel) ?_
  show Go _ _ _ _ _ _ 9 _ _
  refine g_ist2 (by decide) dX7_copyFrom_9 ?_
  exact loop ni 0 _ (by omega) (Ck.wI (by omega) (Ck.rf _ _ _)) ((if_pos ⟨rfl, rfl⟩).trans hn)
/-- the numbers of what there is, as a copy needs them -/
def Cn (h : Hp) : Prop := (∃ ni, ni ≤ 18 ∧ h.1 2 1 = nI ni ∧ ∀ i, i < ni → bo (h.1 (4 + i) 0)) ∧ (∃ nd, nd ≤ 4 ∧ h.1 2 3 = nI nd) ∧ ∃ nj, nj ≤ 30 ∧ h.1 27 1 = nI nj
theorem ck_Cn {h h1 : Hp} {lo hi : Nat} (c : Ck h h1 lo hi) (hl : 64 ≤ lo) (n : Cn h) : Cn h1 := by
  obtain ⟨⟨ni, a1, a2, a3⟩, ⟨nd, b1, b2⟩, nj, c1, c2⟩ := n
  exact ⟨⟨ni, a1, ((c.1 2 1 (by omega)).1).trans a2, fun i hi => by rw [(c.1 (4 + i) 0 (by omega)).1]; exact a3 i hi⟩, ⟨nd, b1, ((c.1 2 3 (by omega)).1).trans b2⟩, nj, c1, ((c.1 27 1 (by omega)).1).trans c2⟩
theorem c_stcopy (b : Nat) (hb : Bs b) (s1 : St h 1) (sb : St h b) (hC : Cn h) : Ct G mX6_copyFrom [ga G b, ga G 1] h 456 456 (rV (fun h' => Ck h h' b (b + 63))) := by
  have hlt := hb.lt
  obtain ⟨⟨ni, a1, a2, a3⟩, ⟨nd, b1, b2⟩, nj, c1, c2⟩ := id hC
  refine Ct.of rfl (by simp [Value.category, ga]) (Nat.le_of_ble_eq_true rfl) (Nat.le_refl _) ?_
  show Go _ _ _ _ _ _ _ [some (ga G b), some (ga G 1)] []
  refine g_ald0 dX6_copyFrom_0 ?_
  refine g_getQ fb_6_0 mw_2_0 (by first | rfl | assumption | exact lb0 hb) (by omega) sb.1 dX6_copyFrom_1 ?_
  refine g_ald1 dX6_copyFrom_4 ?_
  refine g_getQ fb_6_0 mw_2_0 (by first | rfl | assumption | exact lb0 hb) (by omega) (s1_store s1) dX6_copyFrom_5 ?_
  have hy1 := lb1 hb
  refine g_callV1 (c_scopy b ni nd hb s1 sb a2 a1 b2 b1 a3) mw_3_91 ok_X7_copyFrom ⟨by decide, by decide⟩ (by first | rfl | assumption | exact lb0 hb) (by omega) rfl (by omega) (by omega) (Nat.le_of_ble_eq_true rfl) dX6_copyFrom_8 (rV_K ?_)
  intro h1 k1
  show Go _ _ _ _ _ _ 11 _ _
  refine g_ald0 dX6_copyFrom_11 ?_
  refine g_getQ fb_6_1 mw_2_2 (by first | rfl | assumption | exact lb0 hb) (by omega) (ck_q k1 sb.2.1) dX6_copyFrom_12 ?_
  refine g_ald1 dX6_copyFrom_15 ?_
  refine g_getQ fb_6_1 mw_2_2 (by first | rfl | assumption | exact lb0 hb) (by omega) (ck_q k1 (s1_queue s1)) dX6_copyFrom_16 ?_
  have hy2 := lb26 hb
  refine g_callV1 (c_qcopy b nj hb (ck_St k1 s1) (ck_St k1 sb) (((k1.1 27 1 (by omega)).1).trans c2) c1) mw_3_103 ok_X5_copyFrom ⟨by decide, by decide⟩ (by first | rfl | assumption | exact lb0 hb) (by omega) rfl (by omega) (by omega) (Nat.le_of_ble_eq_true rfl) dX6_copyFrom_19 (rV_K ?_)
  intro h2 k2
  refine g_ald0 dX6_copyFrom_22 ?_
  show Go _ _ _ _ _ _ 23 _ _
  refine g_getQ fb_6_2 mw_2_4 (by first | rfl | assumption | exact lb0 hb) (by omega) (ck_q k2 (ck_q k1 sb.2.2.1)) dX6_copyFrom_23 ?_
  refine g_ald1 dX6_copyFrom_26 ?_
  refine g_getQ fb_6_2 mw_2_4 (by first | rfl | assumption | exact lb0 hb) (by omega) (ck_q k2 (ck_q k1 (s1_log s1))) dX6_copyFrom_27 ?_
  have hy3 := lb58 hb
  refine g_callV1 (c_lcopy b hb (ck_St k2 (ck_St k1 s1)) (ck_St k2 (ck_St k1 sb))) mw_3_111 ok_X4_copyFrom ⟨by decide, by decide⟩ (by first | rfl | assumption | exact lb0 hb) (by omega) rfl (by omega) (by omega) (Nat.le_of_ble_eq_true rfl) dX6_copyFrom_30 (rV_K ?_)
  intro h3 k3
  refine g_ald0 dX6_copyFrom_33 ?_
  refine g_ald1 dX6_copyFrom_34 ?_
  show Go _ _ _ _ _ _ 35 _ _
  refine g_getF_a fb_6_3 mw_2_5 (by first | rfl | assumption | exact lb0 hb) (by omega) dX6_copyFrom_35 (fun xx35 ee35 => ?_)
  refine g_putF fb_6_3 mw_2_5 (by first | rfl | assumption | exact lb0 hb) (by omega) dX6_copyFrom_38 ?_
  refine g_ald0 dX6_copyFrom_41 ?_
  refine g_ald1 dX6_copyFrom_42 ?_
  refine g_getF_a fb_6_4 mw_2_7 (by first | rfl | assumption | exact lb0 hb) (by omega) dX6_copyFrom_43 (fun xx43 ee43 => ?_)
  refine g_putF fb_6_4 mw_2_7 (by first | rfl | assumption | exact lb0 hb) (by omega) dX6_copyFrom_46 ?_
  show Go _ _ _ _ _ _ 49 _ _
  refine g_ald0 dX6_copyFrom_49 ?_
  refine g_ald1 dX6_copyFrom_50 ?_
  refine g_getI_a fb_6_5 mw_2_9 (by first | rfl | assumption | exact lb0 hb) (by omega) dX6_copyFrom_51 (fun xx51 ee51 => ?_)
  refine g_putI fb_6_5 mw_2_9 (by first | rfl | assumption | exact lb0 hb) (by omega) rfl rfl dX6_copyFrom_54 ?_
  refine g_ald0 dX6_copyFrom_57 ?_
  refine g_ald1 dX6_copyFrom_58 ?_
  show Go _ _ _ _ _ _ 59 _ _
  refine g_getI_a fb_6_6 mw_2_11 (by first | rfl | assumption | exact lb0 hb) (by omega) dX6_copyFrom_59 (fun xx59 ee59 => ?_)
  refine g_putI fb_6_6 mw_2_11 (by first | rfl | assumption | exact lb0 hb) (by omega) rfl rfl dX6_copyFrom_62 ?_
  refine g_ald0 dX6_copyFrom_65 ?_
  refine g_ald1 dX6_copyFrom_66 ?_
  refine g_getI_a fb_6_7 mw_2_13 (by first | rfl | assumption | exact lb0 hb) (by omega) dX6_copyFrom_67 (fun xx67 ee67 => ?_)
  refine g_putI fb_6_7 mw_2_13 (by first | rfl | assumption | exact lb0 hb) (by omega) rfl rfl dX6_copyFrom_70 ?_
  show Go _ _ _ _ _ _ 73 _ _
  refine g_ald0 dX6_copyFrom_73 ?_
  refine g_ald1 dX6_copyFrom_74 ?_
  refine g_getI_a fb_6_8 mw_2_15 (by first | rfl | assumption | exact lb0 hb) (by omega) dX6_copyFrom_75 (fun xx75 ee75 => ?_)
  refine g_putI fb_6_8 mw_2_15 (by first | rfl | assumption | exact lb0 hb) (by omega) rfl rfl dX6_copyFrom_78 ?_
  refine g_ald0 dX6_copyFrom_81 ?_
  refine g_ald1 dX6_copyFrom_82 ?_
  show Go _ _ _ _ _ _ 83 _ _
  refine g_getI_a fb_6_9 mw_2_17 (by first | rfl | assumption | exact lb0 hb) (by omega) dX6_copyFrom_83 (fun xx83 ee83 => ?_)
  refine g_putI fb_6_9 mw_2_17 (by first | rfl | assumption | exact lb0 hb) (by omega) rfl rfl dX6_copyFrom_86 ?_
  refine g_ald0 dX6_copyFrom_89 ?_
  refine g_ald1 dX6_copyFrom_90 ?_
  refine g_getI_a fb_6_10 mw_2_19 (by first | rfl | assumption | exact lb0 hb) (by omega) dX6_copyFrom_91 (fun xx91 ee91 => ?_)
  refine g_putI fb_6_10 mw_2_19 (by first | rfl | assumption | exact lb0 hb) (by omega) rfl rfl dX6_copyFrom_94 ?_
  show Go _ _ _ _ _ _ 97 _ _
  refine g_ald0 dX6_copyFrom_97 ?_
  refine g_ald1 dX6_copyFrom_98 ?_
  refine g_getI_a fb_6_11 mw_2_21 (by first | rfl | assumption | exact lb0 hb) (by omega) dX6_copyFrom_99 (fun xx99 ee99 => ?_)
  refine g_putI fb_6_11 mw_2_21 (by first | rfl | assumption | exact lb0 hb) (by omega) rfl rfl dX6_copyFrom_102 ?_
  exact g_vret rfl dX6_copyFrom_105 ⟨rfl, by repeat (first | exact (k1.tr k2 (by omega) (by omega)).tr k3 (by omega) (by omega) | refine Ck.wI (by omega) ?_ | refine Ck.wF (by omega) ?_)⟩
/-- the history's references -/
def Hs (h : Hp) : Prop := ∀ i, i < 4 → ∃ j, j < 4 ∧ h.2.2.2 65 i = some (66 + 63 * j)
theorem c_drop (hq : h.2.2.2 64 0 = some 65) (hh : Hs h) : Ct G mX1_dropOldest [ga G 64] h 456 456 (rV (fun h' => (∀ a j, ¬ (a = 64 ∧ j = 1) → h'.1 a j = h.1 a j) ∧ h'.1 64 1 = nI 3 ∧ h'.2.1 = h.2.1 ∧ h'.2.2.1 = h.2.2.1 ∧ (∀ a j, a ≠ 65 → h'.2.2.2 a j = h.2.2.2 a j) ∧ Hs h')) := by
  refine Ct.of rfl (by simp [Value.category, ga]) (Nat.le_of_ble_eq_true rfl) (Nat.le_refl _) ?_
  show Go _ _ _ _ _ _ _ [some (ga G 64), none, none] []
  have key : ∀ h1 : Hp, h1.1 = h.1 → h1.2.1 = h.2.1 → h1.2.2.1 = h.2.2.1 → (∀ a j, a ≠ 65 → h1.2.2.2 a j = h.2.2.2 a j) → Hs h1 → ∀ i q, i < 4 → q < 4 → (wQ h1 65 i (some (66 + 63 * q))).1 = h.1 ∧ (wQ h1 65 i (some (66 + 63 * q))).2.1 = h.2.1 ∧ (wQ h1 65 i (some (66 + 63 * q))).2.2.1 = h.2.2.1 ∧ (∀ a j, a ≠ 65 → (wQ h1 65 i (some (66 + 63 * q))).2.2.2 a j = h.2.2.2 a j) ∧ Hs (wQ h1 65 i (some (66 + 63 * q))) := by
    intro h1 e1 e2 e3 e4 e5 i q hi hq
    refine ⟨e1, e2, e3, fun a j ha => (if_neg (fun z => ha z.1)).trans (e4 a j ha), fun i2 hi2 => ?_⟩
    by_cases hz : i2 = i
    · exact ⟨q, hq, if_pos ⟨rfl, hz⟩⟩
    · obtain ⟨j, hj, hj2⟩ := e5 i2 hi2
      exact ⟨j, hj, (if_neg (fun z => hz z.2)).trans hj2⟩
  have loop : ∀ m i h1 q, m + i = 4 → 1 ≤ i → q < 4 → h1.1 = h.1 → h1.2.1 = h.2.1 → h1.2.2.1 = h.2.2.1 → (∀ a j, a ≠ 65 → h1.2.2.2 a j = h.2.2.2 a j) → Hs h1 → Go G mX1_dropOldest 456 (rV (fun h' => (∀ a j, ¬ (a = 64 ∧ j = 1) → h'.1 a j = h.1 a j) ∧ h'.1 64 1 = nI 3 ∧ h'.2.1 = h.2.1 ∧ h'.2.2.1 = h.2.2.1 ∧ (∀ a j, a ≠ 65 → h'.2.2.2 a j = h.2.2.2 a j) ∧ Hs h')) h1 456 9 [some (ga G 64), some (ga G (66 + 63 * q)), some (.int (nI i))] [] := by
    intro m
    induction m with
    | zero =>
      intro i h1 q hi hi1 hq4 e1 e2 e3 e4 e5
      obtain rfl : i = 4 := by omega
      obtain ⟨k1, k2, k3, k4, k5⟩ := key h1 e1 e2 e3 e4 e5 3 q (by omega) hq4
      have hb : Lay (66 + 63 * q) = .inl 6 := lb0 ⟨q, hq4, rfl⟩
      refine g_ild2 dX1_dropOldest_9 ?_
      refine g_ald0 dX1_dropOldest_10 ?_
      refine g_getQ fb_1_0 mw_2_57 (by first | rfl | assumption | (exact lay_item (by omega)) | (exact lay_drive (by omega)) | (exact lay_job (by omega))) (by omega) ((e4 64 0 (by omega)).trans hq) dX1_dropOldest_11 ?_
      refine g_alen (by first | rfl | assumption | (exact lay_item (by omega)) | (exact lay_drive (by omega)) | (exact lay_job (by omega))) (by omega) (by decide) rfl dX1_dropOldest_14 ?_
      refine g_icmp_ge_t (tgt := 38) dX1_dropOldest_15 (by decide) (by decide) ?_
      show Go _ _ _ _ _ _ 38 _ _
      refine g_ald0 dX1_dropOldest_38 ?_
      refine g_getQ fb_1_0 mw_2_57 (by first | rfl | assumption | (exact lay_item (by omega)) | (exact lay_drive (by omega)) | (exact lay_job (by omega))) (by omega) ((e4 64 0 (by omega)).trans hq) dX1_dropOldest_39 ?_
      refine g_ald0 dX1_dropOldest_42 ?_
      refine g_getQ fb_1_0 mw_2_57 (by first | rfl | assumption | (exact lay_item (by omega)) | (exact lay_drive (by omega)) | (exact lay_job (by omega))) (by omega) ((e4 64 0 (by omega)).trans hq) dX1_dropOldest_43 ?_
      refine g_alen (by first | rfl | assumption | (exact lay_item (by omega)) | (exact lay_drive (by omega)) | (exact lay_job (by omega))) (by omega) (by decide) rfl dX1_dropOldest_46 ?_
      refine g_iconst (v := nI 1) dX1_dropOldest_47 (by decide +kernel) ?_
      show Go _ _ _ _ _ _ 48 _ _
      refine g_isub_v dX1_dropOldest_48 (show nI 4 - nI 1 = nI 3 by decide) ?_
      refine g_ald1 dX1_dropOldest_49 ?_
      refine g_qast6 (w := 4) rfl (by omega) rfl (by omega) hb (by omega) dX1_dropOldest_50 ?_
      refine g_ald0 dX1_dropOldest_51 ?_
      refine g_ald0 dX1_dropOldest_52 ?_
      refine g_getQ fb_1_0 mw_2_57 (by first | rfl | assumption | (exact lay_item (by omega)) | (exact lay_drive (by omega)) | (exact lay_job (by omega))) (by omega) ((k4 64 0 (by omega)).trans hq) dX1_dropOldest_53 ?_
      show Go _ _ _ _ _ _ 56 _ _
      refine g_alen (by first | rfl | assumption | (exact lay_item (by omega)) | (exact lay_drive (by omega)) | (exact lay_job (by omega))) (by omega) (by decide) rfl dX1_dropOldest_56 ?_
      refine g_iconst (v := nI 1) dX1_dropOldest_57 (by decide +kernel) ?_
      refine g_isub_v dX1_dropOldest_58 (show nI 4 - nI 1 = nI 3 by decide) ?_
      refine g_putI fb_1_1 mw_2_58 (by first | rfl | assumption | (exact lay_item (by omega)) | (exact lay_drive (by omega)) | (exact lay_job (by omega))) (by omega) rfl rfl dX1_dropOldest_59 ?_
      exact g_vret rfl dX1_dropOldest_62 ⟨rfl, fun a j ha => (if_neg ha).trans (congrFun (congrFun k1 a) j), wI_at, k2, k3, k4, k5⟩
    | succ m ih =>
      intro i h1 q hi hi1 hq4 e1 e2 e3 e4 e5
      obtain ⟨q2, hq2, hq3⟩ := e5 i (by omega)
      have hb : Lay (66 + 63 * q2) = .inl 6 := lb0 ⟨q2, hq2, rfl⟩
      obtain ⟨k1, k2, k3, k4, k5⟩ := key h1 e1 e2 e3 e4 e5 (i - 1) q2 (by omega) hq2
      refine g_ild2 dX1_dropOldest_9 ?_
      refine g_ald0 dX1_dropOldest_10 ?_
      refine g_getQ fb_1_0 mw_2_57 (by first | rfl | assumption | (exact lay_item (by omega)) | (exact lay_drive (by omega)) | (exact lay_job (by omega))) (by omega) ((e4 64 0 (by omega)).trans hq) dX1_dropOldest_11 ?_
      refine g_alen (by first | rfl | assumption | (exact lay_item (by omega)) | (exact lay_drive (by omega)) | (exact lay_job (by omega))) (by omega) (by decide) rfl dX1_dropOldest_14 ?_
      refine g_icmp_ge_f (tgt := 38) dX1_dropOldest_15 (by decide) (nI_ge (by omega) (by omega)) ?_
      show Go _ _ _ _ _ _ 18 _ _
      refine g_ald0 dX1_dropOldest_18 ?_
      refine g_getQ fb_1_0 mw_2_57 (by first | rfl | assumption | (exact lay_item (by omega)) | (exact lay_drive (by omega)) | (exact lay_job (by omega))) (by omega) ((e4 64 0 (by omega)).trans hq) dX1_dropOldest_19 ?_
      refine g_ild2 dX1_dropOldest_22 ?_
      refine g_iconst (v := nI 1) dX1_dropOldest_23 (by decide +kernel) ?_
      refine g_isub_v dX1_dropOldest_24 (pk_sub (by omega)) ?_
      refine g_ald0 dX1_dropOldest_25 ?_
      show Go _ _ _ _ _ _ 26 _ _
      refine g_getQ fb_1_0 mw_2_57 (by first | rfl | assumption | (exact lay_item (by omega)) | (exact lay_drive (by omega)) | (exact lay_job (by omega))) (by omega) ((e4 64 0 (by omega)).trans hq) dX1_dropOldest_26 ?_
      refine g_ild2 dX1_dropOldest_29 ?_
      refine g_qald6 (by first | rfl | assumption | (exact lay_item (by omega)) | (exact lay_drive (by omega)) | (exact lay_job (by omega))) (by omega) rfl (by omega) hq3 dX1_dropOldest_30 ?_
      refine g_qast6 (w := 4) rfl (by omega) rfl (by omega) hb (by omega) dX1_dropOldest_31 ?_
      refine g_iinc2 (by decide) dX1_dropOldest_32 (nI_1 i) ?_
      refine g_goto (tgt := 9) dX1_dropOldest_35 (by decide) ?_
      exact ih (i + 1) _ q (by omega) (by omega) hq4 k1 k2 k3 k4 k5
  obtain ⟨q0, hq0, hq1⟩ := hh 0 (by omega)
  refine g_ald0 dX1_dropOldest_0 ?_
  refine g_getQ fb_1_0 mw_2_57 (by first | rfl | assumption | (exact lay_item (by omega)) | (exact lay_drive (by omega)) | (exact lay_job (by omega))) (by omega) hq dX1_dropOldest_1 ?_
  refine g_iconst (v := nI 0) dX1_dropOldest_4 (by decide +kernel) ?_
  refine g_qald6 (by first | rfl | assumption | (exact lay_item (by omega)) | (exact lay_drive (by omega)) | (exact lay_job (by omega))) (by omega) rfl (by omega) hq1 dX1_dropOldest_5 ?_
  refine g_ast1 (by decide) dX1_dropOldest_6 ?_
  show Go _ _ _ _ _ _ 7 _ _
  refine g_iconst (v := nI 1) dX1_dropOldest_7 (by decide +kernel) ?_
  refine g_ist2 (by decide) dX1_dropOldest_8 ?_
  exact loop 3 1 h q0 (by omega) (by omega) hq0 rfl rfl rfl (fun _ _ _ => rfl) hh
end P13
end
section
/-! ===== THE HISTORY KEEPS A STATE ===== -/
/-- what stays behind: all but the history's own cells -/
def K0 (h h' : Hp) : Prop := (∀ a j, (a < 64 ∨ 444 ≤ a) → h'.1 a j = h.1 a j ∧ h'.2.1 a j = h.2.1 a j) ∧ h'.2.2.1 = h.2.2.1 ∧ ∀ a j, a ≠ 65 → h'.2.2.2 a j = h.2.2.2 a j
/-- the history's count is in its bounds -/
def Hk (h : Hp) : Prop := ∃ k, k ≤ 4 ∧ h.1 64 1 = nI k
def Kp (h h' : Hp) : Prop := K0 h h' ∧ Sh h' ∧ Hk h'
theorem K0.rf (h : Hp) : K0 h h := ⟨fun _ _ _ => ⟨rfl, rfl⟩, rfl, fun _ _ _ => rfl⟩
theorem K0.tr {h h1 h2 : Hp} (a : K0 h h1) (b : K0 h1 h2) : K0 h h2 := ⟨fun x j hx => ⟨(b.1 x j hx).1.trans (a.1 x j hx).1, (b.1 x j hx).2.trans (a.1 x j hx).2⟩, b.2.1.trans a.2.1, fun x j hx => (b.2.2 x j hx).trans (a.2.2 x j hx)⟩
theorem St_of {h h' : Hp} {b : Nat} (hb : b = 1 ∨ 66 ≤ b) (e : ∀ a j, a ≠ 65 → h'.2.2.2 a j = h.2.2.2 a j) (s : St h b) : St h' b := by
  unfold St at s ⊢
  rw [e b 0 (by omega), e b 1 (by omega), e b 2 (by omega), e (b + 1) 0 (by omega), e (b + 1) 2 (by omega), e (b + 26) 0 (by omega), e (b + 58) 0 (by omega), e (b + 58) 1 (by omega), e (b + 58) 2 (by omega), e (b + 58) 3 (by omega)]
  obtain ⟨a1, a2, a3, a4, a5, a6, a7, a8, a9, a10⟩ := s
  exact ⟨a1, a2, a3, a4, a5, fun i hi => (e _ _ (by omega)).trans (a6 i hi), fun i hi => (e _ _ (by omega)).trans (a7 i hi), a8, fun i hi => (e _ _ (by omega)).trans (a9 i hi), a10⟩
theorem Sh_of {h h' : Hp} (e : ∀ a j, a ≠ 65 → h'.2.2.2 a j = h.2.2.2 a j) (hs : Hs h') (s : Sh h) : Sh h' :=
  ⟨St_of (Or.inl rfl) e s.1, (e _ _ (by omega)).trans s.2.1, (e _ _ (by omega)).trans s.2.2.1, (e _ _ (by omega)).trans s.2.2.2.1, hs, fun j hj => St_of (Or.inr (by omega)) e (s.2.2.2.2.2 j hj)⟩
theorem K0.Cn {h h' : Hp} (k : K0 h h') (n : Cn h) : Cn h' := by
  obtain ⟨⟨ni, a1, a2, a3⟩, ⟨nd, b1, b2⟩, nj, c1, c2⟩ := n
  exact ⟨⟨ni, a1, ((k.1 2 1 (by omega)).1).trans a2, fun i hi => by rw [(k.1 (4 + i) 0 (by omega)).1]; exact a3 i hi⟩, ⟨nd, b1, ((k.1 2 3 (by omega)).1).trans b2⟩, nj, c1, ((k.1 27 1 (by omega)).1).trans c2⟩
section P14
variable {G : Gl} {h : Hp}
theorem c_record (hS : Sh h) (hC : Cn h) (hH : Hk h) : Ct G mX1_record [ga G 64, ga G 1] h 456 456 (rV (Kp h)) := by
  obtain ⟨k, hk, hh⟩ := hH
  refine Ct.of rfl (by simp [Value.category, ga]) (Nat.le_of_ble_eq_true rfl) (Nat.le_refl _) ?_
  show Go _ _ _ _ _ _ _ [some (ga G 64), some (ga G 1)] []
  have tail : ∀ h1 k1, K0 h h1 → Sh h1 → h1.1 64 1 = nI k1 → k1 < 4 → Go G mX1_record 456 (rV (Kp h)) h1 456 16 [some (ga G 64), some (ga G 1)] [] := by
    intro h1 k1 z s1 e1 hk1
    obtain ⟨j, hj, hj2⟩ := s1.2.2.2.2.1 k1 hk1
    have hb : Bs (66 + 63 * j) := ⟨j, hj, rfl⟩
    have hlt := hb.lt
    have hb0 := lb0 hb
    refine g_ald0 dX1_record_16 ?_
    refine g_getQ fb_1_0 mw_2_57 (by first | rfl | assumption | (exact lay_item (by omega)) | (exact lay_drive (by omega)) | (exact lay_job (by omega))) (by omega) (sh_states s1) dX1_record_17 ?_
    refine g_ald0 dX1_record_20 ?_
    refine g_getI_a fb_1_1 mw_2_58 (by first | rfl | assumption | (exact lay_item (by omega)) | (exact lay_drive (by omega)) | (exact lay_job (by omega))) (by omega) dX1_record_21 (fun xx21 ee21 => ?_)
    obtain rfl : xx21 = (nI k1) := ee21.symm.trans e1
    refine g_qald6 (by first | rfl | assumption | (exact lay_item (by omega)) | (exact lay_drive (by omega)) | (exact lay_job (by omega))) (by omega) rfl (by omega) hj2 dX1_record_24 ?_
    show Go _ _ _ _ _ _ 25 _ _
    refine g_ald1 dX1_record_25 ?_
    refine g_callV1 (c_stcopy _ hb s1.1 (s1.2.2.2.2.2 j hj) (z.Cn hC)) mw_3_87 ok_X6_copyFrom ⟨by decide, by decide⟩ (by first | rfl | assumption | (exact lay_item (by omega)) | (exact lay_drive (by omega)) | (exact lay_job (by omega))) (by omega) rfl (by omega) (by omega) (Nat.le_of_ble_eq_true rfl) dX1_record_26 (rV_K ?_)
    intro h2 k2
    refine g_ald0 dX1_record_29 ?_
    refine g_dup dX1_record_30 rfl ?_
    refine g_getI_a fb_1_1 mw_2_58 (by first | rfl | assumption | (exact lay_item (by omega)) | (exact lay_drive (by omega)) | (exact lay_job (by omega))) (by omega) dX1_record_31 (fun xx31 ee31 => ?_)
    obtain rfl : xx31 = (nI k1) := ee31.symm.trans ((k2.1 64 1 (by omega)).1.trans e1)
    refine g_iconst (v := nI 1) dX1_record_34 (by decide +kernel) ?_
    show Go _ _ _ _ _ _ 35 _ _
    refine g_iadd_v dX1_record_35 (nI_1 k1) ?_
    refine g_putI fb_1_1 mw_2_58 (by first | rfl | assumption | (exact lay_item (by omega)) | (exact lay_drive (by omega)) | (exact lay_job (by omega))) (by omega) rfl rfl dX1_record_36 ?_
    refine g_vret rfl dX1_record_39 ⟨rfl, z.tr ⟨fun a i ha => ⟨(wI_ne (by omega)).trans (k2.1 a i (by omega)).1, (k2.1 a i (by omega)).2⟩, congrArg (fun x => x.1) k2.2, fun a i _ => congrFun (congrFun (congrArg (fun x => x.2) k2.2) a) i⟩, Sh_of (h := h1) (fun a i _ => congrFun (congrFun (congrArg (fun x => x.2) k2.2) a) i) (fun i hi => by obtain ⟨q, q1, q2⟩ := s1.2.2.2.2.1 i hi; exact ⟨q, q1, ck_q (h := h1) (h1 := h2) k2 q2⟩) s1, k1 + 1, by omega, wI_at⟩
  rcases Nat.lt_or_ge k 4 with hk4 | hk4
  · skip
    refine g_ald0 dX1_record_0 ?_
    refine g_getI_a fb_1_1 mw_2_58 (by first | rfl | assumption | (exact lay_item (by omega)) | (exact lay_drive (by omega)) | (exact lay_job (by omega))) (by omega) dX1_record_1 (fun xx1 ee1 => ?_)
    obtain rfl : xx1 = (nI k) := ee1.symm.trans hh
    refine g_ald0 dX1_record_4 ?_
    refine g_getQ fb_1_0 mw_2_57 (by first | rfl | assumption | (exact lay_item (by omega)) | (exact lay_drive (by omega)) | (exact lay_job (by omega))) (by omega) (sh_states hS) dX1_record_5 ?_
    refine g_alen (by first | rfl | assumption | (exact lay_item (by omega)) | (exact lay_drive (by omega)) | (exact lay_job (by omega))) (by omega) (by decide) rfl dX1_record_8 ?_
    show Go _ _ _ _ _ _ 9 _ _
    refine g_icmp_lt_t (tgt := 16) dX1_record_9 (by decide) (nI_lt (by omega) (by omega)) ?_
    exact tail h k (K0.rf h) hS hh hk4
  · obtain rfl : k = 4 := by omega
    refine g_ald0 dX1_record_0 ?_
    refine g_getI_a fb_1_1 mw_2_58 (by first | rfl | assumption | (exact lay_item (by omega)) | (exact lay_drive (by omega)) | (exact lay_job (by omega))) (by omega) dX1_record_1 (fun xx1 ee1 => ?_)
    obtain rfl : xx1 = (nI 4) := ee1.symm.trans hh
    refine g_ald0 dX1_record_4 ?_
    refine g_getQ fb_1_0 mw_2_57 (by first | rfl | assumption | (exact lay_item (by omega)) | (exact lay_drive (by omega)) | (exact lay_job (by omega))) (by omega) (sh_states hS) dX1_record_5 ?_
    refine g_alen (by first | rfl | assumption | (exact lay_item (by omega)) | (exact lay_drive (by omega)) | (exact lay_job (by omega))) (by omega) (by decide) rfl dX1_record_8 ?_
    show Go _ _ _ _ _ _ 9 _ _
    refine g_icmp_lt_f (tgt := 16) dX1_record_9 (by decide) (by decide) ?_
    refine g_ald0 dX1_record_12 ?_
    refine g_callV0 (c_drop (sh_states hS) hS.2.2.2.2.1) mw_3_83 ok_X1_dropOldest ⟨by decide, by decide⟩ (by first | rfl | assumption | (exact lay_item (by omega)) | (exact lay_drive (by omega)) | (exact lay_job (by omega))) (by omega) rfl (by omega) (by omega) (Nat.le_of_ble_eq_true rfl) dX1_record_13 (rV_K ?_)
    rintro h1 ⟨a1, a2, a3, a4, a5, a6⟩
    exact tail h1 3 ⟨fun a j ha => ⟨a1 a j (by omega), congrFun (congrFun a3 a) j⟩, a4, a5⟩ (Sh_of a5 a6 hS) a2 (by omega)
end P14
end
section
/-! ===== FLOATS FROM +0 TO INFINITY: their bits are in their order ===== -/
def Gd (x : UInt32) : Prop := x.toNat ≤ 2139095040
theorem fl_nn {x : UInt32} (hx : Gd x) : FP.Core.val32 x ≠ .nan := (FP.Core.ne_nan32 x).mpr (by
  unfold Gd at hx
  omega)
theorem fl_sg {x : UInt32} (hx : Gd x) : FP.Core.sgn (FP.Core.val32 x) = false := (FP.Core.sgn_bits32 (fl_nn hx)).trans (decide_eq_false (by
  unfold Gd at hx
  omega))
theorem fl_val {x : UInt32} (hx : Gd x) : FP.Core.val32 x = .inf false ∨ ∃ c q, FP.Core.val32 x = .fin false c q := by
  have hn := fl_nn hx
  have hs := fl_sg hx
  generalize FP.Core.val32 x = d at hn hs
  cases d with
  | nan => exact absurd rfl hn
  | inf s => exact Or.inl (congrArg FP.Core.Datum.inf hs)
  | fin s c q => exact Or.inr ⟨c, q, congrArg (fun b => FP.Core.Datum.fin b c q) hs⟩
theorem gd_of {a : UInt32} (h : FP.Core.val32 a ≠ .nan) (hs : FP.Core.sgn (FP.Core.val32 a) = false) : Gd a := by
  have h1 := (FP.Core.ne_nan32 a).mp h
  have h3 : ¬ 2 ^ 31 ≤ a.toNat := of_decide_eq_false ((FP.Core.sgn_bits32 h).symm.trans hs)
  unfold Gd
  omega
theorem cmp_nat (a b : Nat) : compare (a : Int) (b : Int) = compare a b := by
  simp only [compare, compareOfLessAndEq]
  by_cases h : a < b
  · rw [if_pos h, if_pos (by omega)]
  · rw [if_neg h, if_neg (by omega)]
    by_cases h2 : a = b
    · rw [if_pos h2, if_pos (by omega)]
    · rw [if_neg h2, if_neg (by omega)]
theorem fl_key {z : UInt32} (hz : Gd z) : FP.Core.key FP.Core.b32 z.toNat = (z.toNat : Int) := by
  have e1 : decide (FP.Core.half FP.Core.b32 ≤ z.toNat) = false := decide_eq_false (by
    rw [FP.Core.half_b32]
    unfold Gd at hz
    omega)
  have e2 : FP.Core.mag FP.Core.b32 z.toNat = z.toNat := by
    rw [FP.Core.mag_toNat32]
    exact Nat.mod_eq_of_lt (by unfold Gd at hz; omega)
  unfold FP.Core.key
  rw [e1, e2]
  rfl
theorem fl_cmp {x y : UInt32} (hx : Gd x) (hy : Gd y) : FP.fcmp x y = some (compare x.toNat y.toNat) := by
  have h := FP.Core.cmp_key FP.Core.good_b32 (FP.Core.lt_full32 x) (FP.Core.lt_full32 y) (fl_nn hx) (fl_nn hy)
  rw [fl_key hx, fl_key hy, cmp_nat] at h
  exact h
theorem ord_at (s t : Bool) (c d : Nat) (q r e : Int) (h1 : e ≤ q) (h2 : e ≤ r) : FP.Core.order (.fin s c q) (.fin t d r) = some (compare (FP.Core.signed s (FP.Core.inUnits c q e)) (FP.Core.signed t (FP.Core.inUnits d r e))) := by
  simp only [FP.Core.order]
  congr 1
  rw [FP.Core.inUnits_move c (q := q) (e := e) (r := min q r) (by omega) (by omega), FP.Core.inUnits_move d (q := r) (e := e) (r := min q r) (by omega) (by omega), FP.Core.signed_mul, FP.Core.signed_mul]
  refine (FP.Core.compare_mul_pos _ _ _ ?_).symm
  have := Nat.two_pow_pos (min q r - e).toNat
  omega
theorem un_eq {c c' : Nat} {q q' e : Int} (h : c * 2 ^ (q - q').toNat = c' * 1 * 2 ^ (q' - q).toNat) (h1 : e ≤ q) (h2 : e ≤ q') : FP.Core.inUnits c' q' e = FP.Core.inUnits c q e := by
  unfold FP.Core.inUnits
  rw [Nat.mul_one] at h
  rcases Int.le_total q q' with z | z
  · rw [show (q - q').toNat = 0 by omega, Nat.pow_zero, Nat.mul_one] at h
    rw [h, Nat.mul_assoc, ← Nat.pow_add, show (q' - q).toNat + (q - e).toNat = (q' - e).toNat by omega]
  · rw [show (q' - q).toNat = 0 by omega, Nat.pow_zero, Nat.mul_one] at h
    rw [← h, Nat.mul_assoc, ← Nat.pow_add, show (q - q').toNat + (q' - e).toNat = (q - e).toNat by omega]
theorem rd_wide {s : Bool} {c : Nat} {q : Int} (hd : FP.Core.fits FP.Core.b32 (.fin s c q)) : ∃ c' q', FP.Core.round FP.Core.b64 (.fin s c q) = .fin s c' q' ∧ c * 2 ^ (q - q').toNat = c' * 1 * 2 ^ (q' - q).toNat := by
  obtain ⟨c', q', hf, -, hv⟩ := FP.Core.within_fit FP.Core.good_b64 FP.Core.within_32_64 hd
  exact ⟨c', q', FP.Core.roundRatio_exact FP.Core.good_b64 (by decide) hf hv, hv⟩
theorem ord_wide {d e : FP.Core.Datum} (hd : FP.Core.fits FP.Core.b32 d) (he : FP.Core.fits FP.Core.b32 e) : FP.Core.order (FP.Core.round FP.Core.b64 d) (FP.Core.round FP.Core.b64 e) = FP.Core.order d e := by
  cases d with
  | nan => rfl
  | inf s =>
    cases e with
    | nan => rfl
    | inf t => rfl
    | fin t c r =>
      obtain ⟨c', r', h, -⟩ := rd_wide he
      rw [h]
      rfl
  | fin s c q =>
    obtain ⟨c', q', h, hv⟩ := rd_wide hd
    rw [h]
    cases e with
    | nan => rfl
    | inf t => rfl
    | fin t d r =>
      obtain ⟨d', r', h2, hv2⟩ := rd_wide he
      rw [h2, ord_at s t c' d' q' r' (min (min q r) (min q' r')) (by omega) (by omega), ord_at s t c d q r (min (min q r) (min q' r')) (by omega) (by omega), un_eq hv (by omega) (by omega), un_eq hv2 (by omega) (by omega)]
theorem fl_c {x : UInt32} (hx : Gd x) : FP.f2d x = FP.Core.f2d x := FP.f2d_core ((FP.Core.notNaN_iff32 x).mpr (fl_nn hx))
theorem fl_dcmp {x y : UInt32} (hx : Gd x) (hy : Gd y) : FP.dcmp (FP.f2d x) (FP.f2d y) = some (compare x.toNat y.toNat) := by
  rw [fl_c hx, fl_c hy]
  show FP.Core.order (FP.Core.val64 (FP.Core.f2d x)) (FP.Core.val64 (FP.Core.f2d y)) = _
  rw [FP.Core.val64_f2d, FP.Core.val64_f2d, ord_wide (FP.Core.val32_fits x) (FP.Core.val32_fits y)]
  exact fl_cmp hx hy
theorem fl_dn {x : UInt32} (hx : Gd x) : FP.Core.dIsNaN (FP.Core.f2d x) = false := FP.Core.f2d_out ((FP.Core.notNaN_iff32 x).mpr (fl_nn hx))
theorem fl_rt {x : UInt32} (hx : Gd x) : FP.d2f (FP.f2d x) = x := by
  rw [fl_c hx]
  exact (FP.d2f_core (fl_dn hx)).trans (FP.Core.d2f_f2d (fl_nn hx))
theorem fl_n32 {x : UInt32} (hx : Gd x) : vf_n32 x := by
  unfold vf_n32
  rw [UInt32.le_iff_toNat_le, UInt32.toNat_and]
  exact Nat.le_trans Nat.and_le_left hx
theorem fl_n64 {x : UInt32} (hx : Gd x) : vf_n64 (FP.f2d x) := by
  rw [fl_c hx]
  have h := (FP.Core.ne_nan (FP.Core.f2d x)).mp ((FP.Core.notNaN_iff _).mp (fl_dn hx))
  unfold vf_n64
  rw [UInt64.le_iff_toNat_le, UInt64.toNat_and]
  show (FP.Core.f2d x).toNat &&& (2 ^ 63 - 1) ≤ 9218868437227405312
  rw [Nat.and_two_pow_sub_one_eq_mod]
  exact h
theorem fl_add {x y : UInt32} (hx : Gd x) (hy : Gd y) : Gd (FP.fadd x y) := by
  have key : FP.Core.round FP.Core.b32 (FP.Core.exactSum (FP.Core.val32 x) (FP.Core.val32 y)) ≠ .nan ∧ FP.Core.sgn (FP.Core.round FP.Core.b32 (FP.Core.exactSum (FP.Core.val32 x) (FP.Core.val32 y))) = false := by
    rcases fl_val hx with e | ⟨c, q, e⟩ <;> rcases fl_val hy with e2 | ⟨d, r, e2⟩ <;> rw [e, e2]
    · exact ⟨fun z => absurd (show FP.Core.Datum.inf false = .nan from z) (by decide), rfl⟩
    · exact ⟨fun z => absurd (show FP.Core.Datum.inf false = .nan from z) (by decide), rfl⟩
    · exact ⟨fun z => absurd (show FP.Core.Datum.inf false = .nan from z) (by decide), rfl⟩
    · refine ⟨FP.Core.roundRatio_ne_nan _ _ _ _ _, (FP.Core.sgn_roundRatio _ _ _ _ _).trans ?_⟩
      unfold FP.Core.sumSign
      split
      · rfl
      · refine decide_eq_false ?_
        show ¬ ((FP.Core.inUnits c q (min q r) : Nat) : Int) + ((FP.Core.inUnits d r (min q r) : Nat) : Int) < 0
        omega
  rw [← FP.Core.val32_fadd] at key
  exact gd_of key.1 key.2
theorem fl_add0 {x : UInt32} (hx : Gd x) : FP.fadd x 0 = x := FP.Core.fadd_zero (fl_nn hx) (fun e => by
  rw [e] at hx
  exact absurd hx (by unfold Gd; decide))
theorem fl_mulk {x k : UInt32} {c0 : Nat} {q0 : Int} (hk : FP.Core.val32 k = .fin false c0 q0) (h0 : c0 ≠ 0) (hx : Gd x) : Gd (FP.fmul x k) := by
  have key : FP.Core.round FP.Core.b32 (FP.Core.exactProduct (FP.Core.val32 x) (FP.Core.val32 k)) ≠ .nan ∧ FP.Core.sgn (FP.Core.round FP.Core.b32 (FP.Core.exactProduct (FP.Core.val32 x) (FP.Core.val32 k))) = false := by
    rcases fl_val hx with e | ⟨c, q, e⟩ <;> rw [e, hk]
    · have ee : FP.Core.exactProduct (.inf false) (.fin false c0 q0) = .inf false := if_neg h0
      rw [ee]
      exact ⟨fun z => absurd (show FP.Core.Datum.inf false = .nan from z) (by decide), rfl⟩
    · exact ⟨FP.Core.roundRatio_ne_nan _ _ _ _ _, FP.Core.sgn_roundRatio _ _ _ _ _⟩
  rw [← FP.Core.val32_fmul] at key
  exact gd_of key.1 key.2
theorem fl_mul75 {x : UInt32} (hx : Gd x) : Gd (FP.fmul x 1061158912) := fl_mulk (c0 := 12582912) (q0 := -24) (by decide +kernel) (by decide) hx
theorem fl_mul8 {x : UInt32} (hx : Gd x) : Gd (FP.fmul x 1040187392) := fl_mulk (c0 := 8388608) (q0 := -26) (by decide +kernel) (by decide) hx
theorem nan_of {r : UInt32} (h : isNaN32 r = true) : FP.Core.val32 r = .nan := by
  refine Classical.byContradiction (fun hn => ?_)
  have h2 := (FP.Core.ne_nan32 r).mp hn
  unfold isNaN32 at h
  have h4 := UInt32.lt_iff_toNat_lt.mp (of_decide_eq_true h)
  rw [UInt32.toNat_and] at h4
  have h5 : r.toNat &&& (2 ^ 31 - 1) = r.toNat % 2 ^ 31 := Nat.and_two_pow_sub_one_eq_mod r.toNat 31
  have h6 : 2139095040 < r.toNat &&& (2 ^ 31 - 1) := h4
  omega
theorem fl_al {x v : UInt32} (r : UInt32) (h : alike32 r x = true) : FP.fcmp r v = FP.fcmp x v := by
  unfold alike32 at h
  rw [Bool.or_eq_true, Bool.and_eq_true] at h
  rcases h with h | ⟨h1, h2⟩
  · rw [of_decide_eq_true h]
  · exact ((FP.Core.fcmp_none r v).mpr (Or.inl (nan_of h1))).trans ((FP.Core.fcmp_none x v).mpr (Or.inl (nan_of h2))).symm
/-- a cell's index: six or seven to an item, a job, a drive -/
theorem ix6 (i c : Nat) : nI 6 * nI i + nI c = nI (6 * i + c) := by rw [pk_mul, nI_add]
def more (x : Int32) : UInt32 := FP.fadd 1065353216 (FP.fmul (FP.i2f x) 1040187392)
theorem more_l : ∀ r, r < 1600 → (FP.fmul (FP.i2f (nI r)) 1040187392).toNat ≤ 2139095040 ∧ (more (nI r)).toNat ≤ 2139095040 := by decide +kernel
end
