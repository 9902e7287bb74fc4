-- ===== PART A: goes FIRST, ahead of the names: the tables' words, and 'selects' of the private methods out of them =====
/-- a private method of a class that the tables say can be made, by its rows of tables_1 -/
def lw_okq (q : MethodName × Nat) : Prop := (q.1.cls ≠ "java/lang/invoke/MethodHandle" ∧ q.1.cls ≠ "java/lang/invoke/VarHandle") ∧ Cond.instantiable q.1.cls q.2 ∈ tables_1 ∧ Cond.privateMethod q.1 ∈ tables_1 ∧ Cond.instanceMethod q.1 ∈ tables_1
theorem lw_p0 : lw_okq (⟨"DustRobot$State", "groupOf", "(LDustRobot$Job;)I"⟩, 12) := ⟨⟨by decide +kernel, by decide +kernel⟩, List.mem_of_getElem? (i := 22) (by decide +kernel), List.mem_of_getElem? (i := 492) (by decide +kernel), List.mem_of_getElem? (i := 493) (by decide +kernel)⟩
theorem lw_p1 : lw_okq (⟨"DustRobot$State", "canBegin", "(LDustRobot$Job;)Z"⟩, 12) := ⟨⟨by decide +kernel, by decide +kernel⟩, List.mem_of_getElem? (i := 22) (by decide +kernel), List.mem_of_getElem? (i := 502) (by decide +kernel), List.mem_of_getElem? (i := 503) (by decide +kernel)⟩
theorem lw_p2 : lw_okq (⟨"DustRobot$History", "dropOldest", "()V"⟩, 2) := ⟨⟨by decide +kernel, by decide +kernel⟩, List.mem_of_getElem? (i := 289) (by decide +kernel), List.mem_of_getElem? (i := 564) (by decide +kernel), List.mem_of_getElem? (i := 565) (by decide +kernel)⟩
theorem lw_p3 : lw_okq (⟨"DustRobot$Item", "begin", "(I)V"⟩, 8) := ⟨⟨by decide +kernel, by decide +kernel⟩, List.mem_of_getElem? (i := 35) (by decide +kernel), List.mem_of_getElem? (i := 609) (by decide +kernel), List.mem_of_getElem? (i := 610) (by decide +kernel)⟩
theorem lw_p4 : lw_okq (⟨"DustRobot", "giveJob", "(III)I"⟩, 6) := ⟨⟨by decide +kernel, by decide +kernel⟩, List.mem_of_getElem? (i := 14) (by decide +kernel), List.mem_of_getElem? (i := 650) (by decide +kernel), List.mem_of_getElem? (i := 651) (by decide +kernel)⟩
theorem lw_p5 : lw_okq (⟨"DustRobot$State", "beginJob", "()V"⟩, 12) := ⟨⟨by decide +kernel, by decide +kernel⟩, List.mem_of_getElem? (i := 22) (by decide +kernel), List.mem_of_getElem? (i := 746) (by decide +kernel), List.mem_of_getElem? (i := 747) (by decide +kernel)⟩
theorem lw_p6 : lw_okq (⟨"DustRobot$State", "doStep", "(LDustRobot$Job;)Z"⟩, 12) := ⟨⟨by decide +kernel, by decide +kernel⟩, List.mem_of_getElem? (i := 22) (by decide +kernel), List.mem_of_getElem? (i := 758) (by decide +kernel), List.mem_of_getElem? (i := 759) (by decide +kernel)⟩
theorem lw_p7 : lw_okq (⟨"DustRobot$State", "doMoveStep", "(LDustRobot$Job;LDustRobot$Item;I)Z"⟩, 12) := ⟨⟨by decide +kernel, by decide +kernel⟩, List.mem_of_getElem? (i := 22) (by decide +kernel), List.mem_of_getElem? (i := 763) (by decide +kernel), List.mem_of_getElem? (i := 764) (by decide +kernel)⟩
theorem lw_p8 : lw_okq (⟨"DustRobot$State", "goTo", "(LDustRobot$Job;I)Z"⟩, 12) := ⟨⟨by decide +kernel, by decide +kernel⟩, List.mem_of_getElem? (i := 22) (by decide +kernel), List.mem_of_getElem? (i := 767) (by decide +kernel), List.mem_of_getElem? (i := 768) (by decide +kernel)⟩
theorem lw_p9 : lw_okq (⟨"DustRobot$State", "costTo", "(I)F"⟩, 12) := ⟨⟨by decide +kernel, by decide +kernel⟩, List.mem_of_getElem? (i := 22) (by decide +kernel), List.mem_of_getElem? (i := 771) (by decide +kernel), List.mem_of_getElem? (i := 772) (by decide +kernel)⟩
theorem lw_p10 : lw_okq (⟨"DustRobot$State", "isAllowed", "(FF)Z"⟩, 12) := ⟨⟨by decide +kernel, by decide +kernel⟩, List.mem_of_getElem? (i := 22) (by decide +kernel), List.mem_of_getElem? (i := 778) (by decide +kernel), List.mem_of_getElem? (i := 779) (by decide +kernel)⟩
theorem lw_p11 : lw_okq (⟨"DustRobot$State", "takeInHand", "(LDustRobot$Item;I)Z"⟩, 12) := ⟨⟨by decide +kernel, by decide +kernel⟩, List.mem_of_getElem? (i := 22) (by decide +kernel), List.mem_of_getElem? (i := 782) (by decide +kernel), List.mem_of_getElem? (i := 783) (by decide +kernel)⟩
theorem lw_p12 : lw_okq (⟨"DustRobot$State", "putHome", "(LDustRobot$Item;)Z"⟩, 12) := ⟨⟨by decide +kernel, by decide +kernel⟩, List.mem_of_getElem? (i := 22) (by decide +kernel), List.mem_of_getElem? (i := 786) (by decide +kernel), List.mem_of_getElem? (i := 787) (by decide +kernel)⟩
theorem lw_p13 : lw_okq (⟨"DustRobot$State", "doDriveStep", "(LDustRobot$Job;LDustRobot$Item;LDustRobot$Drive;)Z"⟩, 12) := ⟨⟨by decide +kernel, by decide +kernel⟩, List.mem_of_getElem? (i := 22) (by decide +kernel), List.mem_of_getElem? (i := 790) (by decide +kernel), List.mem_of_getElem? (i := 791) (by decide +kernel)⟩
theorem lw_p14 : lw_okq (⟨"DustRobot$State", "loadDrive", "(LDustRobot$Job;LDustRobot$Item;LDustRobot$Drive;)Z"⟩, 12) := ⟨⟨by decide +kernel, by decide +kernel⟩, List.mem_of_getElem? (i := 22) (by decide +kernel), List.mem_of_getElem? (i := 794) (by decide +kernel), List.mem_of_getElem? (i := 795) (by decide +kernel)⟩
theorem lw_p15 : lw_okq (⟨"DustRobot$State", "readInDrive", "(LDustRobot$Job;LDustRobot$Item;LDustRobot$Drive;)Z"⟩, 12) := ⟨⟨by decide +kernel, by decide +kernel⟩, List.mem_of_getElem? (i := 22) (by decide +kernel), List.mem_of_getElem? (i := 798) (by decide +kernel), List.mem_of_getElem? (i := 799) (by decide +kernel)⟩
def lw_privs_1 : List (MethodName × Nat) := [(⟨"DustRobot$State", "groupOf", "(LDustRobot$Job;)I"⟩, 12), (⟨"DustRobot$State", "canBegin", "(LDustRobot$Job;)Z"⟩, 12), (⟨"DustRobot$History", "dropOldest", "()V"⟩, 2), (⟨"DustRobot$Item", "begin", "(I)V"⟩, 8), (⟨"DustRobot", "giveJob", "(III)I"⟩, 6), (⟨"DustRobot$State", "beginJob", "()V"⟩, 12), (⟨"DustRobot$State", "doStep", "(LDustRobot$Job;)Z"⟩, 12), (⟨"DustRobot$State", "doMoveStep", "(LDustRobot$Job;LDustRobot$Item;I)Z"⟩, 12), (⟨"DustRobot$State", "goTo", "(LDustRobot$Job;I)Z"⟩, 12), (⟨"DustRobot$State", "costTo", "(I)F"⟩, 12), (⟨"DustRobot$State", "isAllowed", "(FF)Z"⟩, 12), (⟨"DustRobot$State", "takeInHand", "(LDustRobot$Item;I)Z"⟩, 12), (⟨"DustRobot$State", "putHome", "(LDustRobot$Item;)Z"⟩, 12), (⟨"DustRobot$State", "doDriveStep", "(LDustRobot$Job;LDustRobot$Item;LDustRobot$Drive;)Z"⟩, 12), (⟨"DustRobot$State", "loadDrive", "(LDustRobot$Job;LDustRobot$Item;LDustRobot$Drive;)Z"⟩, 12), (⟨"DustRobot$State", "readInDrive", "(LDustRobot$Job;LDustRobot$Item;LDustRobot$Drive;)Z"⟩, 12)]
theorem lw_r1 : ∀ q ∈ lw_privs_1, lw_okq q := List.forall_mem_cons.mpr ⟨lw_p0, List.forall_mem_cons.mpr ⟨lw_p1, List.forall_mem_cons.mpr ⟨lw_p2, List.forall_mem_cons.mpr ⟨lw_p3, List.forall_mem_cons.mpr ⟨lw_p4, List.forall_mem_cons.mpr ⟨lw_p5, List.forall_mem_cons.mpr ⟨lw_p6, List.forall_mem_cons.mpr ⟨lw_p7, List.forall_mem_cons.mpr ⟨lw_p8, List.forall_mem_cons.mpr ⟨lw_p9, List.forall_mem_cons.mpr ⟨lw_p10, List.forall_mem_cons.mpr ⟨lw_p11, List.forall_mem_cons.mpr ⟨lw_p12, List.forall_mem_cons.mpr ⟨lw_p13, List.forall_mem_cons.mpr ⟨lw_p14, List.forall_mem_cons.mpr ⟨lw_p15, fun _ h => absurd h List.not_mem_nil⟩⟩⟩⟩⟩⟩⟩⟩⟩⟩⟩⟩⟩⟩⟩⟩
theorem lw_p16 : lw_okq (⟨"DustRobot$State", "cleanDrive", "(LDustRobot$Job;LDustRobot$Item;LDustRobot$Drive;)Z"⟩, 12) := ⟨⟨by decide +kernel, by decide +kernel⟩, List.mem_of_getElem? (i := 22) (by decide +kernel), List.mem_of_getElem? (i := 808) (by decide +kernel), List.mem_of_getElem? (i := 809) (by decide +kernel)⟩
theorem lw_p17 : lw_okq (⟨"DustRobot$State", "unloadDrive", "(LDustRobot$Job;LDustRobot$Item;LDustRobot$Drive;)Z"⟩, 12) := ⟨⟨by decide +kernel, by decide +kernel⟩, List.mem_of_getElem? (i := 22) (by decide +kernel), List.mem_of_getElem? (i := 816) (by decide +kernel), List.mem_of_getElem? (i := 817) (by decide +kernel)⟩
theorem lw_p18 : lw_okq (⟨"DustRobot$State", "goOn", "(LDustRobot$Job;)I"⟩, 12) := ⟨⟨by decide +kernel, by decide +kernel⟩, List.mem_of_getElem? (i := 22) (by decide +kernel), List.mem_of_getElem? (i := 820) (by decide +kernel), List.mem_of_getElem? (i := 821) (by decide +kernel)⟩
def lw_privs_2 : List (MethodName × Nat) := [(⟨"DustRobot$State", "cleanDrive", "(LDustRobot$Job;LDustRobot$Item;LDustRobot$Drive;)Z"⟩, 12), (⟨"DustRobot$State", "unloadDrive", "(LDustRobot$Job;LDustRobot$Item;LDustRobot$Drive;)Z"⟩, 12), (⟨"DustRobot$State", "goOn", "(LDustRobot$Job;)I"⟩, 12)]
theorem lw_r2 : ∀ q ∈ lw_privs_2, lw_okq q := List.forall_mem_cons.mpr ⟨lw_p16, List.forall_mem_cons.mpr ⟨lw_p17, List.forall_mem_cons.mpr ⟨lw_p18, fun _ h => absurd h List.not_mem_nil⟩⟩⟩
def lw_privs : List (MethodName × Nat) := lw_privs_1 ++ (lw_privs_2)
def lw_tbl : List Cond := k2_sels lw_privs ++ tables_1
theorem lw_privs_ok : ∀ q ∈ lw_privs, lw_okq q := by
  show ∀ q ∈ lw_privs_1 ++ (lw_privs_2), lw_okq q
  exact List.forall_mem_append.mpr ⟨lw_r1, lw_r2⟩
/-- the streams that the claim lets the run draw from -/
abbrev lw_cs : List Choice := [Jvm.Choice.named "NaN.bits"]
theorem lw_bits : nanBits ∈ lw_cs := by first | decide | exact List.mem_cons_self | simp [lw_cs, nanBits]
-- ===== end of PART A
/-! ===== BEGIN printed: names, fields, word lists, decode rows ===== -/
def RX0 : String := "DustRobot$Drive"
def TX0 : u_T := fun k => match k with
  | 0 => ("DustRobot$Drive", "slot", "I", false)
  | 1 => ("DustRobot$Drive", "dust", "F", false)
  | 2 => ("DustRobot$Drive", "ceiling", "F", false)
  | 3 => ("DustRobot$Drive", "reads", "I", false)
  | 4 => ("DustRobot$Drive", "lostReads", "I", false)
  | 5 => ("DustRobot$Drive", "cleanings", "I", false)
  | _ => ("DustRobot$Drive", "loaded", "I", false)
def tyX0 : Nat → FieldType := fun k => match k with
  | 0 => .int
  | 1 => .float
  | 2 => .float
  | 3 => .int
  | 4 => .int
  | 5 => .int
  | _ => .int
abbrev wsX00 : List Cond := u_ws RX0 TX0 7
theorem nmX0 : ∀ a, a < 7 → ∀ b, b < 7 → a ≠ b → (TX0 a).2.1 ≠ (TX0 b).2.1 := by decide +kernel
theorem tyX0_ok : ∀ k, k < 7 → parseFieldDescriptor (TX0 k).2.2.1 = some (tyX0 k) := by decide +kernel
abbrev cX0_init : ByteArray := prog_2_method_1_code
def yX0_init : MethodName := ⟨RX0, "<init>", "()V"⟩
abbrev cX0_begin : ByteArray := prog_2_method_2_code
def yX0_begin : MethodName := ⟨RX0, "begin", "(I)V"⟩
abbrev cX0_copyFrom : ByteArray := prog_2_method_3_code
def yX0_copyFrom : MethodName := ⟨RX0, "copyFrom", "(LDustRobot$Drive;)V"⟩
abbrev cX0_isTooDusty : ByteArray := prog_2_method_4_code
def yX0_isTooDusty : MethodName := ⟨RX0, "isTooDusty", "()Z"⟩
abbrev cX0_readTape : ByteArray := prog_2_method_5_code
def yX0_readTape : MethodName := ⟨RX0, "readTape", "(LDustRobot$Item;)Z"⟩
abbrev cX0_cleanWith : ByteArray := prog_2_method_6_code
def yX0_cleanWith : MethodName := ⟨RX0, "cleanWith", "(LDustRobot$Item;)V"⟩
abbrev cX0_tell : ByteArray := prog_2_method_7_code
def yX0_tell : MethodName := ⟨RX0, "tell", "(I)I"⟩
def RX1 : String := "DustRobot$History"
def TX1 : u_T := fun k => match k with
  | 0 => ("DustRobot$History", "states", "[LDustRobot$State;", true)
  | _ => ("DustRobot$History", "held", "I", false)
def tyX1 : Nat → FieldType := fun k => match k with
  | 0 => .array (.object "DustRobot$State")
  | _ => .int
abbrev wsX10 : List Cond := u_ws RX1 TX1 2
theorem nmX1 : ∀ a, a < 2 → ∀ b, b < 2 → a ≠ b → (TX1 a).2.1 ≠ (TX1 b).2.1 := by decide +kernel
theorem tyX1_ok : ∀ k, k < 2 → parseFieldDescriptor (TX1 k).2.2.1 = some (tyX1 k) := by decide +kernel
abbrev cX1_init : ByteArray := prog_3_method_1_code
def yX1_init : MethodName := ⟨RX1, "<init>", "()V"⟩
abbrev cX1_record : ByteArray := prog_3_method_2_code
def yX1_record : MethodName := ⟨RX1, "record", "(LDustRobot$State;)V"⟩
abbrev cX1_dropOldest : ByteArray := prog_3_method_3_code
def yX1_dropOldest : MethodName := ⟨RX1, "dropOldest", "()V"⟩
def RX2 : String := "DustRobot$Item"
def TX2 : u_T := fun k => match k with
  | 0 => ("DustRobot$Item", "isCleaner", "Z", false)
  | 1 => ("DustRobot$Item", "home", "I", false)
  | 2 => ("DustRobot$Item", "where", "I", false)
  | 3 => ("DustRobot$Item", "drive", "I", false)
  | 4 => ("DustRobot$Item", "amount", "I", false)
  | 5 => ("DustRobot$Item", "frailtyBits", "I", false)
  | 6 => ("DustRobot$Item", "frailty", "F", false)
  | _ => ("DustRobot$Item", "lostReads", "I", false)
def tyX2 : Nat → FieldType := fun k => match k with
  | 0 => .boolean
  | 1 => .int
  | 2 => .int
  | 3 => .int
  | 4 => .int
  | 5 => .int
  | 6 => .float
  | _ => .int
abbrev wsX20 : List Cond := u_ws RX2 TX2 8
theorem nmX2 : ∀ a, a < 8 → ∀ b, b < 8 → a ≠ b → (TX2 a).2.1 ≠ (TX2 b).2.1 := by decide +kernel
theorem tyX2_ok : ∀ k, k < 8 → parseFieldDescriptor (TX2 k).2.2.1 = some (tyX2 k) := by decide +kernel
abbrev cX2_init : ByteArray := prog_4_method_1_code
def yX2_init : MethodName := ⟨RX2, "<init>", "()V"⟩
abbrev cX2_beginTape : ByteArray := prog_4_method_2_code
def yX2_beginTape : MethodName := ⟨RX2, "beginTape", "(IIF)V"⟩
abbrev cX2_beginCleaner : ByteArray := prog_4_method_3_code
def yX2_beginCleaner : MethodName := ⟨RX2, "beginCleaner", "(II)V"⟩
abbrev cX2_begin : ByteArray := prog_4_method_4_code
def yX2_begin : MethodName := ⟨RX2, "begin", "(I)V"⟩
abbrev cX2_copyFrom : ByteArray := prog_4_method_5_code
def yX2_copyFrom : MethodName := ⟨RX2, "copyFrom", "(LDustRobot$Item;)V"⟩
abbrev cX2_tell : ByteArray := prog_4_method_6_code
def yX2_tell : MethodName := ⟨RX2, "tell", "(I)I"⟩
def RX3 : String := "DustRobot$Job"
def TX3 : u_T := fun k => match k with
  | 0 => ("DustRobot$Job", "kind", "I", false)
  | 1 => ("DustRobot$Job", "target", "I", false)
  | 2 => ("DustRobot$Job", "slot", "I", false)
  | 3 => ("DustRobot$Job", "state", "I", false)
  | 4 => ("DustRobot$Job", "began", "I", false)
  | 5 => ("DustRobot$Job", "ended", "I", false)
  | 6 => ("DustRobot$Job", "step", "I", false)
  | 7 => ("DustRobot$Job", "drive", "I", false)
  | 8 => ("DustRobot$Job", "cleaner", "I", false)
  | 9 => ("DustRobot$Job", "reason", "I", false)
  | 10 => ("DustRobot$Job", "pleas", "I", false)
  | 11 => ("DustRobot$Job", "until", "I", false)
  | _ => ("DustRobot$Job", "lostReads", "I", false)
def tyX3 : Nat → FieldType := fun k => match k with
  | 0 => .int
  | 1 => .int
  | 2 => .int
  | 3 => .int
  | 4 => .int
  | 5 => .int
  | 6 => .int
  | 7 => .int
  | 8 => .int
  | 9 => .int
  | 10 => .int
  | 11 => .int
  | _ => .int
abbrev wsX30 : List Cond := u_ws RX3 TX3 13
theorem nmX3 : ∀ a, a < 13 → ∀ b, b < 13 → a ≠ b → (TX3 a).2.1 ≠ (TX3 b).2.1 := by decide +kernel
theorem tyX3_ok : ∀ k, k < 13 → parseFieldDescriptor (TX3 k).2.2.1 = some (tyX3 k) := by decide +kernel
abbrev cX3_init : ByteArray := prog_5_method_1_code
def yX3_init : MethodName := ⟨RX3, "<init>", "()V"⟩
abbrev cX3_enter : ByteArray := prog_5_method_2_code
def yX3_enter : MethodName := ⟨RX3, "enter", "(III)V"⟩
abbrev cX3_copyFrom : ByteArray := prog_5_method_3_code
def yX3_copyFrom : MethodName := ⟨RX3, "copyFrom", "(LDustRobot$Job;)V"⟩
abbrev cX3_isOpen : ByteArray := prog_5_method_4_code
def yX3_isOpen : MethodName := ⟨RX3, "isOpen", "()Z"⟩
abbrev cX3_carriedItem : ByteArray := prog_5_method_5_code
def yX3_carriedItem : MethodName := ⟨RX3, "carriedItem", "()I"⟩
abbrev cX3_steps : ByteArray := prog_5_method_6_code
def yX3_steps : MethodName := ⟨RX3, "steps", "()I"⟩
abbrev cX3_tell : ByteArray := prog_5_method_7_code
def yX3_tell : MethodName := ⟨RX3, "tell", "(I)I"⟩
def RX4 : String := "DustRobot$Log"
def TX4 : u_T := fun k => match k with
  | 0 => ("DustRobot$Log", "kinds", "[I", true)
  | 1 => ("DustRobot$Log", "jobs", "[I", true)
  | 2 => ("DustRobot$Log", "drives", "[I", true)
  | 3 => ("DustRobot$Log", "ticks", "[I", true)
  | 4 => ("DustRobot$Log", "held", "I", false)
  | _ => ("DustRobot$Log", "newest", "I", false)
def tyX4 : Nat → FieldType := fun k => match k with
  | 0 => .array .int
  | 1 => .array .int
  | 2 => .array .int
  | 3 => .array .int
  | 4 => .int
  | _ => .int
abbrev wsX40 : List Cond := u_ws RX4 TX4 6
theorem nmX4 : ∀ a, a < 6 → ∀ b, b < 6 → a ≠ b → (TX4 a).2.1 ≠ (TX4 b).2.1 := by decide +kernel
theorem tyX4_ok : ∀ k, k < 6 → parseFieldDescriptor (TX4 k).2.2.1 = some (tyX4 k) := by decide +kernel
abbrev cX4_init : ByteArray := prog_6_method_1_code
def yX4_init : MethodName := ⟨RX4, "<init>", "()V"⟩
abbrev cX4_copyFrom : ByteArray := prog_6_method_2_code
def yX4_copyFrom : MethodName := ⟨RX4, "copyFrom", "(LDustRobot$Log;)V"⟩
abbrev cX4_add : ByteArray := prog_6_method_3_code
def yX4_add : MethodName := ⟨RX4, "add", "(IIII)V"⟩
def RX5 : String := "DustRobot$Queue"
def TX5 : u_T := fun k => match k with
  | 0 => ("DustRobot$Queue", "jobs", "[LDustRobot$Job;", true)
  | 1 => ("DustRobot$Queue", "jobCount", "I", false)
  | 2 => ("DustRobot$Queue", "firstKind", "I", false)
  | _ => ("DustRobot$Queue", "secondKind", "I", false)
def tyX5 : Nat → FieldType := fun k => match k with
  | 0 => .array (.object "DustRobot$Job")
  | 1 => .int
  | 2 => .int
  | _ => .int
abbrev wsX50 : List Cond := u_ws RX5 TX5 4
theorem nmX5 : ∀ a, a < 4 → ∀ b, b < 4 → a ≠ b → (TX5 a).2.1 ≠ (TX5 b).2.1 := by decide +kernel
theorem tyX5_ok : ∀ k, k < 4 → parseFieldDescriptor (TX5 k).2.2.1 = some (tyX5 k) := by decide +kernel
abbrev cX5_init : ByteArray := prog_7_method_1_code
def yX5_init : MethodName := ⟨RX5, "<init>", "()V"⟩
abbrev cX5_copyFrom : ByteArray := prog_7_method_2_code
def yX5_copyFrom : MethodName := ⟨RX5, "copyFrom", "(LDustRobot$Queue;)V"⟩
abbrev cX5_jobAt : ByteArray := prog_7_method_3_code
def yX5_jobAt : MethodName := ⟨RX5, "jobAt", "(I)LDustRobot$Job;"⟩
abbrev cX5_enter : ByteArray := prog_7_method_4_code
def yX5_enter : MethodName := ⟨RX5, "enter", "(III)I"⟩
abbrev cX5_rankKinds : ByteArray := prog_7_method_5_code
def yX5_rankKinds : MethodName := ⟨RX5, "rankKinds", "(II)I"⟩
abbrev cX5_rankOf : ByteArray := prog_7_method_6_code
def yX5_rankOf : MethodName := ⟨RX5, "rankOf", "(I)I"⟩
abbrev cX5_jobsInState : ByteArray := prog_7_method_7_code
def yX5_jobsInState : MethodName := ⟨RX5, "jobsInState", "(I)I"⟩
abbrev cX5_jobsWith : ByteArray := prog_7_method_8_code
def yX5_jobsWith : MethodName := ⟨RX5, "jobsWith", "(I)I"⟩
def RX6 : String := "DustRobot$State"
def TX6 : u_T := fun k => match k with
  | 0 => ("DustRobot$State", "store", "LDustRobot$Store;", true)
  | 1 => ("DustRobot$State", "queue", "LDustRobot$Queue;", true)
  | 2 => ("DustRobot$State", "log", "LDustRobot$Log;", true)
  | 3 => ("DustRobot$State", "meter", "F", false)
  | 4 => ("DustRobot$State", "limit", "F", false)
  | 5 => ("DustRobot$State", "tick", "I", false)
  | 6 => ("DustRobot$State", "place", "I", false)
  | 7 => ("DustRobot$State", "hand", "I", false)
  | 8 => ("DustRobot$State", "ownJob", "I", false)
  | 9 => ("DustRobot$State", "pleas", "I", false)
  | 10 => ("DustRobot$State", "slotsGone", "I", false)
  | _ => ("DustRobot$State", "idleTicks", "I", false)
def tyX6 : Nat → FieldType := fun k => match k with
  | 0 => .object "DustRobot$Store"
  | 1 => .object "DustRobot$Queue"
  | 2 => .object "DustRobot$Log"
  | 3 => .float
  | 4 => .float
  | 5 => .int
  | 6 => .int
  | 7 => .int
  | 8 => .int
  | 9 => .int
  | 10 => .int
  | _ => .int
abbrev wsX60 : List Cond := u_ws RX6 TX6 12
theorem nmX6 : ∀ a, a < 12 → ∀ b, b < 12 → a ≠ b → (TX6 a).2.1 ≠ (TX6 b).2.1 := by decide +kernel
theorem tyX6_ok : ∀ k, k < 12 → parseFieldDescriptor (TX6 k).2.2.1 = some (tyX6 k) := by decide +kernel
abbrev cX6_init : ByteArray := prog_8_method_1_code
def yX6_init : MethodName := ⟨RX6, "<init>", "()V"⟩
abbrev cX6_copyFrom : ByteArray := prog_8_method_2_code
def yX6_copyFrom : MethodName := ⟨RX6, "copyFrom", "(LDustRobot$State;)V"⟩
abbrev cX6_isTakenOrAimedAt : ByteArray := prog_8_method_3_code
def yX6_isTakenOrAimedAt : MethodName := ⟨RX6, "isTakenOrAimedAt", "(I)Z"⟩
abbrev cX6_faultOfJob : ByteArray := prog_8_method_4_code
def yX6_faultOfJob : MethodName := ⟨RX6, "faultOfJob", "(III)I"⟩
abbrev cX6_jobToBegin : ByteArray := prog_8_method_6_code
def yX6_jobToBegin : MethodName := ⟨RX6, "jobToBegin", "()I"⟩
abbrev cX6_groupOf : ByteArray := prog_8_method_7_code
def yX6_groupOf : MethodName := ⟨RX6, "groupOf", "(LDustRobot$Job;)I"⟩
abbrev cX6_canBegin : ByteArray := prog_8_method_8_code
def yX6_canBegin : MethodName := ⟨RX6, "canBegin", "(LDustRobot$Job;)Z"⟩
abbrev cX6_isAllowed : ByteArray := prog_8_method_10_code
def yX6_isAllowed : MethodName := ⟨RX6, "isAllowed", "(FF)Z"⟩
abbrev cX6_costTo : ByteArray := prog_8_method_11_code
def yX6_costTo : MethodName := ⟨RX6, "costTo", "(I)F"⟩
abbrev cX6_passOneTick : ByteArray := prog_8_method_12_code
def yX6_passOneTick : MethodName := ⟨RX6, "passOneTick", "()I"⟩
abbrev cX6_beginJob : ByteArray := prog_8_method_13_code
def yX6_beginJob : MethodName := ⟨RX6, "beginJob", "()V"⟩
abbrev cX6_doStep : ByteArray := prog_8_method_14_code
def yX6_doStep : MethodName := ⟨RX6, "doStep", "(LDustRobot$Job;)Z"⟩
abbrev cX6_doMoveStep : ByteArray := prog_8_method_15_code
def yX6_doMoveStep : MethodName := ⟨RX6, "doMoveStep", "(LDustRobot$Job;LDustRobot$Item;I)Z"⟩
abbrev cX6_doDriveStep : ByteArray := prog_8_method_16_code
def yX6_doDriveStep : MethodName := ⟨RX6, "doDriveStep", "(LDustRobot$Job;LDustRobot$Item;LDustRobot$Drive;)Z"⟩
abbrev cX6_goTo : ByteArray := prog_8_method_17_code
def yX6_goTo : MethodName := ⟨RX6, "goTo", "(LDustRobot$Job;I)Z"⟩
abbrev cX6_takeInHand : ByteArray := prog_8_method_18_code
def yX6_takeInHand : MethodName := ⟨RX6, "takeInHand", "(LDustRobot$Item;I)Z"⟩
abbrev cX6_putHome : ByteArray := prog_8_method_19_code
def yX6_putHome : MethodName := ⟨RX6, "putHome", "(LDustRobot$Item;)Z"⟩
abbrev cX6_loadDrive : ByteArray := prog_8_method_20_code
def yX6_loadDrive : MethodName := ⟨RX6, "loadDrive", "(LDustRobot$Job;LDustRobot$Item;LDustRobot$Drive;)Z"⟩
abbrev cX6_unloadDrive : ByteArray := prog_8_method_21_code
def yX6_unloadDrive : MethodName := ⟨RX6, "unloadDrive", "(LDustRobot$Job;LDustRobot$Item;LDustRobot$Drive;)Z"⟩
abbrev cX6_readInDrive : ByteArray := prog_8_method_22_code
def yX6_readInDrive : MethodName := ⟨RX6, "readInDrive", "(LDustRobot$Job;LDustRobot$Item;LDustRobot$Drive;)Z"⟩
abbrev cX6_cleanDrive : ByteArray := prog_8_method_23_code
def yX6_cleanDrive : MethodName := ⟨RX6, "cleanDrive", "(LDustRobot$Job;LDustRobot$Item;LDustRobot$Drive;)Z"⟩
abbrev cX6_goOn : ByteArray := prog_8_method_24_code
def yX6_goOn : MethodName := ⟨RX6, "goOn", "(LDustRobot$Job;)I"⟩
def RX7 : String := "DustRobot$Store"
def TX7 : u_T := fun k => match k with
  | 0 => ("DustRobot$Store", "items", "[LDustRobot$Item;", true)
  | 1 => ("DustRobot$Store", "itemCount", "I", false)
  | 2 => ("DustRobot$Store", "drives", "[LDustRobot$Drive;", true)
  | _ => ("DustRobot$Store", "driveCount", "I", false)
def tyX7 : Nat → FieldType := fun k => match k with
  | 0 => .array (.object "DustRobot$Item")
  | 1 => .int
  | 2 => .array (.object "DustRobot$Drive")
  | _ => .int
abbrev wsX70 : List Cond := u_ws RX7 TX7 4
theorem nmX7 : ∀ a, a < 4 → ∀ b, b < 4 → a ≠ b → (TX7 a).2.1 ≠ (TX7 b).2.1 := by decide +kernel
theorem tyX7_ok : ∀ k, k < 4 → parseFieldDescriptor (TX7 k).2.2.1 = some (tyX7 k) := by decide +kernel
abbrev cX7_init : ByteArray := prog_9_method_1_code
def yX7_init : MethodName := ⟨RX7, "<init>", "()V"⟩
abbrev cX7_copyFrom : ByteArray := prog_9_method_2_code
def yX7_copyFrom : MethodName := ⟨RX7, "copyFrom", "(LDustRobot$Store;)V"⟩
abbrev cX7_hasSlot : ByteArray := prog_9_method_3_code
def yX7_hasSlot : MethodName := ⟨RX7, "hasSlot", "(I)Z"⟩
abbrev cX7_itemAt : ByteArray := prog_9_method_4_code
def yX7_itemAt : MethodName := ⟨RX7, "itemAt", "(I)LDustRobot$Item;"⟩
abbrev cX7_driveAt : ByteArray := prog_9_method_5_code
def yX7_driveAt : MethodName := ⟨RX7, "driveAt", "(I)LDustRobot$Drive;"⟩
abbrev cX7_freeItem : ByteArray := prog_9_method_6_code
def yX7_freeItem : MethodName := ⟨RX7, "freeItem", "()LDustRobot$Item;"⟩
abbrev cX7_freeDrive : ByteArray := prog_9_method_7_code
def yX7_freeDrive : MethodName := ⟨RX7, "freeDrive", "()LDustRobot$Drive;"⟩
abbrev cX7_itemWithHome : ByteArray := prog_9_method_8_code
def yX7_itemWithHome : MethodName := ⟨RX7, "itemWithHome", "(I)I"⟩
abbrev cX7_driveBeside : ByteArray := prog_9_method_9_code
def yX7_driveBeside : MethodName := ⟨RX7, "driveBeside", "(I)I"⟩
abbrev cX7_driveToRead : ByteArray := prog_9_method_10_code
def yX7_driveToRead : MethodName := ⟨RX7, "driveToRead", "()I"⟩
abbrev cX7_cleanerNearest : ByteArray := prog_9_method_11_code
def yX7_cleanerNearest : MethodName := ⟨RX7, "cleanerNearest", "(I)I"⟩
abbrev cX7_dustOfAll : ByteArray := prog_9_method_12_code
def yX7_dustOfAll : MethodName := ⟨RX7, "dustOfAll", "()F"⟩
abbrev cX7_sumOverDrives : ByteArray := prog_9_method_13_code
def yX7_sumOverDrives : MethodName := ⟨RX7, "sumOverDrives", "(I)I"⟩
abbrev cX7_usesOfAll : ByteArray := prog_9_method_14_code
def yX7_usesOfAll : MethodName := ⟨RX7, "usesOfAll", "()I"⟩
def RX8 : String := "DustRobot$Text"
def TX8 : u_T := fun k => match k with
  | 0 => ("DustRobot$Text", "signs", "[C", true)
  | 1 => ("DustRobot$Text", "length", "I", false)
  | 2 => ("DustRobot$Text", "at", "I", false)
  | 3 => ("DustRobot$Text", "kinds", "[I", true)
  | 4 => ("DustRobot$Text", "targets", "[I", true)
  | 5 => ("DustRobot$Text", "slots", "[I", true)
  | _ => ("DustRobot$Text", "jobCount", "I", false)
def tyX8 : Nat → FieldType := fun k => match k with
  | 0 => .array .char
  | 1 => .int
  | 2 => .int
  | 3 => .array .int
  | 4 => .array .int
  | 5 => .array .int
  | _ => .int
abbrev wsX80 : List Cond := u_ws RX8 TX8 7
theorem nmX8 : ∀ a, a < 7 → ∀ b, b < 7 → a ≠ b → (TX8 a).2.1 ≠ (TX8 b).2.1 := by decide +kernel
theorem tyX8_ok : ∀ k, k < 7 → parseFieldDescriptor (TX8 k).2.2.1 = some (tyX8 k) := by decide +kernel
abbrev cX8_init : ByteArray := prog_10_method_1_code
def yX8_init : MethodName := ⟨RX8, "<init>", "()V"⟩
def RX9 : String := "DustRobot"
def TX9 : u_T := fun k => match k with
  | 0 => ("DustRobot", "now", "LDustRobot$State;", true)
  | 1 => ("DustRobot", "history", "LDustRobot$History;", true)
  | 2 => ("DustRobot", "snapshot", "LDustRobot$State;", true)
  | 3 => ("DustRobot", "hasSnapshot", "Z", false)
  | 4 => ("DustRobot", "trial", "LDustRobot$State;", true)
  | _ => ("DustRobot", "text", "LDustRobot$Text;", true)
def tyX9 : Nat → FieldType := fun k => match k with
  | 0 => .object "DustRobot$State"
  | 1 => .object "DustRobot$History"
  | 2 => .object "DustRobot$State"
  | 3 => .boolean
  | 4 => .object "DustRobot$State"
  | _ => .object "DustRobot$Text"
abbrev wsX90 : List Cond := u_ws RX9 TX9 6
theorem nmX9 : ∀ a, a < 6 → ∀ b, b < 6 → a ≠ b → (TX9 a).2.1 ≠ (TX9 b).2.1 := by decide +kernel
theorem tyX9_ok : ∀ k, k < 6 → parseFieldDescriptor (TX9 k).2.2.1 = some (tyX9 k) := by decide +kernel
abbrev cX9_init : ByteArray := prog_1_method_1_code
def yX9_init : MethodName := ⟨RX9, "<init>", "()V"⟩
abbrev cX9_addDrive : ByteArray := prog_1_method_2_code
def yX9_addDrive : MethodName := ⟨RX9, "addDrive", "(I)I"⟩
abbrev cX9_addTape : ByteArray := prog_1_method_3_code
def yX9_addTape : MethodName := ⟨RX9, "addTape", "(II)I"⟩
abbrev cX9_addCleaner : ByteArray := prog_1_method_4_code
def yX9_addCleaner : MethodName := ⟨RX9, "addCleaner", "(II)I"⟩
abbrev cX9_refill : ByteArray := prog_1_method_5_code
def yX9_refill : MethodName := ⟨RX9, "refill", "(II)I"⟩
abbrev cX9_setLimit : ByteArray := prog_1_method_6_code
def yX9_setLimit : MethodName := ⟨RX9, "setLimit", "(I)I"⟩
abbrev cX9_setCeiling : ByteArray := prog_1_method_7_code
def yX9_setCeiling : MethodName := ⟨RX9, "setCeiling", "(II)I"⟩
abbrev cX9_setOrder : ByteArray := prog_1_method_8_code
def yX9_setOrder : MethodName := ⟨RX9, "setOrder", "(II)I"⟩
abbrev cX9_read : ByteArray := prog_1_method_9_code
def yX9_read : MethodName := ⟨RX9, "read", "(I)I"⟩
abbrev cX9_clean : ByteArray := prog_1_method_10_code
def yX9_clean : MethodName := ⟨RX9, "clean", "(I)I"⟩
abbrev cX9_move : ByteArray := prog_1_method_11_code
def yX9_move : MethodName := ⟨RX9, "move", "(II)I"⟩
abbrev cX9_putOff : ByteArray := prog_1_method_12_code
def yX9_putOff : MethodName := ⟨RX9, "putOff", "(II)I"⟩
abbrev cX9_withdraw : ByteArray := prog_1_method_13_code
def yX9_withdraw : MethodName := ⟨RX9, "withdraw", "(I)I"⟩
abbrev cX9_tick : ByteArray := prog_1_method_14_code
def yX9_tick : MethodName := ⟨RX9, "tick", "(I)I"⟩
abbrev cX9_item : ByteArray := prog_1_method_21_code
def yX9_item : MethodName := ⟨RX9, "item", "(II)I"⟩
abbrev cX9_homeOf : ByteArray := prog_1_method_22_code
def yX9_homeOf : MethodName := ⟨RX9, "homeOf", "(I)I"⟩
abbrev cX9_drive : ByteArray := prog_1_method_23_code
def yX9_drive : MethodName := ⟨RX9, "drive", "(II)I"⟩
abbrev cX9_dust : ByteArray := prog_1_method_24_code
def yX9_dust : MethodName := ⟨RX9, "dust", "(I)F"⟩
abbrev cX9_ceiling : ByteArray := prog_1_method_25_code
def yX9_ceiling : MethodName := ⟨RX9, "ceiling", "(I)F"⟩
abbrev cX9_meter : ByteArray := prog_1_method_26_code
def yX9_meter : MethodName := ⟨RX9, "meter", "(I)F"⟩
abbrev cX9_job : ByteArray := prog_1_method_27_code
def yX9_job : MethodName := ⟨RX9, "job", "(II)I"⟩
abbrev cX9_next : ByteArray := prog_1_method_29_code
def yX9_next : MethodName := ⟨RX9, "next", "()I"⟩
abbrev cX9_count : ByteArray := prog_1_method_34_code
def yX9_count : MethodName := ⟨RX9, "count", "(I)I"⟩
abbrev cX9_giveJob : ByteArray := prog_1_method_35_code
def yX9_giveJob : MethodName := ⟨RX9, "giveJob", "(III)I"⟩
abbrev cX9_isFrom : ByteArray := prog_1_method_36_code
def yX9_isFrom : MethodName := ⟨RX9, "isFrom", "(III)Z"⟩
abbrev cX9_floatOf : ByteArray := prog_1_method_37_code
def yX9_floatOf : MethodName := ⟨RX9, "floatOf", "(I)F"⟩
abbrev cX9_noNumber : ByteArray := prog_1_method_38_code
def yX9_noNumber : MethodName := ⟨RX9, "noNumber", "()F"⟩
def RX10 : String := "DustRobotModel"
def TX10 : u_T := fun k => match k with
  | _ => ("", "", "", false)
def tyX10 : Nat → FieldType := fun k => match k with
  | _ => .int
abbrev wsX100 : List Cond := u_ws RX10 TX10 0
theorem nmX10 : ∀ a, a < 0 → ∀ b, b < 0 → a ≠ b → (TX10 a).2.1 ≠ (TX10 b).2.1 := by decide +kernel
theorem tyX10_ok : ∀ k, k < 0 → parseFieldDescriptor (TX10 k).2.2.1 = some (tyX10 k) := by decide +kernel
def RJ9 : String := "java/lang/Math"
def TJ9 : u_T := fun k => match k with
  | _ => ("", "", "", false)
def tyJ9 : Nat → FieldType := fun k => match k with
  | _ => .int
abbrev wsJ90 : List Cond := u_ws RJ9 TJ9 0
theorem nmJ9 : ∀ a, a < 0 → ∀ b, b < 0 → a ≠ b → (TJ9 a).2.1 ≠ (TJ9 b).2.1 := by decide +kernel
theorem tyJ9_ok : ∀ k, k < 0 → parseFieldDescriptor (TJ9 k).2.2.1 = some (tyJ9 k) := by decide +kernel
abbrev cJ9_abs_0f7a4 : ByteArray := prog_13_method_59_code
def yJ9_abs_0f7a4 : MethodName := ⟨RJ9, "abs", "(I)I"⟩
abbrev cJ9_min_7cf53 : ByteArray := prog_13_method_69_code
def yJ9_min_7cf53 : MethodName := ⟨RJ9, "min", "(II)I"⟩
def RJ10 : String := "java/lang/System"
def TJ10 : u_T := fun k => match k with
  | _ => ("", "", "", false)
def tyJ10 : Nat → FieldType := fun k => match k with
  | _ => .int
abbrev wsJ100 : List Cond := u_ws RJ10 TJ10 0
theorem nmJ10 : ∀ a, a < 0 → ∀ b, b < 0 → a ≠ b → (TJ10 a).2.1 ≠ (TJ10 b).2.1 := by decide +kernel
theorem tyJ10_ok : ∀ k, k < 0 → parseFieldDescriptor (TJ10 k).2.2.1 = some (tyJ10 k) := by decide +kernel
def RL : String := "DustRobotLaw"
abbrev cL_cell : ByteArray := method_2_code
def yL_cell : MethodName := ⟨RL, "cell", "([II)I"⟩
abbrev cL_low : ByteArray := method_3_code
def yL_low : MethodName := ⟨RL, "low", "(II)I"⟩
abbrev cL_bits : ByteArray := method_4_code
def yL_bits : MethodName := ⟨RL, "bits", "(I)I"⟩
abbrev cL_isDusty : ByteArray := method_5_code
def yL_isDusty : MethodName := ⟨RL, "isDusty", "([DI)Z"⟩
abbrev cL_away : ByteArray := method_6_code
def yL_away : MethodName := ⟨RL, "away", "(II)I"⟩
abbrev cL_atHome : ByteArray := method_7_code
def yL_atHome : MethodName := ⟨RL, "atHome", "([I[II)I"⟩
abbrev cL_rank : ByteArray := method_8_code
def yL_rank : MethodName := ⟨RL, "rank", "([II)I"⟩
abbrev cL_isAhead : ByteArray := method_9_code
def yL_isAhead : MethodName := ⟨RL, "isAhead", "([I[D[III)Z"⟩
abbrev cL_drive : ByteArray := method_10_code
def yL_drive : MethodName := ⟨RL, "drive", "([I[D)I"⟩
abbrev cL_cleaner : ByteArray := method_11_code
def yL_cleaner : MethodName := ⟨RL, "cleaner", "([I[I)I"⟩
abbrev cL_canBegin : ByteArray := method_12_code
def yL_canBegin : MethodName := ⟨RL, "canBegin", "([I[I[D[I[II)Z"⟩
abbrev cL_first : ByteArray := method_13_code
def yL_first : MethodName := ⟨RL, "first", "([I[I[D[I[I)I"⟩
abbrev cL_isThere : ByteArray := method_14_code
def yL_isThere : MethodName := ⟨RL, "isThere", "([I[I[D[II)Z"⟩
abbrev cL_isRead : ByteArray := method_15_code
def yL_isRead : MethodName := ⟨RL, "isRead", "([I[I[I[D[I[III)Z"⟩
abbrev cL_puts : ByteArray := method_16_code
def yL_puts : MethodName := ⟨RL, "puts", "([I[I[IIII)Z"⟩
abbrev cL_isDone : ByteArray := method_17_code
def yL_isDone : MethodName := ⟨RL, "isDone", "([I[I[I[D[I[I[I)Z"⟩
abbrev cL_ticks : ByteArray := method_18_code
def yL_ticks : MethodName := ⟨RL, "ticks", "([I[I[I[D[I[I[I)I"⟩
abbrev cL_areItems : ByteArray := method_19_code
def yL_areItems : MethodName := ⟨RL, "areItems", "(LDustRobot;[I[I[I[I[I)Z"⟩
abbrev cL_areDrives : ByteArray := method_20_code
def yL_areDrives : MethodName := ⟨RL, "areDrives", "(LDustRobot;[I[I[D)Z"⟩
abbrev cL_areJobs : ByteArray := method_21_code
def yL_areJobs : MethodName := ⟨RL, "areJobs", "(LDustRobot;[I[I[I)Z"⟩
abbrev cL_areCounts : ByteArray := method_22_code
def yL_areCounts : MethodName := ⟨RL, "areCounts", "(LDustRobot;[I[I[D[I[I)Z"⟩
abbrev cL_adds : ByteArray := method_23_code
def yL_adds : MethodName := ⟨RL, "adds", "(LDustRobot;[I[II)Z"⟩
abbrev cL_builds : ByteArray := method_24_code
def yL_builds : MethodName := ⟨RL, "builds", "(LDustRobot;[I[I[DI)Z"⟩
abbrev cL_gives : ByteArray := method_25_code
def yL_gives : MethodName := ⟨RL, "gives", "(LDustRobot;[I[I[I[II)Z"⟩
abbrev cL_holds : ByteArray := method_26_code
def yL_holds : MethodName := ⟨RL, "holds", "(LDustRobot;[I[I[II)Z"⟩
abbrev cL_sets : ByteArray := method_27_code
def yL_sets : MethodName := ⟨RL, "sets", "(LDustRobot;[I[I[DI)Z"⟩
abbrev cL_passes : ByteArray := method_28_code
def yL_passes : MethodName := ⟨RL, "passes", "(LDustRobot;[I[I[I[D[I[I[II)Z"⟩
abbrev cL_law : ByteArray := code
def yL_law : MethodName := ⟨RL, "law", "([I)Z"⟩
abbrev vwCl : List vw_C := [(RX0, TX0, 7), (RX1, TX1, 2), (RX2, TX2, 8), (RX3, TX3, 13), (RX4, TX4, 6), (RX5, TX5, 4), (RX6, TX6, 12), (RX7, TX7, 4), (RX8, TX8, 7), (RX9, TX9, 6)]
def Wt : List Cond := lw_tbl.filter goodWord
