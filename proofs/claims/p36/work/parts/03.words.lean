theorem mWs {w : Cond} {i : Nat} (h : (k2_sels lw_privs)[i]? = some w) (g : goodWord w = true) : w ∈ Wt := List.mem_filter.mpr ⟨List.mem_append_left _ (List.mem_of_getElem? h), g⟩
theorem mW1 {w : Cond} {i : Nat} (h : tables_1_1[i]? = some w) (g : goodWord w = true) : w ∈ Wt := List.mem_filter.mpr ⟨List.mem_append_right _ (List.mem_append_left _ (List.mem_of_getElem? h)), g⟩
theorem mW2 {w : Cond} {i : Nat} (h : tables_1_2[i]? = some w) (g : goodWord w = true) : w ∈ Wt := List.mem_filter.mpr ⟨List.mem_append_right _ (List.mem_append_right _ (List.mem_append_left _ (List.mem_of_getElem? h))), g⟩
theorem mW3 {w : Cond} {i : Nat} (h : tables_1_3[i]? = some w) (g : goodWord w = true) : w ∈ Wt := List.mem_filter.mpr ⟨List.mem_append_right _ (List.mem_append_right _ (List.mem_append_right _ (List.mem_append_left _ (List.mem_of_getElem? h)))), g⟩
theorem mW4 {w : Cond} {i : Nat} (h : tables_1_4[i]? = some w) (g : goodWord w = true) : w ∈ Wt := List.mem_filter.mpr ⟨List.mem_append_right _ (List.mem_append_right _ (List.mem_append_right _ (List.mem_append_right _ (List.mem_of_getElem? h)))), g⟩
theorem Wt_all {P : Cond → Prop} {b : Bool} (_ : b = true) (h : ∀ w, w ∈ lw_tbl → P w) : ∀ w ∈ Wt, P w := fun w hw => h w (List.mem_filter.mp hw).1
theorem Wt_in : ∀ w ∈ Wt, w ∈ lw_tbl := fun _ hw => (List.mem_filter.mp hw).1
theorem Wt_good : GoodIn Wt Wt := fun _ hw => ⟨hw, good_of_word (List.mem_filter.mp hw).2⟩
set_option maxRecDepth 20000 in
theorem mw_1_0 : (Cond.initialized "DustRobotLaw") ∈ Wt := mW1 (i := 0) rfl rfl
set_option maxRecDepth 20000 in
theorem mw_1_1 : (Cond.initialized "DustRobot") ∈ Wt := mW1 (i := 1) rfl rfl
set_option maxRecDepth 20000 in
theorem mw_1_2 : (Cond.initialized "DustRobot$State") ∈ Wt := mW1 (i := 2) rfl rfl
set_option maxRecDepth 20000 in
theorem mw_1_3 : (Cond.initialized "DustRobot$Store") ∈ Wt := mW1 (i := 3) rfl rfl
set_option maxRecDepth 20000 in
theorem mw_1_4 : (Cond.initialized "DustRobot$Item") ∈ Wt := mW1 (i := 4) rfl rfl
set_option maxRecDepth 20000 in
theorem mw_1_5 : (Cond.initialized "DustRobot$Drive") ∈ Wt := mW1 (i := 5) rfl rfl
set_option maxRecDepth 20000 in
theorem mw_1_6 : (Cond.initialized "DustRobot$Queue") ∈ Wt := mW1 (i := 6) rfl rfl
set_option maxRecDepth 20000 in
theorem mw_1_7 : (Cond.initialized "DustRobot$Job") ∈ Wt := mW1 (i := 7) rfl rfl
set_option maxRecDepth 20000 in
theorem mw_1_8 : (Cond.initialized "DustRobot$Log") ∈ Wt := mW1 (i := 8) rfl rfl
set_option maxRecDepth 20000 in
theorem mw_1_9 : (Cond.initialized "DustRobot$History") ∈ Wt := mW1 (i := 9) rfl rfl
set_option maxRecDepth 20000 in
theorem mw_1_10 : (Cond.initialized "DustRobot$Text") ∈ Wt := mW1 (i := 10) rfl rfl
set_option maxRecDepth 20000 in
theorem mw_1_11 : (Cond.initialized "java/lang/System") ∈ Wt := mW1 (i := 11) rfl rfl
set_option maxRecDepth 20000 in
theorem mw_1_12 : (Cond.initialized "java/lang/Math") ∈ Wt := mW1 (i := 12) rfl rfl
set_option maxRecDepth 20000 in
theorem mw_1_13 : (Cond.classLink "DustRobotLaw" 69 "DustRobot") ∈ Wt := mW1 (i := 13) rfl rfl
set_option maxRecDepth 20000 in
theorem mw_1_14 : (Cond.instantiable "DustRobot" 6) ∈ Wt := mW1 (i := 14) rfl rfl
set_option maxRecDepth 20000 in
theorem mw_1_15 : (Cond.methodLink "DustRobotLaw" 154 yX9_init) ∈ Wt := mW1 (i := 15) rfl rfl
set_option maxRecDepth 20000 in
theorem mw_1_16 : (Cond.instanceMethod yX9_init) ∈ Wt := mW1 (i := 16) rfl rfl
set_option maxRecDepth 20000 in
theorem mw_1_17 : (Cond.code yX9_init cX9_init 1 (Option.none : Option Jvm.ClassFile.FieldType)) ∈ Wt := mW1 (i := 17) rfl rfl
set_option maxRecDepth 20000 in
theorem mw_1_18 : (Cond.methodLink "DustRobot" 1 (⟨"java/lang/Object", "<init>", "()V"⟩ : MethodName)) ∈ Wt := mW1 (i := 18) rfl rfl
set_option maxRecDepth 20000 in
theorem mw_1_19 : (Cond.instanceMethod (⟨"java/lang/Object", "<init>", "()V"⟩ : MethodName)) ∈ Wt := mW1 (i := 19) rfl rfl
set_option maxRecDepth 20000 in
theorem mw_1_20 : (Cond.code (⟨"java/lang/Object", "<init>", "()V"⟩ : MethodName) object_method_1_code 1 (Option.none : Option Jvm.ClassFile.FieldType)) ∈ Wt := mW1 (i := 20) rfl rfl
set_option maxRecDepth 20000 in
theorem mw_1_21 : (Cond.classLink "DustRobot" 7 "DustRobot$State") ∈ Wt := mW1 (i := 21) rfl rfl
set_option maxRecDepth 20000 in
theorem mw_1_22 : (Cond.instantiable "DustRobot$State" 12) ∈ Wt := mW1 (i := 22) rfl rfl
set_option maxRecDepth 20000 in
theorem mw_1_23 : (Cond.methodLink "DustRobot" 9 yX6_init) ∈ Wt := mW1 (i := 23) rfl rfl
set_option maxRecDepth 20000 in
theorem mw_1_24 : (Cond.instanceMethod yX6_init) ∈ Wt := mW1 (i := 24) rfl rfl
set_option maxRecDepth 20000 in
theorem mw_1_25 : (Cond.code yX6_init cX6_init 1 (Option.none : Option Jvm.ClassFile.FieldType)) ∈ Wt := mW1 (i := 25) rfl rfl
set_option maxRecDepth 20000 in
theorem mw_1_26 : (Cond.methodLink "DustRobot$State" 3 (⟨"java/lang/Object", "<init>", "()V"⟩ : MethodName)) ∈ Wt := mW1 (i := 26) rfl rfl
set_option maxRecDepth 20000 in
theorem mw_1_27 : (Cond.classLink "DustRobot$State" 9 "DustRobot$Store") ∈ Wt := mW1 (i := 27) rfl rfl
set_option maxRecDepth 20000 in
theorem mw_1_28 : (Cond.instantiable "DustRobot$Store" 4) ∈ Wt := mW1 (i := 28) rfl rfl
set_option maxRecDepth 20000 in
theorem mw_1_29 : (Cond.methodLink "DustRobot$State" 11 yX7_init) ∈ Wt := mW1 (i := 29) rfl rfl
set_option maxRecDepth 20000 in
theorem mw_1_30 : (Cond.instanceMethod yX7_init) ∈ Wt := mW1 (i := 30) rfl rfl
set_option maxRecDepth 20000 in
theorem mw_1_31 : (Cond.code yX7_init cX7_init 2 (Option.none : Option Jvm.ClassFile.FieldType)) ∈ Wt := mW1 (i := 31) rfl rfl
set_option maxRecDepth 20000 in
theorem mw_1_32 : (Cond.methodLink "DustRobot$Store" 3 (⟨"java/lang/Object", "<init>", "()V"⟩ : MethodName)) ∈ Wt := mW1 (i := 32) rfl rfl
set_option maxRecDepth 20000 in
theorem mw_1_33 : (Cond.classLink "DustRobot$Store" 9 "DustRobot$Item") ∈ Wt := mW1 (i := 33) rfl rfl
set_option maxRecDepth 20000 in
theorem mw_1_35 : (Cond.instantiable "DustRobot$Item" 8) ∈ Wt := mW1 (i := 35) rfl rfl
set_option maxRecDepth 20000 in
theorem mw_1_36 : (Cond.methodLink "DustRobot$Store" 17 yX2_init) ∈ Wt := mW1 (i := 36) rfl rfl
set_option maxRecDepth 20000 in
theorem mw_1_37 : (Cond.instanceMethod yX2_init) ∈ Wt := mW1 (i := 37) rfl rfl
set_option maxRecDepth 20000 in
theorem mw_1_38 : (Cond.code yX2_init cX2_init 1 (Option.none : Option Jvm.ClassFile.FieldType)) ∈ Wt := mW1 (i := 38) rfl rfl
set_option maxRecDepth 20000 in
theorem mw_1_39 : (Cond.methodLink "DustRobot$Item" 3 (⟨"java/lang/Object", "<init>", "()V"⟩ : MethodName)) ∈ Wt := mW1 (i := 39) rfl rfl
set_option maxRecDepth 20000 in
theorem mw_1_40 : (Cond.fieldLink "DustRobot$Item" 15 "DustRobot$Item" "isCleaner" "Z") ∈ Wt := mW1 (i := 40) rfl rfl
set_option maxRecDepth 20000 in
theorem mw_1_41 : (Cond.fieldLink "DustRobot$State" 100 "DustRobot$Item" "isCleaner" "Z") ∈ Wt := mW1 (i := 41) rfl rfl
set_option maxRecDepth 20000 in
theorem mw_1_42 : (Cond.fieldLink "DustRobot" 105 "DustRobot$Item" "isCleaner" "Z") ∈ Wt := mW1 (i := 42) rfl rfl
set_option maxRecDepth 20000 in
theorem mw_1_43 : (Cond.fieldLink "DustRobot$Store" 59 "DustRobot$Item" "isCleaner" "Z") ∈ Wt := mW1 (i := 43) rfl rfl
set_option maxRecDepth 20000 in
theorem mw_1_44 : (Cond.fieldLink "DustRobot$Item" 30 "DustRobot$Item" "home" "I") ∈ Wt := mW1 (i := 44) rfl rfl
set_option maxRecDepth 20000 in
theorem mw_1_45 : (Cond.fieldLink "DustRobot$Store" 39 "DustRobot$Item" "home" "I") ∈ Wt := mW1 (i := 45) rfl rfl
set_option maxRecDepth 20000 in
theorem mw_1_46 : (Cond.fieldLink "DustRobot$State" 201 "DustRobot$Item" "home" "I") ∈ Wt := mW1 (i := 46) rfl rfl
set_option maxRecDepth 20000 in
theorem mw_1_47 : (Cond.fieldLink "DustRobot$Item" 33 "DustRobot$Item" "where" "I") ∈ Wt := mW1 (i := 47) rfl rfl
set_option maxRecDepth 20000 in
theorem mw_1_48 : (Cond.fieldLink "DustRobot$State" 230 "DustRobot$Item" "where" "I") ∈ Wt := mW1 (i := 48) rfl rfl
set_option maxRecDepth 20000 in
theorem mw_1_49 : (Cond.fieldLink "DustRobot$Item" 36 "DustRobot$Item" "drive" "I") ∈ Wt := mW1 (i := 49) rfl rfl
set_option maxRecDepth 20000 in
theorem mw_1_50 : (Cond.fieldLink "DustRobot$State" 233 "DustRobot$Item" "drive" "I") ∈ Wt := mW1 (i := 50) rfl rfl
set_option maxRecDepth 20000 in
theorem mw_1_51 : (Cond.fieldLink "DustRobot$Item" 19 "DustRobot$Item" "amount" "I") ∈ Wt := mW1 (i := 51) rfl rfl
set_option maxRecDepth 20000 in
theorem mw_1_52 : (Cond.fieldLink "DustRobot$Drive" 41 "DustRobot$Item" "amount" "I") ∈ Wt := mW1 (i := 52) rfl rfl
set_option maxRecDepth 20000 in
theorem mw_1_53 : (Cond.fieldLink "DustRobot" 108 "DustRobot$Item" "amount" "I") ∈ Wt := mW1 (i := 53) rfl rfl
set_option maxRecDepth 20000 in
theorem mw_1_54 : (Cond.fieldLink "DustRobot$Store" 63 "DustRobot$Item" "amount" "I") ∈ Wt := mW1 (i := 54) rfl rfl
set_option maxRecDepth 20000 in
theorem mw_1_55 : (Cond.fieldLink "DustRobot$Item" 23 "DustRobot$Item" "frailtyBits" "I") ∈ Wt := mW1 (i := 55) rfl rfl
set_option maxRecDepth 20000 in
theorem mw_1_56 : (Cond.fieldLink "DustRobot$Item" 26 "DustRobot$Item" "frailty" "F") ∈ Wt := mW1 (i := 56) rfl rfl
set_option maxRecDepth 20000 in
theorem mw_1_57 : (Cond.fieldLink "DustRobot$Drive" 35 "DustRobot$Item" "frailty" "F") ∈ Wt := mW1 (i := 57) rfl rfl
set_option maxRecDepth 20000 in
theorem mw_1_58 : (Cond.fieldLink "DustRobot$Item" 39 "DustRobot$Item" "lostReads" "I") ∈ Wt := mW1 (i := 58) rfl rfl
set_option maxRecDepth 20000 in
theorem mw_1_59 : (Cond.fieldLink "DustRobot$Drive" 45 "DustRobot$Item" "lostReads" "I") ∈ Wt := mW1 (i := 59) rfl rfl
set_option maxRecDepth 20000 in
theorem mw_1_60 : (Cond.lays "DustRobot$Item" "DustRobot$Item" "isCleaner" "Z") ∈ Wt := mW1 (i := 60) rfl rfl
set_option maxRecDepth 20000 in
theorem mw_1_62 : (Cond.lays "DustRobot$Item" "DustRobot$Item" "home" "I") ∈ Wt := mW1 (i := 62) rfl rfl
set_option maxRecDepth 20000 in
theorem mw_1_64 : (Cond.lays "DustRobot$Item" "DustRobot$Item" "where" "I") ∈ Wt := mW1 (i := 64) rfl rfl
set_option maxRecDepth 20000 in
theorem mw_1_66 : (Cond.lays "DustRobot$Item" "DustRobot$Item" "drive" "I") ∈ Wt := mW1 (i := 66) rfl rfl
set_option maxRecDepth 20000 in
theorem mw_1_68 : (Cond.lays "DustRobot$Item" "DustRobot$Item" "amount" "I") ∈ Wt := mW1 (i := 68) rfl rfl
set_option maxRecDepth 20000 in
theorem mw_1_70 : (Cond.lays "DustRobot$Item" "DustRobot$Item" "frailtyBits" "I") ∈ Wt := mW1 (i := 70) rfl rfl
set_option maxRecDepth 20000 in
theorem mw_1_72 : (Cond.lays "DustRobot$Item" "DustRobot$Item" "frailty" "F") ∈ Wt := mW1 (i := 72) rfl rfl
set_option maxRecDepth 20000 in
theorem mw_1_74 : (Cond.lays "DustRobot$Item" "DustRobot$Item" "lostReads" "I") ∈ Wt := mW1 (i := 74) rfl rfl
set_option maxRecDepth 20000 in
theorem mw_1_77 : (Cond.classLink "DustRobot$Store" 22 "DustRobot$Drive") ∈ Wt := mW1 (i := 77) rfl rfl
set_option maxRecDepth 20000 in
theorem mw_1_79 : (Cond.instantiable "DustRobot$Drive" 7) ∈ Wt := mW1 (i := 79) rfl rfl
set_option maxRecDepth 20000 in
theorem mw_1_80 : (Cond.methodLink "DustRobot$Store" 28 yX0_init) ∈ Wt := mW1 (i := 80) rfl rfl
set_option maxRecDepth 20000 in
theorem mw_1_81 : (Cond.instanceMethod yX0_init) ∈ Wt := mW1 (i := 81) rfl rfl
set_option maxRecDepth 20000 in
theorem mw_1_82 : (Cond.code yX0_init cX0_init 1 (Option.none : Option Jvm.ClassFile.FieldType)) ∈ Wt := mW1 (i := 82) rfl rfl
set_option maxRecDepth 20000 in
theorem mw_1_83 : (Cond.methodLink "DustRobot$Drive" 3 (⟨"java/lang/Object", "<init>", "()V"⟩ : MethodName)) ∈ Wt := mW1 (i := 83) rfl rfl
set_option maxRecDepth 20000 in
theorem mw_1_84 : (Cond.fieldLink "DustRobot$Drive" 9 "DustRobot$Drive" "slot" "I") ∈ Wt := mW1 (i := 84) rfl rfl
set_option maxRecDepth 20000 in
theorem mw_1_85 : (Cond.fieldLink "DustRobot$Store" 42 "DustRobot$Drive" "slot" "I") ∈ Wt := mW1 (i := 85) rfl rfl
set_option maxRecDepth 20000 in
theorem mw_1_86 : (Cond.fieldLink "DustRobot$State" 216 "DustRobot$Drive" "slot" "I") ∈ Wt := mW1 (i := 86) rfl rfl
set_option maxRecDepth 20000 in
theorem mw_1_87 : (Cond.fieldLink "DustRobot$Drive" 15 "DustRobot$Drive" "dust" "F") ∈ Wt := mW1 (i := 87) rfl rfl
set_option maxRecDepth 20000 in
theorem mw_1_88 : (Cond.fieldLink "DustRobot$Store" 49 "DustRobot$Drive" "dust" "F") ∈ Wt := mW1 (i := 88) rfl rfl
set_option maxRecDepth 20000 in
theorem mw_1_89 : (Cond.fieldLink "DustRobot" 224 "DustRobot$Drive" "dust" "F") ∈ Wt := mW1 (i := 89) rfl rfl
set_option maxRecDepth 20000 in
theorem mw_1_90 : (Cond.fieldLink "DustRobot$Drive" 20 "DustRobot$Drive" "ceiling" "F") ∈ Wt := mW1 (i := 90) rfl rfl
set_option maxRecDepth 20000 in
theorem mw_1_91 : (Cond.fieldLink "DustRobot" 121 "DustRobot$Drive" "ceiling" "F") ∈ Wt := mW1 (i := 91) rfl rfl
set_option maxRecDepth 20000 in
theorem mw_1_92 : (Cond.fieldLink "DustRobot$Drive" 23 "DustRobot$Drive" "reads" "I") ∈ Wt := mW1 (i := 92) rfl rfl
set_option maxRecDepth 20000 in
theorem mw_1_93 : (Cond.fieldLink "DustRobot$Drive" 26 "DustRobot$Drive" "lostReads" "I") ∈ Wt := mW1 (i := 93) rfl rfl
set_option maxRecDepth 20000 in
theorem mw_1_94 : (Cond.fieldLink "DustRobot$Drive" 29 "DustRobot$Drive" "cleanings" "I") ∈ Wt := mW1 (i := 94) rfl rfl
set_option maxRecDepth 20000 in
theorem mw_1_95 : (Cond.fieldLink "DustRobot$Drive" 32 "DustRobot$Drive" "loaded" "I") ∈ Wt := mW1 (i := 95) rfl rfl
set_option maxRecDepth 20000 in
theorem mw_1_96 : (Cond.fieldLink "DustRobot$State" 234 "DustRobot$Drive" "loaded" "I") ∈ Wt := mW1 (i := 96) rfl rfl
set_option maxRecDepth 20000 in
theorem mw_1_97 : (Cond.lays "DustRobot$Drive" "DustRobot$Drive" "slot" "I") ∈ Wt := mW1 (i := 97) rfl rfl
set_option maxRecDepth 20000 in
theorem mw_1_99 : (Cond.lays "DustRobot$Drive" "DustRobot$Drive" "dust" "F") ∈ Wt := mW1 (i := 99) rfl rfl
set_option maxRecDepth 20000 in
theorem mw_1_101 : (Cond.lays "DustRobot$Drive" "DustRobot$Drive" "ceiling" "F") ∈ Wt := mW1 (i := 101) rfl rfl
set_option maxRecDepth 20000 in
theorem mw_1_103 : (Cond.lays "DustRobot$Drive" "DustRobot$Drive" "reads" "I") ∈ Wt := mW1 (i := 103) rfl rfl
set_option maxRecDepth 20000 in
theorem mw_1_105 : (Cond.lays "DustRobot$Drive" "DustRobot$Drive" "lostReads" "I") ∈ Wt := mW1 (i := 105) rfl rfl
set_option maxRecDepth 20000 in
theorem mw_1_107 : (Cond.lays "DustRobot$Drive" "DustRobot$Drive" "cleanings" "I") ∈ Wt := mW1 (i := 107) rfl rfl
set_option maxRecDepth 20000 in
theorem mw_1_109 : (Cond.lays "DustRobot$Drive" "DustRobot$Drive" "loaded" "I") ∈ Wt := mW1 (i := 109) rfl rfl
set_option maxRecDepth 20000 in
theorem mw_1_112 : (Cond.fieldLink "DustRobot$Store" 11 "DustRobot$Store" "items" "[LDustRobot$Item;") ∈ Wt := mW1 (i := 112) rfl rfl
set_option maxRecDepth 20000 in
theorem mw_1_113 : (Cond.fieldLink "DustRobot$Store" 18 "DustRobot$Store" "itemCount" "I") ∈ Wt := mW1 (i := 113) rfl rfl
set_option maxRecDepth 20000 in
theorem mw_1_114 : (Cond.fieldLink "DustRobot" 94 "DustRobot$Store" "itemCount" "I") ∈ Wt := mW1 (i := 114) rfl rfl
set_option maxRecDepth 20000 in
theorem mw_1_115 : (Cond.fieldLink "DustRobot$Store" 24 "DustRobot$Store" "drives" "[LDustRobot$Drive;") ∈ Wt := mW1 (i := 115) rfl rfl
set_option maxRecDepth 20000 in
theorem mw_1_116 : (Cond.fieldLink "DustRobot$Store" 29 "DustRobot$Store" "driveCount" "I") ∈ Wt := mW1 (i := 116) rfl rfl
set_option maxRecDepth 20000 in
theorem mw_1_117 : (Cond.fieldLink "DustRobot" 68 "DustRobot$Store" "driveCount" "I") ∈ Wt := mW1 (i := 117) rfl rfl
set_option maxRecDepth 20000 in
theorem mw_1_118 : (Cond.laysFinal "DustRobot$Store" "DustRobot$Store" "items" "[LDustRobot$Item;") ∈ Wt := mW1 (i := 118) rfl rfl
set_option maxRecDepth 20000 in
theorem mw_1_120 : (Cond.lays "DustRobot$Store" "DustRobot$Store" "itemCount" "I") ∈ Wt := mW1 (i := 120) rfl rfl
set_option maxRecDepth 20000 in
theorem mw_1_122 : (Cond.laysFinal "DustRobot$Store" "DustRobot$Store" "drives" "[LDustRobot$Drive;") ∈ Wt := mW1 (i := 122) rfl rfl
set_option maxRecDepth 20000 in
theorem mw_1_124 : (Cond.lays "DustRobot$Store" "DustRobot$Store" "driveCount" "I") ∈ Wt := mW1 (i := 124) rfl rfl
set_option maxRecDepth 20000 in
theorem mw_1_127 : (Cond.classLink "DustRobot$State" 18 "DustRobot$Queue") ∈ Wt := mW1 (i := 127) rfl rfl
set_option maxRecDepth 20000 in
theorem mw_1_128 : (Cond.instantiable "DustRobot$Queue" 4) ∈ Wt := mW1 (i := 128) rfl rfl
set_option maxRecDepth 20000 in
theorem mw_1_129 : (Cond.methodLink "DustRobot$State" 20 yX5_init) ∈ Wt := mW1 (i := 129) rfl rfl
set_option maxRecDepth 20000 in
theorem mw_1_130 : (Cond.instanceMethod yX5_init) ∈ Wt := mW1 (i := 130) rfl rfl
set_option maxRecDepth 20000 in
theorem mw_1_131 : (Cond.code yX5_init cX5_init 2 (Option.none : Option Jvm.ClassFile.FieldType)) ∈ Wt := mW1 (i := 131) rfl rfl
set_option maxRecDepth 20000 in
theorem mw_1_132 : (Cond.methodLink "DustRobot$Queue" 3 (⟨"java/lang/Object", "<init>", "()V"⟩ : MethodName)) ∈ Wt := mW1 (i := 132) rfl rfl
set_option maxRecDepth 20000 in
theorem mw_1_133 : (Cond.classLink "DustRobot$Queue" 9 "DustRobot$Job") ∈ Wt := mW1 (i := 133) rfl rfl
set_option maxRecDepth 20000 in
theorem mw_1_135 : (Cond.instantiable "DustRobot$Job" 13) ∈ Wt := mW1 (i := 135) rfl rfl
set_option maxRecDepth 20000 in
theorem mw_1_136 : (Cond.methodLink "DustRobot$Queue" 17 yX3_init) ∈ Wt := mW1 (i := 136) rfl rfl
set_option maxRecDepth 20000 in
theorem mw_1_137 : (Cond.instanceMethod yX3_init) ∈ Wt := mW1 (i := 137) rfl rfl
set_option maxRecDepth 20000 in
theorem mw_1_138 : (Cond.code yX3_init cX3_init 1 (Option.none : Option Jvm.ClassFile.FieldType)) ∈ Wt := mW1 (i := 138) rfl rfl
set_option maxRecDepth 20000 in
theorem mw_1_139 : (Cond.methodLink "DustRobot$Job" 3 (⟨"java/lang/Object", "<init>", "()V"⟩ : MethodName)) ∈ Wt := mW1 (i := 139) rfl rfl
set_option maxRecDepth 20000 in
theorem mw_1_140 : (Cond.fieldLink "DustRobot$Job" 9 "DustRobot$Job" "kind" "I") ∈ Wt := mW1 (i := 140) rfl rfl
set_option maxRecDepth 20000 in
theorem mw_1_141 : (Cond.fieldLink "DustRobot$State" 76 "DustRobot$Job" "kind" "I") ∈ Wt := mW1 (i := 141) rfl rfl
set_option maxRecDepth 20000 in
theorem mw_1_142 : (Cond.fieldLink "DustRobot$Job" 15 "DustRobot$Job" "target" "I") ∈ Wt := mW1 (i := 142) rfl rfl
set_option maxRecDepth 20000 in
theorem mw_1_143 : (Cond.fieldLink "DustRobot$State" 127 "DustRobot$Job" "target" "I") ∈ Wt := mW1 (i := 143) rfl rfl
set_option maxRecDepth 20000 in
theorem mw_1_144 : (Cond.fieldLink "DustRobot$Job" 18 "DustRobot$Job" "slot" "I") ∈ Wt := mW1 (i := 144) rfl rfl
set_option maxRecDepth 20000 in
theorem mw_1_145 : (Cond.fieldLink "DustRobot$State" 81 "DustRobot$Job" "slot" "I") ∈ Wt := mW1 (i := 145) rfl rfl
set_option maxRecDepth 20000 in
theorem mw_1_146 : (Cond.fieldLink "DustRobot$Job" 21 "DustRobot$Job" "state" "I") ∈ Wt := mW1 (i := 146) rfl rfl
set_option maxRecDepth 20000 in
theorem mw_1_147 : (Cond.fieldLink "DustRobot$State" 113 "DustRobot$Job" "state" "I") ∈ Wt := mW1 (i := 147) rfl rfl
set_option maxRecDepth 20000 in
theorem mw_1_148 : (Cond.fieldLink "DustRobot$Queue" 36 "DustRobot$Job" "state" "I") ∈ Wt := mW1 (i := 148) rfl rfl
set_option maxRecDepth 20000 in
theorem mw_1_149 : (Cond.fieldLink "DustRobot" 145 "DustRobot$Job" "state" "I") ∈ Wt := mW1 (i := 149) rfl rfl
set_option maxRecDepth 20000 in
theorem mw_1_150 : (Cond.fieldLink "DustRobot$Job" 24 "DustRobot$Job" "began" "I") ∈ Wt := mW1 (i := 150) rfl rfl
set_option maxRecDepth 20000 in
theorem mw_1_151 : (Cond.fieldLink "DustRobot$State" 174 "DustRobot$Job" "began" "I") ∈ Wt := mW1 (i := 151) rfl rfl
set_option maxRecDepth 20000 in
theorem mw_1_152 : (Cond.fieldLink "DustRobot$Job" 27 "DustRobot$Job" "ended" "I") ∈ Wt := mW1 (i := 152) rfl rfl
set_option maxRecDepth 20000 in
theorem mw_1_153 : (Cond.fieldLink "DustRobot" 156 "DustRobot$Job" "ended" "I") ∈ Wt := mW1 (i := 153) rfl rfl
set_option maxRecDepth 20000 in
theorem mw_1_154 : (Cond.fieldLink "DustRobot$State" 253 "DustRobot$Job" "ended" "I") ∈ Wt := mW1 (i := 154) rfl rfl
set_option maxRecDepth 20000 in
theorem mw_1_155 : (Cond.fieldLink "DustRobot$Job" 30 "DustRobot$Job" "step" "I") ∈ Wt := mW1 (i := 155) rfl rfl
set_option maxRecDepth 20000 in
theorem mw_1_156 : (Cond.fieldLink "DustRobot$State" 198 "DustRobot$Job" "step" "I") ∈ Wt := mW1 (i := 156) rfl rfl
set_option maxRecDepth 20000 in
theorem mw_1_157 : (Cond.fieldLink "DustRobot$Job" 33 "DustRobot$Job" "drive" "I") ∈ Wt := mW1 (i := 157) rfl rfl
set_option maxRecDepth 20000 in
theorem mw_1_158 : (Cond.fieldLink "DustRobot$State" 177 "DustRobot$Job" "drive" "I") ∈ Wt := mW1 (i := 158) rfl rfl
set_option maxRecDepth 20000 in
theorem mw_1_159 : (Cond.fieldLink "DustRobot$Job" 36 "DustRobot$Job" "cleaner" "I") ∈ Wt := mW1 (i := 159) rfl rfl
set_option maxRecDepth 20000 in
theorem mw_1_160 : (Cond.fieldLink "DustRobot$State" 180 "DustRobot$Job" "cleaner" "I") ∈ Wt := mW1 (i := 160) rfl rfl
set_option maxRecDepth 20000 in
theorem mw_1_161 : (Cond.fieldLink "DustRobot$Job" 39 "DustRobot$Job" "reason" "I") ∈ Wt := mW1 (i := 161) rfl rfl
set_option maxRecDepth 20000 in
theorem mw_1_162 : (Cond.fieldLink "DustRobot$State" 237 "DustRobot$Job" "reason" "I") ∈ Wt := mW1 (i := 162) rfl rfl
set_option maxRecDepth 20000 in
theorem mw_1_163 : (Cond.fieldLink "DustRobot$Job" 42 "DustRobot$Job" "pleas" "I") ∈ Wt := mW1 (i := 163) rfl rfl
set_option maxRecDepth 20000 in
theorem mw_1_164 : (Cond.fieldLink "DustRobot$State" 229 "DustRobot$Job" "pleas" "I") ∈ Wt := mW1 (i := 164) rfl rfl
set_option maxRecDepth 20000 in
theorem mw_1_165 : (Cond.fieldLink "DustRobot$Job" 45 "DustRobot$Job" "until" "I") ∈ Wt := mW1 (i := 165) rfl rfl
set_option maxRecDepth 20000 in
theorem mw_1_166 : (Cond.fieldLink "DustRobot$State" 120 "DustRobot$Job" "until" "I") ∈ Wt := mW1 (i := 166) rfl rfl
set_option maxRecDepth 20000 in
theorem mw_1_167 : (Cond.fieldLink "DustRobot" 150 "DustRobot$Job" "until" "I") ∈ Wt := mW1 (i := 167) rfl rfl
set_option maxRecDepth 20000 in
theorem mw_1_168 : (Cond.fieldLink "DustRobot$Job" 48 "DustRobot$Job" "lostReads" "I") ∈ Wt := mW1 (i := 168) rfl rfl
set_option maxRecDepth 20000 in
theorem mw_1_169 : (Cond.fieldLink "DustRobot$State" 243 "DustRobot$Job" "lostReads" "I") ∈ Wt := mW1 (i := 169) rfl rfl
set_option maxRecDepth 20000 in
theorem mw_1_170 : (Cond.lays "DustRobot$Job" "DustRobot$Job" "kind" "I") ∈ Wt := mW1 (i := 170) rfl rfl
set_option maxRecDepth 20000 in
theorem mw_1_172 : (Cond.lays "DustRobot$Job" "DustRobot$Job" "target" "I") ∈ Wt := mW1 (i := 172) rfl rfl
set_option maxRecDepth 20000 in
theorem mw_1_174 : (Cond.lays "DustRobot$Job" "DustRobot$Job" "slot" "I") ∈ Wt := mW1 (i := 174) rfl rfl
set_option maxRecDepth 20000 in
theorem mw_1_176 : (Cond.lays "DustRobot$Job" "DustRobot$Job" "state" "I") ∈ Wt := mW1 (i := 176) rfl rfl
set_option maxRecDepth 20000 in
theorem mw_1_178 : (Cond.lays "DustRobot$Job" "DustRobot$Job" "began" "I") ∈ Wt := mW1 (i := 178) rfl rfl
set_option maxRecDepth 20000 in
theorem mw_1_180 : (Cond.lays "DustRobot$Job" "DustRobot$Job" "ended" "I") ∈ Wt := mW1 (i := 180) rfl rfl
set_option maxRecDepth 20000 in
theorem mw_1_182 : (Cond.lays "DustRobot$Job" "DustRobot$Job" "step" "I") ∈ Wt := mW1 (i := 182) rfl rfl
set_option maxRecDepth 20000 in
theorem mw_1_184 : (Cond.lays "DustRobot$Job" "DustRobot$Job" "drive" "I") ∈ Wt := mW1 (i := 184) rfl rfl
set_option maxRecDepth 20000 in
theorem mw_1_186 : (Cond.lays "DustRobot$Job" "DustRobot$Job" "cleaner" "I") ∈ Wt := mW1 (i := 186) rfl rfl
set_option maxRecDepth 20000 in
theorem mw_1_188 : (Cond.lays "DustRobot$Job" "DustRobot$Job" "reason" "I") ∈ Wt := mW1 (i := 188) rfl rfl
set_option maxRecDepth 20000 in
theorem mw_1_190 : (Cond.lays "DustRobot$Job" "DustRobot$Job" "pleas" "I") ∈ Wt := mW1 (i := 190) rfl rfl
set_option maxRecDepth 20000 in
theorem mw_1_192 : (Cond.lays "DustRobot$Job" "DustRobot$Job" "until" "I") ∈ Wt := mW1 (i := 192) rfl rfl
set_option maxRecDepth 20000 in
theorem mw_1_194 : (Cond.lays "DustRobot$Job" "DustRobot$Job" "lostReads" "I") ∈ Wt := mW1 (i := 194) rfl rfl
set_option maxRecDepth 20000 in
theorem mw_1_197 : (Cond.fieldLink "DustRobot$Queue" 11 "DustRobot$Queue" "jobs" "[LDustRobot$Job;") ∈ Wt := mW1 (i := 197) rfl rfl
set_option maxRecDepth 20000 in
theorem mw_1_198 : (Cond.fieldLink "DustRobot$State" 109 "DustRobot$Queue" "jobs" "[LDustRobot$Job;") ∈ Wt := mW1 (i := 198) rfl rfl
set_option maxRecDepth 20000 in
theorem mw_1_199 : (Cond.fieldLink "DustRobot$Queue" 18 "DustRobot$Queue" "jobCount" "I") ∈ Wt := mW1 (i := 199) rfl rfl
set_option maxRecDepth 20000 in
theorem mw_1_200 : (Cond.fieldLink "DustRobot$State" 106 "DustRobot$Queue" "jobCount" "I") ∈ Wt := mW1 (i := 200) rfl rfl
set_option maxRecDepth 20000 in
theorem mw_1_201 : (Cond.fieldLink "DustRobot" 196 "DustRobot$Queue" "jobCount" "I") ∈ Wt := mW1 (i := 201) rfl rfl
set_option maxRecDepth 20000 in
theorem mw_1_202 : (Cond.fieldLink "DustRobot$Queue" 22 "DustRobot$Queue" "firstKind" "I") ∈ Wt := mW1 (i := 202) rfl rfl
set_option maxRecDepth 20000 in
theorem mw_1_203 : (Cond.fieldLink "DustRobot$Queue" 25 "DustRobot$Queue" "secondKind" "I") ∈ Wt := mW1 (i := 203) rfl rfl
set_option maxRecDepth 20000 in
theorem mw_1_204 : (Cond.laysFinal "DustRobot$Queue" "DustRobot$Queue" "jobs" "[LDustRobot$Job;") ∈ Wt := mW1 (i := 204) rfl rfl
set_option maxRecDepth 20000 in
theorem mw_1_206 : (Cond.lays "DustRobot$Queue" "DustRobot$Queue" "jobCount" "I") ∈ Wt := mW1 (i := 206) rfl rfl
set_option maxRecDepth 20000 in
theorem mw_1_208 : (Cond.lays "DustRobot$Queue" "DustRobot$Queue" "firstKind" "I") ∈ Wt := mW1 (i := 208) rfl rfl
set_option maxRecDepth 20000 in
theorem mw_1_210 : (Cond.lays "DustRobot$Queue" "DustRobot$Queue" "secondKind" "I") ∈ Wt := mW1 (i := 210) rfl rfl
set_option maxRecDepth 20000 in
theorem mw_1_213 : (Cond.classLink "DustRobot$State" 25 "DustRobot$Log") ∈ Wt := mW1 (i := 213) rfl rfl
set_option maxRecDepth 20000 in
theorem mw_1_214 : (Cond.instantiable "DustRobot$Log" 6) ∈ Wt := mW1 (i := 214) rfl rfl
set_option maxRecDepth 20000 in
theorem mw_1_215 : (Cond.methodLink "DustRobot$State" 27 yX4_init) ∈ Wt := mW1 (i := 215) rfl rfl
set_option maxRecDepth 20000 in
theorem mw_1_216 : (Cond.instanceMethod yX4_init) ∈ Wt := mW1 (i := 216) rfl rfl
set_option maxRecDepth 20000 in
theorem mw_1_217 : (Cond.code yX4_init cX4_init 1 (Option.none : Option Jvm.ClassFile.FieldType)) ∈ Wt := mW1 (i := 217) rfl rfl
set_option maxRecDepth 20000 in
theorem mw_1_218 : (Cond.methodLink "DustRobot$Log" 3 (⟨"java/lang/Object", "<init>", "()V"⟩ : MethodName)) ∈ Wt := mW1 (i := 218) rfl rfl
set_option maxRecDepth 20000 in
theorem mw_1_219 : (Cond.fieldLink "DustRobot$Log" 9 "DustRobot$Log" "kinds" "[I") ∈ Wt := mW1 (i := 219) rfl rfl
set_option maxRecDepth 20000 in
theorem mw_1_220 : (Cond.fieldLink "DustRobot$Log" 15 "DustRobot$Log" "jobs" "[I") ∈ Wt := mW1 (i := 220) rfl rfl
set_option maxRecDepth 20000 in
theorem mw_1_221 : (Cond.fieldLink "DustRobot$Log" 18 "DustRobot$Log" "drives" "[I") ∈ Wt := mW1 (i := 221) rfl rfl
set_option maxRecDepth 20000 in
theorem mw_1_222 : (Cond.fieldLink "DustRobot$Log" 21 "DustRobot$Log" "ticks" "[I") ∈ Wt := mW1 (i := 222) rfl rfl
set_option maxRecDepth 20000 in
theorem mw_1_223 : (Cond.fieldLink "DustRobot$Log" 24 "DustRobot$Log" "held" "I") ∈ Wt := mW1 (i := 223) rfl rfl
set_option maxRecDepth 20000 in
theorem mw_1_224 : (Cond.fieldLink "DustRobot$Log" 28 "DustRobot$Log" "newest" "I") ∈ Wt := mW1 (i := 224) rfl rfl
set_option maxRecDepth 20000 in
theorem mw_1_225 : (Cond.laysFinal "DustRobot$Log" "DustRobot$Log" "kinds" "[I") ∈ Wt := mW1 (i := 225) rfl rfl
set_option maxRecDepth 20000 in
theorem mw_1_227 : (Cond.laysFinal "DustRobot$Log" "DustRobot$Log" "jobs" "[I") ∈ Wt := mW1 (i := 227) rfl rfl
set_option maxRecDepth 20000 in
theorem mw_1_229 : (Cond.laysFinal "DustRobot$Log" "DustRobot$Log" "drives" "[I") ∈ Wt := mW1 (i := 229) rfl rfl
set_option maxRecDepth 20000 in
theorem mw_1_231 : (Cond.laysFinal "DustRobot$Log" "DustRobot$Log" "ticks" "[I") ∈ Wt := mW1 (i := 231) rfl rfl
set_option maxRecDepth 20000 in
theorem mw_1_233 : (Cond.lays "DustRobot$Log" "DustRobot$Log" "held" "I") ∈ Wt := mW1 (i := 233) rfl rfl
set_option maxRecDepth 20000 in
theorem mw_1_235 : (Cond.lays "DustRobot$Log" "DustRobot$Log" "newest" "I") ∈ Wt := mW1 (i := 235) rfl rfl
set_option maxRecDepth 20000 in
theorem mw_1_238 : (Cond.arrayClass FieldType.int) ∈ Wt := mW1 (i := 238) rfl rfl
set_option maxRecDepth 20000 in
theorem mw_1_239 : (Cond.constantFloat "DustRobot$State" 36 (1101004800 : UInt32)) ∈ Wt := mW1 (i := 239) rfl rfl
set_option maxRecDepth 20000 in
theorem mw_2_0 : (Cond.fieldLink "DustRobot$State" 12 "DustRobot$State" "store" "LDustRobot$Store;") ∈ Wt := mW2 (i := 0) rfl rfl
set_option maxRecDepth 20000 in
theorem mw_2_1 : (Cond.fieldLink "DustRobot" 46 "DustRobot$State" "store" "LDustRobot$Store;") ∈ Wt := mW2 (i := 1) rfl rfl
set_option maxRecDepth 20000 in
theorem mw_2_2 : (Cond.fieldLink "DustRobot$State" 21 "DustRobot$State" "queue" "LDustRobot$Queue;") ∈ Wt := mW2 (i := 2) rfl rfl
set_option maxRecDepth 20000 in
theorem mw_2_3 : (Cond.fieldLink "DustRobot" 124 "DustRobot$State" "queue" "LDustRobot$Queue;") ∈ Wt := mW2 (i := 3) rfl rfl
set_option maxRecDepth 20000 in
theorem mw_2_4 : (Cond.fieldLink "DustRobot$State" 28 "DustRobot$State" "log" "LDustRobot$Log;") ∈ Wt := mW2 (i := 4) rfl rfl
set_option maxRecDepth 20000 in
theorem mw_2_5 : (Cond.fieldLink "DustRobot$State" 32 "DustRobot$State" "meter" "F") ∈ Wt := mW2 (i := 5) rfl rfl
set_option maxRecDepth 20000 in
theorem mw_2_6 : (Cond.fieldLink "DustRobot" 227 "DustRobot$State" "meter" "F") ∈ Wt := mW2 (i := 6) rfl rfl
set_option maxRecDepth 20000 in
theorem mw_2_7 : (Cond.fieldLink "DustRobot$State" 37 "DustRobot$State" "limit" "F") ∈ Wt := mW2 (i := 7) rfl rfl
set_option maxRecDepth 20000 in
theorem mw_2_8 : (Cond.fieldLink "DustRobot" 112 "DustRobot$State" "limit" "F") ∈ Wt := mW2 (i := 8) rfl rfl
set_option maxRecDepth 20000 in
theorem mw_2_9 : (Cond.fieldLink "DustRobot$State" 40 "DustRobot$State" "tick" "I") ∈ Wt := mW2 (i := 9) rfl rfl
set_option maxRecDepth 20000 in
theorem mw_2_10 : (Cond.fieldLink "DustRobot" 153 "DustRobot$State" "tick" "I") ∈ Wt := mW2 (i := 10) rfl rfl
set_option maxRecDepth 20000 in
theorem mw_2_11 : (Cond.fieldLink "DustRobot$State" 44 "DustRobot$State" "place" "I") ∈ Wt := mW2 (i := 11) rfl rfl
set_option maxRecDepth 20000 in
theorem mw_2_12 : (Cond.fieldLink "DustRobot" 257 "DustRobot$State" "place" "I") ∈ Wt := mW2 (i := 12) rfl rfl
set_option maxRecDepth 20000 in
theorem mw_2_13 : (Cond.fieldLink "DustRobot$State" 47 "DustRobot$State" "hand" "I") ∈ Wt := mW2 (i := 13) rfl rfl
set_option maxRecDepth 20000 in
theorem mw_2_14 : (Cond.fieldLink "DustRobot" 260 "DustRobot$State" "hand" "I") ∈ Wt := mW2 (i := 14) rfl rfl
set_option maxRecDepth 20000 in
theorem mw_2_15 : (Cond.fieldLink "DustRobot$State" 50 "DustRobot$State" "ownJob" "I") ∈ Wt := mW2 (i := 15) rfl rfl
set_option maxRecDepth 20000 in
theorem mw_2_16 : (Cond.fieldLink "DustRobot" 263 "DustRobot$State" "ownJob" "I") ∈ Wt := mW2 (i := 16) rfl rfl
set_option maxRecDepth 20000 in
theorem mw_2_17 : (Cond.fieldLink "DustRobot$State" 53 "DustRobot$State" "pleas" "I") ∈ Wt := mW2 (i := 17) rfl rfl
set_option maxRecDepth 20000 in
theorem mw_2_18 : (Cond.fieldLink "DustRobot" 269 "DustRobot$State" "pleas" "I") ∈ Wt := mW2 (i := 18) rfl rfl
set_option maxRecDepth 20000 in
theorem mw_2_19 : (Cond.fieldLink "DustRobot$State" 56 "DustRobot$State" "slotsGone" "I") ∈ Wt := mW2 (i := 19) rfl rfl
set_option maxRecDepth 20000 in
theorem mw_2_20 : (Cond.fieldLink "DustRobot" 270 "DustRobot$State" "slotsGone" "I") ∈ Wt := mW2 (i := 20) rfl rfl
set_option maxRecDepth 20000 in
theorem mw_2_21 : (Cond.fieldLink "DustRobot$State" 59 "DustRobot$State" "idleTicks" "I") ∈ Wt := mW2 (i := 21) rfl rfl
set_option maxRecDepth 20000 in
theorem mw_2_22 : (Cond.fieldLink "DustRobot" 273 "DustRobot$State" "idleTicks" "I") ∈ Wt := mW2 (i := 22) rfl rfl
set_option maxRecDepth 20000 in
theorem mw_2_23 : (Cond.laysFinal "DustRobot$State" "DustRobot$State" "store" "LDustRobot$Store;") ∈ Wt := mW2 (i := 23) rfl rfl
set_option maxRecDepth 20000 in
theorem mw_2_25 : (Cond.laysFinal "DustRobot$State" "DustRobot$State" "queue" "LDustRobot$Queue;") ∈ Wt := mW2 (i := 25) rfl rfl
set_option maxRecDepth 20000 in
theorem mw_2_27 : (Cond.laysFinal "DustRobot$State" "DustRobot$State" "log" "LDustRobot$Log;") ∈ Wt := mW2 (i := 27) rfl rfl
set_option maxRecDepth 20000 in
theorem mw_2_29 : (Cond.lays "DustRobot$State" "DustRobot$State" "meter" "F") ∈ Wt := mW2 (i := 29) rfl rfl
set_option maxRecDepth 20000 in
theorem mw_2_31 : (Cond.lays "DustRobot$State" "DustRobot$State" "limit" "F") ∈ Wt := mW2 (i := 31) rfl rfl
set_option maxRecDepth 20000 in
theorem mw_2_33 : (Cond.lays "DustRobot$State" "DustRobot$State" "tick" "I") ∈ Wt := mW2 (i := 33) rfl rfl
set_option maxRecDepth 20000 in
theorem mw_2_35 : (Cond.lays "DustRobot$State" "DustRobot$State" "place" "I") ∈ Wt := mW2 (i := 35) rfl rfl
set_option maxRecDepth 20000 in
theorem mw_2_37 : (Cond.lays "DustRobot$State" "DustRobot$State" "hand" "I") ∈ Wt := mW2 (i := 37) rfl rfl
set_option maxRecDepth 20000 in
theorem mw_2_39 : (Cond.lays "DustRobot$State" "DustRobot$State" "ownJob" "I") ∈ Wt := mW2 (i := 39) rfl rfl
set_option maxRecDepth 20000 in
theorem mw_2_41 : (Cond.lays "DustRobot$State" "DustRobot$State" "pleas" "I") ∈ Wt := mW2 (i := 41) rfl rfl
set_option maxRecDepth 20000 in
theorem mw_2_43 : (Cond.lays "DustRobot$State" "DustRobot$State" "slotsGone" "I") ∈ Wt := mW2 (i := 43) rfl rfl
set_option maxRecDepth 20000 in
theorem mw_2_45 : (Cond.lays "DustRobot$State" "DustRobot$State" "idleTicks" "I") ∈ Wt := mW2 (i := 45) rfl rfl
set_option maxRecDepth 20000 in
theorem mw_2_48 : (Cond.classLink "DustRobot" 16 "DustRobot$History") ∈ Wt := mW2 (i := 48) rfl rfl
set_option maxRecDepth 20000 in
theorem mw_2_49 : (Cond.instantiable "DustRobot$History" 2) ∈ Wt := mW2 (i := 49) rfl rfl
set_option maxRecDepth 20000 in
theorem mw_2_50 : (Cond.methodLink "DustRobot" 18 yX1_init) ∈ Wt := mW2 (i := 50) rfl rfl
set_option maxRecDepth 20000 in
theorem mw_2_51 : (Cond.instanceMethod yX1_init) ∈ Wt := mW2 (i := 51) rfl rfl
set_option maxRecDepth 20000 in
theorem mw_2_52 : (Cond.code yX1_init cX1_init 2 (Option.none : Option Jvm.ClassFile.FieldType)) ∈ Wt := mW2 (i := 52) rfl rfl
set_option maxRecDepth 20000 in
theorem mw_2_53 : (Cond.methodLink "DustRobot$History" 3 (⟨"java/lang/Object", "<init>", "()V"⟩ : MethodName)) ∈ Wt := mW2 (i := 53) rfl rfl
set_option maxRecDepth 20000 in
theorem mw_2_54 : (Cond.classLink "DustRobot$History" 9 "DustRobot$State") ∈ Wt := mW2 (i := 54) rfl rfl
set_option maxRecDepth 20000 in
theorem mw_2_56 : (Cond.methodLink "DustRobot$History" 17 yX6_init) ∈ Wt := mW2 (i := 56) rfl rfl
set_option maxRecDepth 20000 in
theorem mw_2_57 : (Cond.fieldLink "DustRobot$History" 11 "DustRobot$History" "states" "[LDustRobot$State;") ∈ Wt := mW2 (i := 57) rfl rfl
set_option maxRecDepth 20000 in
theorem mw_2_58 : (Cond.fieldLink "DustRobot$History" 18 "DustRobot$History" "held" "I") ∈ Wt := mW2 (i := 58) rfl rfl
set_option maxRecDepth 20000 in
theorem mw_2_59 : (Cond.fieldLink "DustRobot" 204 "DustRobot$History" "held" "I") ∈ Wt := mW2 (i := 59) rfl rfl
set_option maxRecDepth 20000 in
theorem mw_2_60 : (Cond.laysFinal "DustRobot$History" "DustRobot$History" "states" "[LDustRobot$State;") ∈ Wt := mW2 (i := 60) rfl rfl
set_option maxRecDepth 20000 in
theorem mw_2_62 : (Cond.lays "DustRobot$History" "DustRobot$History" "held" "I") ∈ Wt := mW2 (i := 62) rfl rfl
set_option maxRecDepth 20000 in
theorem mw_2_65 : (Cond.classLink "DustRobot" 33 "DustRobot$Text") ∈ Wt := mW2 (i := 65) rfl rfl
set_option maxRecDepth 20000 in
theorem mw_2_66 : (Cond.instantiable "DustRobot$Text" 7) ∈ Wt := mW2 (i := 66) rfl rfl
set_option maxRecDepth 20000 in
theorem mw_2_67 : (Cond.methodLink "DustRobot" 35 yX8_init) ∈ Wt := mW2 (i := 67) rfl rfl
set_option maxRecDepth 20000 in
theorem mw_2_68 : (Cond.instanceMethod yX8_init) ∈ Wt := mW2 (i := 68) rfl rfl
set_option maxRecDepth 20000 in
theorem mw_2_69 : (Cond.code yX8_init cX8_init 1 (Option.none : Option Jvm.ClassFile.FieldType)) ∈ Wt := mW2 (i := 69) rfl rfl
set_option maxRecDepth 20000 in
theorem mw_2_70 : (Cond.methodLink "DustRobot$Text" 3 (⟨"java/lang/Object", "<init>", "()V"⟩ : MethodName)) ∈ Wt := mW2 (i := 70) rfl rfl
set_option maxRecDepth 20000 in
theorem mw_2_71 : (Cond.fieldLink "DustRobot$Text" 9 "DustRobot$Text" "signs" "[C") ∈ Wt := mW2 (i := 71) rfl rfl
set_option maxRecDepth 20000 in
theorem mw_2_72 : (Cond.fieldLink "DustRobot$Text" 15 "DustRobot$Text" "length" "I") ∈ Wt := mW2 (i := 72) rfl rfl
set_option maxRecDepth 20000 in
theorem mw_2_73 : (Cond.fieldLink "DustRobot" 170 "DustRobot$Text" "length" "I") ∈ Wt := mW2 (i := 73) rfl rfl
set_option maxRecDepth 20000 in
theorem mw_2_74 : (Cond.fieldLink "DustRobot$Text" 19 "DustRobot$Text" "at" "I") ∈ Wt := mW2 (i := 74) rfl rfl
set_option maxRecDepth 20000 in
theorem mw_2_75 : (Cond.fieldLink "DustRobot$Text" 22 "DustRobot$Text" "kinds" "[I") ∈ Wt := mW2 (i := 75) rfl rfl
set_option maxRecDepth 20000 in
theorem mw_2_76 : (Cond.fieldLink "DustRobot$Text" 26 "DustRobot$Text" "targets" "[I") ∈ Wt := mW2 (i := 76) rfl rfl
set_option maxRecDepth 20000 in
theorem mw_2_77 : (Cond.fieldLink "DustRobot$Text" 29 "DustRobot$Text" "slots" "[I") ∈ Wt := mW2 (i := 77) rfl rfl
set_option maxRecDepth 20000 in
theorem mw_2_78 : (Cond.fieldLink "DustRobot$Text" 32 "DustRobot$Text" "jobCount" "I") ∈ Wt := mW2 (i := 78) rfl rfl
set_option maxRecDepth 20000 in
theorem mw_2_79 : (Cond.laysFinal "DustRobot$Text" "DustRobot$Text" "signs" "[C") ∈ Wt := mW2 (i := 79) rfl rfl
set_option maxRecDepth 20000 in
theorem mw_2_81 : (Cond.lays "DustRobot$Text" "DustRobot$Text" "length" "I") ∈ Wt := mW2 (i := 81) rfl rfl
set_option maxRecDepth 20000 in
theorem mw_2_83 : (Cond.lays "DustRobot$Text" "DustRobot$Text" "at" "I") ∈ Wt := mW2 (i := 83) rfl rfl
set_option maxRecDepth 20000 in
theorem mw_2_85 : (Cond.laysFinal "DustRobot$Text" "DustRobot$Text" "kinds" "[I") ∈ Wt := mW2 (i := 85) rfl rfl
set_option maxRecDepth 20000 in
theorem mw_2_87 : (Cond.laysFinal "DustRobot$Text" "DustRobot$Text" "targets" "[I") ∈ Wt := mW2 (i := 87) rfl rfl
set_option maxRecDepth 20000 in
theorem mw_2_89 : (Cond.laysFinal "DustRobot$Text" "DustRobot$Text" "slots" "[I") ∈ Wt := mW2 (i := 89) rfl rfl
set_option maxRecDepth 20000 in
theorem mw_2_91 : (Cond.lays "DustRobot$Text" "DustRobot$Text" "jobCount" "I") ∈ Wt := mW2 (i := 91) rfl rfl
set_option maxRecDepth 20000 in
theorem mw_2_94 : (Cond.arrayClass FieldType.char) ∈ Wt := mW2 (i := 94) rfl rfl
set_option maxRecDepth 20000 in
theorem mw_2_95 : (Cond.fieldLink "DustRobot" 10 "DustRobot" "now" "LDustRobot$State;") ∈ Wt := mW2 (i := 95) rfl rfl
set_option maxRecDepth 20000 in
theorem mw_2_96 : (Cond.fieldLink "DustRobot" 19 "DustRobot" "history" "LDustRobot$History;") ∈ Wt := mW2 (i := 96) rfl rfl
set_option maxRecDepth 20000 in
theorem mw_2_97 : (Cond.fieldLink "DustRobot" 23 "DustRobot" "snapshot" "LDustRobot$State;") ∈ Wt := mW2 (i := 97) rfl rfl
set_option maxRecDepth 20000 in
theorem mw_2_98 : (Cond.fieldLink "DustRobot" 26 "DustRobot" "hasSnapshot" "Z") ∈ Wt := mW2 (i := 98) rfl rfl
set_option maxRecDepth 20000 in
theorem mw_2_99 : (Cond.fieldLink "DustRobot" 30 "DustRobot" "trial" "LDustRobot$State;") ∈ Wt := mW2 (i := 99) rfl rfl
set_option maxRecDepth 20000 in
theorem mw_2_100 : (Cond.fieldLink "DustRobot" 36 "DustRobot" "text" "LDustRobot$Text;") ∈ Wt := mW2 (i := 100) rfl rfl
set_option maxRecDepth 20000 in
theorem mw_2_101 : (Cond.laysFinal "DustRobot" "DustRobot" "now" "LDustRobot$State;") ∈ Wt := mW2 (i := 101) rfl rfl
set_option maxRecDepth 20000 in
theorem mw_2_103 : (Cond.laysFinal "DustRobot" "DustRobot" "history" "LDustRobot$History;") ∈ Wt := mW2 (i := 103) rfl rfl
set_option maxRecDepth 20000 in
theorem mw_2_105 : (Cond.laysFinal "DustRobot" "DustRobot" "snapshot" "LDustRobot$State;") ∈ Wt := mW2 (i := 105) rfl rfl
set_option maxRecDepth 20000 in
theorem mw_2_107 : (Cond.lays "DustRobot" "DustRobot" "hasSnapshot" "Z") ∈ Wt := mW2 (i := 107) rfl rfl
set_option maxRecDepth 20000 in
theorem mw_2_109 : (Cond.laysFinal "DustRobot" "DustRobot" "trial" "LDustRobot$State;") ∈ Wt := mW2 (i := 109) rfl rfl
set_option maxRecDepth 20000 in
theorem mw_2_111 : (Cond.laysFinal "DustRobot" "DustRobot" "text" "LDustRobot$Text;") ∈ Wt := mW2 (i := 111) rfl rfl
set_option maxRecDepth 20000 in
theorem mw_2_114 : (Cond.methodLink "DustRobotLaw" 157 yL_cell) ∈ Wt := mW2 (i := 114) rfl rfl
set_option maxRecDepth 20000 in
theorem mw_2_115 : (Cond.static yL_cell) ∈ Wt := mW2 (i := 115) rfl rfl
set_option maxRecDepth 20000 in
theorem mw_2_116 : (Cond.code yL_cell cL_cell 2 (Option.some FieldType.int)) ∈ Wt := mW2 (i := 116) rfl rfl
set_option maxRecDepth 20000 in
theorem mw_2_117 : (Cond.constant "DustRobotLaw" 7 (1013904223 : Int32)) ∈ Wt := mW2 (i := 117) rfl rfl
set_option maxRecDepth 20000 in
theorem mw_2_118 : (Cond.methodLink "DustRobotLaw" 102 yL_low) ∈ Wt := mW2 (i := 118) rfl rfl
set_option maxRecDepth 20000 in
theorem mw_2_119 : (Cond.static yL_low) ∈ Wt := mW2 (i := 119) rfl rfl
set_option maxRecDepth 20000 in
theorem mw_2_120 : (Cond.code yL_low cL_low 2 (Option.some FieldType.int)) ∈ Wt := mW2 (i := 120) rfl rfl
set_option maxRecDepth 20000 in
theorem mw_2_121 : (Cond.constant "DustRobotLaw" 8 (2147483647 : Int32)) ∈ Wt := mW2 (i := 121) rfl rfl
set_option maxRecDepth 20000 in
theorem mw_2_122 : (Cond.methodLink "DustRobotLaw" 183 yL_areItems) ∈ Wt := mW2 (i := 122) rfl rfl
set_option maxRecDepth 20000 in
theorem mw_2_123 : (Cond.static yL_areItems) ∈ Wt := mW2 (i := 123) rfl rfl
set_option maxRecDepth 20000 in
theorem mw_2_124 : (Cond.code yL_areItems cL_areItems 11 (Option.some FieldType.boolean)) ∈ Wt := mW2 (i := 124) rfl rfl
set_option maxRecDepth 20000 in
theorem mw_2_125 : (Cond.methodLink "DustRobotLaw" 68 yX9_item) ∈ Wt := mW2 (i := 125) rfl rfl
set_option maxRecDepth 20000 in
theorem mw_2_126 : (Cond.instanceMethod yX9_item) ∈ Wt := mW2 (i := 126) rfl rfl
set_option maxRecDepth 20000 in
theorem mw_2_127 : (Cond.selects "DustRobot" yX9_item yX9_item) ∈ Wt := mW2 (i := 127) rfl rfl
set_option maxRecDepth 20000 in
theorem mw_2_128 : (Cond.code yX9_item cX9_item 4 (Option.some FieldType.int)) ∈ Wt := mW2 (i := 128) rfl rfl
set_option maxRecDepth 20000 in
theorem mw_2_129 : (Cond.methodLink "DustRobot" 101 yX7_itemAt) ∈ Wt := mW2 (i := 129) rfl rfl
set_option maxRecDepth 20000 in
theorem mw_2_130 : (Cond.instanceMethod yX7_itemAt) ∈ Wt := mW2 (i := 130) rfl rfl
set_option maxRecDepth 20000 in
theorem mw_2_131 : (Cond.selects "DustRobot$Store" yX7_itemAt yX7_itemAt) ∈ Wt := mW2 (i := 131) rfl rfl
set_option maxRecDepth 20000 in
theorem mw_2_132 : (Cond.code yX7_itemAt cX7_itemAt 2 (Option.some (FieldType.object "DustRobot$Item"))) ∈ Wt := mW2 (i := 132) rfl rfl
set_option maxRecDepth 20000 in
theorem mw_2_133 : (Cond.methodLink "DustRobot" 73 yX9_isFrom) ∈ Wt := mW2 (i := 133) rfl rfl
set_option maxRecDepth 20000 in
theorem mw_2_134 : (Cond.static yX9_isFrom) ∈ Wt := mW2 (i := 134) rfl rfl
set_option maxRecDepth 20000 in
theorem mw_2_135 : (Cond.code yX9_isFrom cX9_isFrom 3 (Option.some FieldType.boolean)) ∈ Wt := mW2 (i := 135) rfl rfl
set_option maxRecDepth 20000 in
theorem mw_2_136 : (Cond.methodLink "DustRobot" 210 yX5_jobsWith) ∈ Wt := mW2 (i := 136) rfl rfl
set_option maxRecDepth 20000 in
theorem mw_2_137 : (Cond.instanceMethod yX5_jobsWith) ∈ Wt := mW2 (i := 137) rfl rfl
set_option maxRecDepth 20000 in
theorem mw_2_138 : (Cond.selects "DustRobot$Queue" yX5_jobsWith yX5_jobsWith) ∈ Wt := mW2 (i := 138) rfl rfl
set_option maxRecDepth 20000 in
theorem mw_2_139 : (Cond.code yX5_jobsWith cX5_jobsWith 5 (Option.some FieldType.int)) ∈ Wt := mW2 (i := 139) rfl rfl
set_option maxRecDepth 20000 in
theorem mw_2_140 : (Cond.methodLink "DustRobot$Queue" 39 yX3_isOpen) ∈ Wt := mW2 (i := 140) rfl rfl
set_option maxRecDepth 20000 in
theorem mw_2_141 : (Cond.instanceMethod yX3_isOpen) ∈ Wt := mW2 (i := 141) rfl rfl
set_option maxRecDepth 20000 in
theorem mw_2_142 : (Cond.selects "DustRobot$Job" yX3_isOpen yX3_isOpen) ∈ Wt := mW2 (i := 142) rfl rfl
set_option maxRecDepth 20000 in
theorem mw_2_143 : (Cond.code yX3_isOpen cX3_isOpen 1 (Option.some FieldType.boolean)) ∈ Wt := mW2 (i := 143) rfl rfl
set_option maxRecDepth 20000 in
theorem mw_2_144 : (Cond.methodLink "DustRobot$Queue" 43 yX3_carriedItem) ∈ Wt := mW2 (i := 144) rfl rfl
set_option maxRecDepth 20000 in
theorem mw_2_145 : (Cond.instanceMethod yX3_carriedItem) ∈ Wt := mW2 (i := 145) rfl rfl
set_option maxRecDepth 20000 in
theorem mw_2_146 : (Cond.selects "DustRobot$Job" yX3_carriedItem yX3_carriedItem) ∈ Wt := mW2 (i := 146) rfl rfl
set_option maxRecDepth 20000 in
theorem mw_2_147 : (Cond.code yX3_carriedItem cX3_carriedItem 1 (Option.some FieldType.int)) ∈ Wt := mW2 (i := 147) rfl rfl
set_option maxRecDepth 20000 in
theorem mw_2_148 : (Cond.methodLink "DustRobot" 213 yX2_tell) ∈ Wt := mW2 (i := 148) rfl rfl
set_option maxRecDepth 20000 in
theorem mw_2_149 : (Cond.instanceMethod yX2_tell) ∈ Wt := mW2 (i := 149) rfl rfl
set_option maxRecDepth 20000 in
theorem mw_2_150 : (Cond.selects "DustRobot$Item" yX2_tell yX2_tell) ∈ Wt := mW2 (i := 150) rfl rfl
set_option maxRecDepth 20000 in
theorem mw_2_151 : (Cond.code yX2_tell cX2_tell 2 (Option.some FieldType.int)) ∈ Wt := mW2 (i := 151) rfl rfl
set_option maxRecDepth 20000 in
theorem mw_2_152 : (Cond.methodLink "DustRobotLaw" 73 yL_bits) ∈ Wt := mW2 (i := 152) rfl rfl
set_option maxRecDepth 20000 in
theorem mw_2_153 : (Cond.static yL_bits) ∈ Wt := mW2 (i := 153) rfl rfl
set_option maxRecDepth 20000 in
theorem mw_2_154 : (Cond.code yL_bits cL_bits 2 (Option.some FieldType.int)) ∈ Wt := mW2 (i := 154) rfl rfl
set_option maxRecDepth 20000 in
theorem mw_2_155 : (Cond.methodLink "DustRobotLaw" 77 yX9_homeOf) ∈ Wt := mW2 (i := 155) rfl rfl
set_option maxRecDepth 20000 in
theorem mw_2_156 : (Cond.instanceMethod yX9_homeOf) ∈ Wt := mW2 (i := 156) rfl rfl
set_option maxRecDepth 20000 in
theorem mw_2_157 : (Cond.selects "DustRobot" yX9_homeOf yX9_homeOf) ∈ Wt := mW2 (i := 157) rfl rfl
set_option maxRecDepth 20000 in
theorem mw_2_158 : (Cond.code yX9_homeOf cX9_homeOf 2 (Option.some FieldType.int)) ∈ Wt := mW2 (i := 158) rfl rfl
set_option maxRecDepth 20000 in
theorem mw_2_159 : (Cond.methodLink "DustRobot" 40 yX7_hasSlot) ∈ Wt := mW2 (i := 159) rfl rfl
set_option maxRecDepth 20000 in
theorem mw_2_160 : (Cond.static yX7_hasSlot) ∈ Wt := mW2 (i := 160) rfl rfl
set_option maxRecDepth 20000 in
theorem mw_2_161 : (Cond.code yX7_hasSlot cX7_hasSlot 1 (Option.some FieldType.boolean)) ∈ Wt := mW2 (i := 161) rfl rfl
set_option maxRecDepth 20000 in
theorem mw_2_162 : (Cond.methodLink "DustRobot" 216 yX7_itemWithHome) ∈ Wt := mW2 (i := 162) rfl rfl
set_option maxRecDepth 20000 in
theorem mw_2_163 : (Cond.instanceMethod yX7_itemWithHome) ∈ Wt := mW2 (i := 163) rfl rfl
set_option maxRecDepth 20000 in
theorem mw_2_164 : (Cond.selects "DustRobot$Store" yX7_itemWithHome yX7_itemWithHome) ∈ Wt := mW2 (i := 164) rfl rfl
set_option maxRecDepth 20000 in
theorem mw_2_165 : (Cond.code yX7_itemWithHome cX7_itemWithHome 3 (Option.some FieldType.int)) ∈ Wt := mW2 (i := 165) rfl rfl
set_option maxRecDepth 20000 in
theorem mw_2_166 : (Cond.methodLink "DustRobotLaw" 187 yL_areDrives) ∈ Wt := mW2 (i := 166) rfl rfl
set_option maxRecDepth 20000 in
theorem mw_2_167 : (Cond.static yL_areDrives) ∈ Wt := mW2 (i := 167) rfl rfl
set_option maxRecDepth 20000 in
theorem mw_2_168 : (Cond.code yL_areDrives cL_areDrives 6 (Option.some FieldType.boolean)) ∈ Wt := mW2 (i := 168) rfl rfl
set_option maxRecDepth 20000 in
theorem mw_2_169 : (Cond.methodLink "DustRobotLaw" 80 yX9_drive) ∈ Wt := mW2 (i := 169) rfl rfl
set_option maxRecDepth 20000 in
theorem mw_2_170 : (Cond.instanceMethod yX9_drive) ∈ Wt := mW2 (i := 170) rfl rfl
set_option maxRecDepth 20000 in
theorem mw_2_171 : (Cond.selects "DustRobot" yX9_drive yX9_drive) ∈ Wt := mW2 (i := 171) rfl rfl
set_option maxRecDepth 20000 in
theorem mw_2_172 : (Cond.code yX9_drive cX9_drive 4 (Option.some FieldType.int)) ∈ Wt := mW2 (i := 172) rfl rfl
set_option maxRecDepth 20000 in
theorem mw_2_173 : (Cond.methodLink "DustRobot" 116 yX7_driveAt) ∈ Wt := mW2 (i := 173) rfl rfl
set_option maxRecDepth 20000 in
theorem mw_2_174 : (Cond.instanceMethod yX7_driveAt) ∈ Wt := mW2 (i := 174) rfl rfl
set_option maxRecDepth 20000 in
theorem mw_2_175 : (Cond.selects "DustRobot$Store" yX7_driveAt yX7_driveAt) ∈ Wt := mW2 (i := 175) rfl rfl
set_option maxRecDepth 20000 in
theorem mw_2_176 : (Cond.code yX7_driveAt cX7_driveAt 2 (Option.some (FieldType.object "DustRobot$Drive"))) ∈ Wt := mW2 (i := 176) rfl rfl
set_option maxRecDepth 20000 in
theorem mw_2_177 : (Cond.methodLink "DustRobot" 219 yX0_tell) ∈ Wt := mW2 (i := 177) rfl rfl
set_option maxRecDepth 20000 in
theorem mw_2_178 : (Cond.instanceMethod yX0_tell) ∈ Wt := mW2 (i := 178) rfl rfl
set_option maxRecDepth 20000 in
theorem mw_2_179 : (Cond.selects "DustRobot$Drive" yX0_tell yX0_tell) ∈ Wt := mW2 (i := 179) rfl rfl
set_option maxRecDepth 20000 in
theorem mw_2_180 : (Cond.code yX0_tell cX0_tell 2 (Option.some FieldType.int)) ∈ Wt := mW2 (i := 180) rfl rfl
set_option maxRecDepth 20000 in
theorem mw_2_181 : (Cond.methodLink "DustRobot$Drive" 46 yX0_isTooDusty) ∈ Wt := mW2 (i := 181) rfl rfl
set_option maxRecDepth 20000 in
theorem mw_2_182 : (Cond.instanceMethod yX0_isTooDusty) ∈ Wt := mW2 (i := 182) rfl rfl
set_option maxRecDepth 20000 in
theorem mw_2_183 : (Cond.selects "DustRobot$Drive" yX0_isTooDusty yX0_isTooDusty) ∈ Wt := mW2 (i := 183) rfl rfl
set_option maxRecDepth 20000 in
theorem mw_2_184 : (Cond.code yX0_isTooDusty cX0_isTooDusty 1 (Option.some FieldType.boolean)) ∈ Wt := mW2 (i := 184) rfl rfl
set_option maxRecDepth 20000 in
theorem mw_2_185 : (Cond.methodLink "DustRobotLaw" 9 yL_isDusty) ∈ Wt := mW2 (i := 185) rfl rfl
set_option maxRecDepth 20000 in
theorem mw_2_186 : (Cond.static yL_isDusty) ∈ Wt := mW2 (i := 186) rfl rfl
set_option maxRecDepth 20000 in
theorem mw_2_187 : (Cond.code yL_isDusty cL_isDusty 2 (Option.some FieldType.boolean)) ∈ Wt := mW2 (i := 187) rfl rfl
set_option maxRecDepth 20000 in
theorem mw_2_188 : (Cond.methodLink "DustRobotLaw" 82 yX9_dust) ∈ Wt := mW2 (i := 188) rfl rfl
set_option maxRecDepth 20000 in
theorem mw_2_189 : (Cond.instanceMethod yX9_dust) ∈ Wt := mW2 (i := 189) rfl rfl
set_option maxRecDepth 20000 in
theorem mw_2_190 : (Cond.selects "DustRobot" yX9_dust yX9_dust) ∈ Wt := mW2 (i := 190) rfl rfl
set_option maxRecDepth 20000 in
theorem mw_2_191 : (Cond.code yX9_dust cX9_dust 3 (Option.some FieldType.float)) ∈ Wt := mW2 (i := 191) rfl rfl
set_option maxRecDepth 20000 in
theorem mw_2_192 : (Cond.methodLink "DustRobot" 220 yX9_noNumber) ∈ Wt := mW2 (i := 192) rfl rfl
set_option maxRecDepth 20000 in
theorem mw_2_193 : (Cond.static yX9_noNumber) ∈ Wt := mW2 (i := 193) rfl rfl
set_option maxRecDepth 20000 in
theorem mw_2_194 : (Cond.code yX9_noNumber cX9_noNumber 0 (Option.some FieldType.float)) ∈ Wt := mW2 (i := 194) rfl rfl
set_option maxRecDepth 20000 in
theorem mw_2_195 : (Cond.constantFloat "DustRobot" 282 (2143289344 : UInt32)) ∈ Wt := mW2 (i := 195) rfl rfl
set_option maxRecDepth 20000 in
theorem mw_2_196 : (Cond.methodLink "DustRobotLaw" 86 yX9_ceiling) ∈ Wt := mW2 (i := 196) rfl rfl
set_option maxRecDepth 20000 in
theorem mw_2_197 : (Cond.instanceMethod yX9_ceiling) ∈ Wt := mW2 (i := 197) rfl rfl
set_option maxRecDepth 20000 in
theorem mw_2_198 : (Cond.selects "DustRobot" yX9_ceiling yX9_ceiling) ∈ Wt := mW2 (i := 198) rfl rfl
set_option maxRecDepth 20000 in
theorem mw_2_199 : (Cond.code yX9_ceiling cX9_ceiling 3 (Option.some FieldType.float)) ∈ Wt := mW2 (i := 199) rfl rfl
set_option maxRecDepth 20000 in
theorem mw_2_200 : (Cond.methodLink "DustRobotLaw" 89 yX9_meter) ∈ Wt := mW2 (i := 200) rfl rfl
set_option maxRecDepth 20000 in
theorem mw_2_201 : (Cond.instanceMethod yX9_meter) ∈ Wt := mW2 (i := 201) rfl rfl
set_option maxRecDepth 20000 in
theorem mw_2_202 : (Cond.selects "DustRobot" yX9_meter yX9_meter) ∈ Wt := mW2 (i := 202) rfl rfl
set_option maxRecDepth 20000 in
theorem mw_2_203 : (Cond.code yX9_meter cX9_meter 2 (Option.some FieldType.float)) ∈ Wt := mW2 (i := 203) rfl rfl
set_option maxRecDepth 20000 in
theorem mw_2_204 : (Cond.methodLink "DustRobot" 230 yX7_dustOfAll) ∈ Wt := mW2 (i := 204) rfl rfl
set_option maxRecDepth 20000 in
theorem mw_2_205 : (Cond.instanceMethod yX7_dustOfAll) ∈ Wt := mW2 (i := 205) rfl rfl
set_option maxRecDepth 20000 in
theorem mw_2_206 : (Cond.selects "DustRobot$Store" yX7_dustOfAll yX7_dustOfAll) ∈ Wt := mW2 (i := 206) rfl rfl
set_option maxRecDepth 20000 in
theorem mw_2_207 : (Cond.code yX7_dustOfAll cX7_dustOfAll 3 (Option.some FieldType.float)) ∈ Wt := mW2 (i := 207) rfl rfl
set_option maxRecDepth 20000 in
theorem mw_2_208 : (Cond.methodLink "DustRobotLaw" 191 yL_areJobs) ∈ Wt := mW2 (i := 208) rfl rfl
set_option maxRecDepth 20000 in
theorem mw_2_209 : (Cond.static yL_areJobs) ∈ Wt := mW2 (i := 209) rfl rfl
set_option maxRecDepth 20000 in
theorem mw_2_210 : (Cond.code yL_areJobs cL_areJobs 6 (Option.some FieldType.boolean)) ∈ Wt := mW2 (i := 210) rfl rfl
set_option maxRecDepth 20000 in
theorem mw_2_211 : (Cond.methodLink "DustRobotLaw" 92 yX9_job) ∈ Wt := mW2 (i := 211) rfl rfl
set_option maxRecDepth 20000 in
theorem mw_2_212 : (Cond.instanceMethod yX9_job) ∈ Wt := mW2 (i := 212) rfl rfl
set_option maxRecDepth 20000 in
theorem mw_2_213 : (Cond.selects "DustRobot" yX9_job yX9_job) ∈ Wt := mW2 (i := 213) rfl rfl
set_option maxRecDepth 20000 in
theorem mw_2_214 : (Cond.code yX9_job cX9_job 4 (Option.some FieldType.int)) ∈ Wt := mW2 (i := 214) rfl rfl
set_option maxRecDepth 20000 in
theorem mw_2_215 : (Cond.methodLink "DustRobot" 141 yX5_jobAt) ∈ Wt := mW2 (i := 215) rfl rfl
set_option maxRecDepth 20000 in
theorem mw_2_216 : (Cond.instanceMethod yX5_jobAt) ∈ Wt := mW2 (i := 216) rfl rfl
set_option maxRecDepth 20000 in
theorem mw_2_217 : (Cond.selects "DustRobot$Queue" yX5_jobAt yX5_jobAt) ∈ Wt := mW2 (i := 217) rfl rfl
set_option maxRecDepth 20000 in
theorem mw_2_218 : (Cond.code yX5_jobAt cX5_jobAt 2 (Option.some (FieldType.object "DustRobot$Job"))) ∈ Wt := mW2 (i := 218) rfl rfl
set_option maxRecDepth 20000 in
theorem mw_2_219 : (Cond.methodLink "DustRobot" 233 yX3_tell) ∈ Wt := mW2 (i := 219) rfl rfl
set_option maxRecDepth 20000 in
theorem mw_2_220 : (Cond.instanceMethod yX3_tell) ∈ Wt := mW2 (i := 220) rfl rfl
set_option maxRecDepth 20000 in
theorem mw_2_221 : (Cond.selects "DustRobot$Job" yX3_tell yX3_tell) ∈ Wt := mW2 (i := 221) rfl rfl
set_option maxRecDepth 20000 in
theorem mw_2_222 : (Cond.code yX3_tell cX3_tell 2 (Option.some FieldType.int)) ∈ Wt := mW2 (i := 222) rfl rfl
set_option maxRecDepth 20000 in
theorem mw_2_223 : (Cond.methodLink "DustRobotLaw" 195 yL_areCounts) ∈ Wt := mW2 (i := 223) rfl rfl
set_option maxRecDepth 20000 in
theorem mw_2_224 : (Cond.static yL_areCounts) ∈ Wt := mW2 (i := 224) rfl rfl
set_option maxRecDepth 20000 in
theorem mw_2_225 : (Cond.code yL_areCounts cL_areCounts 9 (Option.some FieldType.boolean)) ∈ Wt := mW2 (i := 225) rfl rfl
set_option maxRecDepth 20000 in
theorem mw_2_226 : (Cond.methodLink "DustRobotLaw" 95 yX9_count) ∈ Wt := mW2 (i := 226) rfl rfl
set_option maxRecDepth 20000 in
theorem mw_2_227 : (Cond.instanceMethod yX9_count) ∈ Wt := mW2 (i := 227) rfl rfl
set_option maxRecDepth 20000 in
theorem mw_2_228 : (Cond.selects "DustRobot" yX9_count yX9_count) ∈ Wt := mW2 (i := 228) rfl rfl
set_option maxRecDepth 20000 in
theorem mw_2_229 : (Cond.code yX9_count cX9_count 2 (Option.some FieldType.int)) ∈ Wt := mW2 (i := 229) rfl rfl
set_option maxRecDepth 20000 in
theorem mw_2_230 : (Cond.methodLink "DustRobot" 159 yX5_jobsInState) ∈ Wt := mW2 (i := 230) rfl rfl
set_option maxRecDepth 20000 in
theorem mw_2_231 : (Cond.instanceMethod yX5_jobsInState) ∈ Wt := mW2 (i := 231) rfl rfl
set_option maxRecDepth 20000 in
theorem mw_2_232 : (Cond.selects "DustRobot$Queue" yX5_jobsInState yX5_jobsInState) ∈ Wt := mW2 (i := 232) rfl rfl
set_option maxRecDepth 20000 in
theorem mw_2_233 : (Cond.code yX5_jobsInState cX5_jobsInState 4 (Option.some FieldType.int)) ∈ Wt := mW2 (i := 233) rfl rfl
set_option maxRecDepth 20000 in
theorem mw_2_234 : (Cond.methodLink "DustRobot" 266 yX7_sumOverDrives) ∈ Wt := mW2 (i := 234) rfl rfl
set_option maxRecDepth 20000 in
theorem mw_2_235 : (Cond.instanceMethod yX7_sumOverDrives) ∈ Wt := mW2 (i := 235) rfl rfl
set_option maxRecDepth 20000 in
theorem mw_2_236 : (Cond.selects "DustRobot$Store" yX7_sumOverDrives yX7_sumOverDrives) ∈ Wt := mW2 (i := 236) rfl rfl
set_option maxRecDepth 20000 in
theorem mw_2_237 : (Cond.code yX7_sumOverDrives cX7_sumOverDrives 4 (Option.some FieldType.int)) ∈ Wt := mW2 (i := 237) rfl rfl
set_option maxRecDepth 20000 in
theorem mw_2_238 : (Cond.methodLink "DustRobot$Store" 66 yX0_tell) ∈ Wt := mW2 (i := 238) rfl rfl
set_option maxRecDepth 20000 in
theorem mw_2_239 : (Cond.methodLink "DustRobot" 276 yX7_usesOfAll) ∈ Wt := mW2 (i := 239) rfl rfl
set_option maxRecDepth 20000 in
theorem mw_3_0 : (Cond.instanceMethod yX7_usesOfAll) ∈ Wt := mW3 (i := 0) rfl rfl
set_option maxRecDepth 20000 in
theorem mw_3_1 : (Cond.selects "DustRobot$Store" yX7_usesOfAll yX7_usesOfAll) ∈ Wt := mW3 (i := 1) rfl rfl
set_option maxRecDepth 20000 in
theorem mw_3_2 : (Cond.code yX7_usesOfAll cX7_usesOfAll 3 (Option.some FieldType.int)) ∈ Wt := mW3 (i := 2) rfl rfl
set_option maxRecDepth 20000 in
theorem mw_3_3 : (Cond.methodLink "DustRobotLaw" 98 yX9_next) ∈ Wt := mW3 (i := 3) rfl rfl
set_option maxRecDepth 20000 in
theorem mw_3_4 : (Cond.instanceMethod yX9_next) ∈ Wt := mW3 (i := 4) rfl rfl
set_option maxRecDepth 20000 in
theorem mw_3_5 : (Cond.selects "DustRobot" yX9_next yX9_next) ∈ Wt := mW3 (i := 5) rfl rfl
set_option maxRecDepth 20000 in
theorem mw_3_6 : (Cond.code yX9_next cX9_next 1 (Option.some FieldType.int)) ∈ Wt := mW3 (i := 6) rfl rfl
set_option maxRecDepth 20000 in
theorem mw_3_7 : (Cond.methodLink "DustRobot" 237 yX6_jobToBegin) ∈ Wt := mW3 (i := 7) rfl rfl
set_option maxRecDepth 20000 in
theorem mw_3_8 : (Cond.instanceMethod yX6_jobToBegin) ∈ Wt := mW3 (i := 8) rfl rfl
set_option maxRecDepth 20000 in
theorem mw_3_9 : (Cond.selects "DustRobot$State" yX6_jobToBegin yX6_jobToBegin) ∈ Wt := mW3 (i := 9) rfl rfl
set_option maxRecDepth 20000 in
theorem mw_3_10 : (Cond.code yX6_jobToBegin cX6_jobToBegin 6 (Option.some FieldType.int)) ∈ Wt := mW3 (i := 10) rfl rfl
set_option maxRecDepth 20000 in
theorem mw_3_11 : (Cond.methodLink "DustRobot$State" 116 yX6_groupOf) ∈ Wt := mW3 (i := 11) rfl rfl
set_option maxRecDepth 20000 in
theorem mw_3_13 : (Cond.instanceMethod yX6_groupOf) ∈ Wt := mW3 (i := 13) rfl rfl
set_option maxRecDepth 20000 in
theorem mw_3_14 : (Cond.code yX6_groupOf cX6_groupOf 3 (Option.some FieldType.int)) ∈ Wt := mW3 (i := 14) rfl rfl
set_option maxRecDepth 20000 in
theorem mw_3_15 : (Cond.methodLink "DustRobot$State" 88 yX7_driveAt) ∈ Wt := mW3 (i := 15) rfl rfl
set_option maxRecDepth 20000 in
theorem mw_3_16 : (Cond.methodLink "DustRobot$State" 130 yX0_isTooDusty) ∈ Wt := mW3 (i := 16) rfl rfl
set_option maxRecDepth 20000 in
theorem mw_3_17 : (Cond.methodLink "DustRobot$State" 136 yX5_rankOf) ∈ Wt := mW3 (i := 17) rfl rfl
set_option maxRecDepth 20000 in
theorem mw_3_18 : (Cond.instanceMethod yX5_rankOf) ∈ Wt := mW3 (i := 18) rfl rfl
set_option maxRecDepth 20000 in
theorem mw_3_19 : (Cond.selects "DustRobot$Queue" yX5_rankOf yX5_rankOf) ∈ Wt := mW3 (i := 19) rfl rfl
set_option maxRecDepth 20000 in
theorem mw_3_20 : (Cond.code yX5_rankOf cX5_rankOf 2 (Option.some FieldType.int)) ∈ Wt := mW3 (i := 20) rfl rfl
set_option maxRecDepth 20000 in
theorem mw_3_21 : (Cond.methodLink "DustRobot$State" 123 yX6_canBegin) ∈ Wt := mW3 (i := 21) rfl rfl
set_option maxRecDepth 20000 in
theorem mw_3_23 : (Cond.instanceMethod yX6_canBegin) ∈ Wt := mW3 (i := 23) rfl rfl
set_option maxRecDepth 20000 in
theorem mw_3_24 : (Cond.code yX6_canBegin cX6_canBegin 3 (Option.some FieldType.boolean)) ∈ Wt := mW3 (i := 24) rfl rfl
set_option maxRecDepth 20000 in
theorem mw_3_25 : (Cond.methodLink "DustRobot$State" 139 yX7_driveToRead) ∈ Wt := mW3 (i := 25) rfl rfl
set_option maxRecDepth 20000 in
theorem mw_3_26 : (Cond.instanceMethod yX7_driveToRead) ∈ Wt := mW3 (i := 26) rfl rfl
set_option maxRecDepth 20000 in
theorem mw_3_27 : (Cond.selects "DustRobot$Store" yX7_driveToRead yX7_driveToRead) ∈ Wt := mW3 (i := 27) rfl rfl
set_option maxRecDepth 20000 in
theorem mw_3_28 : (Cond.code yX7_driveToRead cX7_driveToRead 5 (Option.some FieldType.int)) ∈ Wt := mW3 (i := 28) rfl rfl
set_option maxRecDepth 20000 in
theorem mw_3_29 : (Cond.methodLink "DustRobot$Store" 45 yX0_isTooDusty) ∈ Wt := mW3 (i := 29) rfl rfl
set_option maxRecDepth 20000 in
theorem mw_3_30 : (Cond.methodLink "DustRobot$State" 143 yX7_cleanerNearest) ∈ Wt := mW3 (i := 30) rfl rfl
set_option maxRecDepth 20000 in
theorem mw_3_31 : (Cond.instanceMethod yX7_cleanerNearest) ∈ Wt := mW3 (i := 31) rfl rfl
set_option maxRecDepth 20000 in
theorem mw_3_32 : (Cond.selects "DustRobot$Store" yX7_cleanerNearest yX7_cleanerNearest) ∈ Wt := mW3 (i := 32) rfl rfl
set_option maxRecDepth 20000 in
theorem mw_3_33 : (Cond.code yX7_cleanerNearest cX7_cleanerNearest 7 (Option.some FieldType.int)) ∈ Wt := mW3 (i := 33) rfl rfl
set_option maxRecDepth 20000 in
theorem mw_3_34 : (Cond.methodLink "DustRobot$Store" 53 yJ9_abs_0f7a4) ∈ Wt := mW3 (i := 34) rfl rfl
set_option maxRecDepth 20000 in
theorem mw_3_35 : (Cond.static yJ9_abs_0f7a4) ∈ Wt := mW3 (i := 35) rfl rfl
set_option maxRecDepth 20000 in
theorem mw_3_36 : (Cond.code yJ9_abs_0f7a4 cJ9_abs_0f7a4 1 (Option.some FieldType.int)) ∈ Wt := mW3 (i := 36) rfl rfl
set_option maxRecDepth 20000 in
theorem mw_3_37 : (Cond.methodLink "DustRobot$State" 84 yX7_itemWithHome) ∈ Wt := mW3 (i := 37) rfl rfl
set_option maxRecDepth 20000 in
theorem mw_3_38 : (Cond.methodLink "DustRobotLaw" 59 yL_first) ∈ Wt := mW3 (i := 38) rfl rfl
set_option maxRecDepth 20000 in
theorem mw_3_39 : (Cond.static yL_first) ∈ Wt := mW3 (i := 39) rfl rfl
set_option maxRecDepth 20000 in
theorem mw_3_40 : (Cond.code yL_first cL_first 7 (Option.some FieldType.int)) ∈ Wt := mW3 (i := 40) rfl rfl
set_option maxRecDepth 20000 in
theorem mw_3_41 : (Cond.methodLink "DustRobotLaw" 35 yL_canBegin) ∈ Wt := mW3 (i := 41) rfl rfl
set_option maxRecDepth 20000 in
theorem mw_3_42 : (Cond.static yL_canBegin) ∈ Wt := mW3 (i := 42) rfl rfl
set_option maxRecDepth 20000 in
theorem mw_3_43 : (Cond.code yL_canBegin cL_canBegin 7 (Option.some FieldType.boolean)) ∈ Wt := mW3 (i := 43) rfl rfl
set_option maxRecDepth 20000 in
theorem mw_3_44 : (Cond.methodLink "DustRobotLaw" 23 yL_atHome) ∈ Wt := mW3 (i := 44) rfl rfl
set_option maxRecDepth 20000 in
theorem mw_3_45 : (Cond.static yL_atHome) ∈ Wt := mW3 (i := 45) rfl rfl
set_option maxRecDepth 20000 in
theorem mw_3_46 : (Cond.code yL_atHome cL_atHome 5 (Option.some FieldType.int)) ∈ Wt := mW3 (i := 46) rfl rfl
set_option maxRecDepth 20000 in
theorem mw_3_47 : (Cond.methodLink "DustRobotLaw" 27 yL_drive) ∈ Wt := mW3 (i := 47) rfl rfl
set_option maxRecDepth 20000 in
theorem mw_3_48 : (Cond.static yL_drive) ∈ Wt := mW3 (i := 48) rfl rfl
set_option maxRecDepth 20000 in
theorem mw_3_49 : (Cond.code yL_drive cL_drive 4 (Option.some FieldType.int)) ∈ Wt := mW3 (i := 49) rfl rfl
set_option maxRecDepth 20000 in
theorem mw_3_50 : (Cond.methodLink "DustRobotLaw" 31 yL_cleaner) ∈ Wt := mW3 (i := 50) rfl rfl
set_option maxRecDepth 20000 in
theorem mw_3_51 : (Cond.static yL_cleaner) ∈ Wt := mW3 (i := 51) rfl rfl
set_option maxRecDepth 20000 in
theorem mw_3_52 : (Cond.code yL_cleaner cL_cleaner 5 (Option.some FieldType.int)) ∈ Wt := mW3 (i := 52) rfl rfl
set_option maxRecDepth 20000 in
theorem mw_3_53 : (Cond.methodLink "DustRobotLaw" 19 yL_away) ∈ Wt := mW3 (i := 53) rfl rfl
set_option maxRecDepth 20000 in
theorem mw_3_54 : (Cond.static yL_away) ∈ Wt := mW3 (i := 54) rfl rfl
set_option maxRecDepth 20000 in
theorem mw_3_55 : (Cond.code yL_away cL_away 2 (Option.some FieldType.int)) ∈ Wt := mW3 (i := 55) rfl rfl
set_option maxRecDepth 20000 in
theorem mw_3_56 : (Cond.methodLink "DustRobotLaw" 39 yL_isAhead) ∈ Wt := mW3 (i := 56) rfl rfl
set_option maxRecDepth 20000 in
theorem mw_3_57 : (Cond.static yL_isAhead) ∈ Wt := mW3 (i := 57) rfl rfl
set_option maxRecDepth 20000 in
theorem mw_3_58 : (Cond.code yL_isAhead cL_isAhead 8 (Option.some FieldType.boolean)) ∈ Wt := mW3 (i := 58) rfl rfl
set_option maxRecDepth 20000 in
theorem mw_3_59 : (Cond.methodLink "DustRobotLaw" 15 yL_rank) ∈ Wt := mW3 (i := 59) rfl rfl
set_option maxRecDepth 20000 in
theorem mw_3_60 : (Cond.static yL_rank) ∈ Wt := mW3 (i := 60) rfl rfl
set_option maxRecDepth 20000 in
theorem mw_3_61 : (Cond.code yL_rank cL_rank 2 (Option.some FieldType.int)) ∈ Wt := mW3 (i := 61) rfl rfl
set_option maxRecDepth 20000 in
theorem mw_3_62 : (Cond.methodLink "DustRobotLaw" 172 yL_adds) ∈ Wt := mW3 (i := 62) rfl rfl
set_option maxRecDepth 20000 in
theorem mw_3_63 : (Cond.static yL_adds) ∈ Wt := mW3 (i := 63) rfl rfl
set_option maxRecDepth 20000 in
theorem mw_3_64 : (Cond.code yL_adds cL_adds 10 (Option.some FieldType.boolean)) ∈ Wt := mW3 (i := 64) rfl rfl
set_option maxRecDepth 20000 in
theorem mw_3_65 : (Cond.methodLink "DustRobotLaw" 105 yX9_addTape) ∈ Wt := mW3 (i := 65) rfl rfl
set_option maxRecDepth 20000 in
theorem mw_3_66 : (Cond.instanceMethod yX9_addTape) ∈ Wt := mW3 (i := 66) rfl rfl
set_option maxRecDepth 20000 in
theorem mw_3_67 : (Cond.selects "DustRobot" yX9_addTape yX9_addTape) ∈ Wt := mW3 (i := 67) rfl rfl
set_option maxRecDepth 20000 in
theorem mw_3_68 : (Cond.code yX9_addTape cX9_addTape 4 (Option.some FieldType.int)) ∈ Wt := mW3 (i := 68) rfl rfl
set_option maxRecDepth 20000 in
theorem mw_3_69 : (Cond.constant "DustRobot" 72 (1065353216 : Int32)) ∈ Wt := mW3 (i := 69) rfl rfl
set_option maxRecDepth 20000 in
theorem mw_3_70 : (Cond.methodLink "DustRobot" 77 yX6_isTakenOrAimedAt) ∈ Wt := mW3 (i := 70) rfl rfl
set_option maxRecDepth 20000 in
theorem mw_3_71 : (Cond.instanceMethod yX6_isTakenOrAimedAt) ∈ Wt := mW3 (i := 71) rfl rfl
set_option maxRecDepth 20000 in
theorem mw_3_72 : (Cond.selects "DustRobot$State" yX6_isTakenOrAimedAt yX6_isTakenOrAimedAt) ∈ Wt := mW3 (i := 72) rfl rfl
set_option maxRecDepth 20000 in
theorem mw_3_73 : (Cond.code yX6_isTakenOrAimedAt cX6_isTakenOrAimedAt 4 (Option.some FieldType.boolean)) ∈ Wt := mW3 (i := 73) rfl rfl
set_option maxRecDepth 20000 in
theorem mw_3_74 : (Cond.methodLink "DustRobot$State" 72 yX5_jobAt) ∈ Wt := mW3 (i := 74) rfl rfl
set_option maxRecDepth 20000 in
theorem mw_3_75 : (Cond.methodLink "DustRobot" 80 yX7_freeItem) ∈ Wt := mW3 (i := 75) rfl rfl
set_option maxRecDepth 20000 in
theorem mw_3_76 : (Cond.instanceMethod yX7_freeItem) ∈ Wt := mW3 (i := 76) rfl rfl
set_option maxRecDepth 20000 in
theorem mw_3_77 : (Cond.selects "DustRobot$Store" yX7_freeItem yX7_freeItem) ∈ Wt := mW3 (i := 77) rfl rfl
set_option maxRecDepth 20000 in
theorem mw_3_78 : (Cond.code yX7_freeItem cX7_freeItem 1 (Option.some (FieldType.object "DustRobot$Item"))) ∈ Wt := mW3 (i := 78) rfl rfl
set_option maxRecDepth 20000 in
theorem mw_3_79 : (Cond.methodLink "DustRobot" 58 yX1_record) ∈ Wt := mW3 (i := 79) rfl rfl
set_option maxRecDepth 20000 in
theorem mw_3_80 : (Cond.instanceMethod yX1_record) ∈ Wt := mW3 (i := 80) rfl rfl
set_option maxRecDepth 20000 in
theorem mw_3_81 : (Cond.selects "DustRobot$History" yX1_record yX1_record) ∈ Wt := mW3 (i := 81) rfl rfl
set_option maxRecDepth 20000 in
theorem mw_3_82 : (Cond.code yX1_record cX1_record 2 (Option.none : Option Jvm.ClassFile.FieldType)) ∈ Wt := mW3 (i := 82) rfl rfl
set_option maxRecDepth 20000 in
theorem mw_3_83 : (Cond.methodLink "DustRobot$History" 22 yX1_dropOldest) ∈ Wt := mW3 (i := 83) rfl rfl
set_option maxRecDepth 20000 in
theorem mw_3_85 : (Cond.instanceMethod yX1_dropOldest) ∈ Wt := mW3 (i := 85) rfl rfl
set_option maxRecDepth 20000 in
theorem mw_3_86 : (Cond.code yX1_dropOldest cX1_dropOldest 3 (Option.none : Option Jvm.ClassFile.FieldType)) ∈ Wt := mW3 (i := 86) rfl rfl
set_option maxRecDepth 20000 in
theorem mw_3_87 : (Cond.methodLink "DustRobot$History" 25 yX6_copyFrom) ∈ Wt := mW3 (i := 87) rfl rfl
set_option maxRecDepth 20000 in
theorem mw_3_88 : (Cond.instanceMethod yX6_copyFrom) ∈ Wt := mW3 (i := 88) rfl rfl
set_option maxRecDepth 20000 in
theorem mw_3_89 : (Cond.selects "DustRobot$State" yX6_copyFrom yX6_copyFrom) ∈ Wt := mW3 (i := 89) rfl rfl
set_option maxRecDepth 20000 in
theorem mw_3_90 : (Cond.code yX6_copyFrom cX6_copyFrom 2 (Option.none : Option Jvm.ClassFile.FieldType)) ∈ Wt := mW3 (i := 90) rfl rfl
set_option maxRecDepth 20000 in
theorem mw_3_91 : (Cond.methodLink "DustRobot$State" 62 yX7_copyFrom) ∈ Wt := mW3 (i := 91) rfl rfl
set_option maxRecDepth 20000 in
theorem mw_3_92 : (Cond.instanceMethod yX7_copyFrom) ∈ Wt := mW3 (i := 92) rfl rfl
set_option maxRecDepth 20000 in
theorem mw_3_93 : (Cond.selects "DustRobot$Store" yX7_copyFrom yX7_copyFrom) ∈ Wt := mW3 (i := 93) rfl rfl
set_option maxRecDepth 20000 in
theorem mw_3_94 : (Cond.code yX7_copyFrom cX7_copyFrom 3 (Option.none : Option Jvm.ClassFile.FieldType)) ∈ Wt := mW3 (i := 94) rfl rfl
set_option maxRecDepth 20000 in
theorem mw_3_95 : (Cond.methodLink "DustRobot$Store" 32 yX2_copyFrom) ∈ Wt := mW3 (i := 95) rfl rfl
set_option maxRecDepth 20000 in
theorem mw_3_96 : (Cond.instanceMethod yX2_copyFrom) ∈ Wt := mW3 (i := 96) rfl rfl
set_option maxRecDepth 20000 in
theorem mw_3_97 : (Cond.selects "DustRobot$Item" yX2_copyFrom yX2_copyFrom) ∈ Wt := mW3 (i := 97) rfl rfl
set_option maxRecDepth 20000 in
theorem mw_3_98 : (Cond.code yX2_copyFrom cX2_copyFrom 2 (Option.none : Option Jvm.ClassFile.FieldType)) ∈ Wt := mW3 (i := 98) rfl rfl
set_option maxRecDepth 20000 in
theorem mw_3_99 : (Cond.methodLink "DustRobot$Store" 36 yX0_copyFrom) ∈ Wt := mW3 (i := 99) rfl rfl
set_option maxRecDepth 20000 in
theorem mw_3_100 : (Cond.instanceMethod yX0_copyFrom) ∈ Wt := mW3 (i := 100) rfl rfl
set_option maxRecDepth 20000 in
theorem mw_3_101 : (Cond.selects "DustRobot$Drive" yX0_copyFrom yX0_copyFrom) ∈ Wt := mW3 (i := 101) rfl rfl
set_option maxRecDepth 20000 in
theorem mw_3_102 : (Cond.code yX0_copyFrom cX0_copyFrom 2 (Option.none : Option Jvm.ClassFile.FieldType)) ∈ Wt := mW3 (i := 102) rfl rfl
set_option maxRecDepth 20000 in
theorem mw_3_103 : (Cond.methodLink "DustRobot$State" 66 yX5_copyFrom) ∈ Wt := mW3 (i := 103) rfl rfl
set_option maxRecDepth 20000 in
theorem mw_3_104 : (Cond.instanceMethod yX5_copyFrom) ∈ Wt := mW3 (i := 104) rfl rfl
set_option maxRecDepth 20000 in
theorem mw_3_105 : (Cond.selects "DustRobot$Queue" yX5_copyFrom yX5_copyFrom) ∈ Wt := mW3 (i := 105) rfl rfl
set_option maxRecDepth 20000 in
theorem mw_3_106 : (Cond.code yX5_copyFrom cX5_copyFrom 3 (Option.none : Option Jvm.ClassFile.FieldType)) ∈ Wt := mW3 (i := 106) rfl rfl
set_option maxRecDepth 20000 in
theorem mw_3_107 : (Cond.methodLink "DustRobot$Queue" 28 yX3_copyFrom) ∈ Wt := mW3 (i := 107) rfl rfl
set_option maxRecDepth 20000 in
theorem mw_3_108 : (Cond.instanceMethod yX3_copyFrom) ∈ Wt := mW3 (i := 108) rfl rfl
set_option maxRecDepth 20000 in
theorem mw_3_109 : (Cond.selects "DustRobot$Job" yX3_copyFrom yX3_copyFrom) ∈ Wt := mW3 (i := 109) rfl rfl
set_option maxRecDepth 20000 in
theorem mw_3_110 : (Cond.code yX3_copyFrom cX3_copyFrom 2 (Option.none : Option Jvm.ClassFile.FieldType)) ∈ Wt := mW3 (i := 110) rfl rfl
set_option maxRecDepth 20000 in
theorem mw_3_111 : (Cond.methodLink "DustRobot$State" 69 yX4_copyFrom) ∈ Wt := mW3 (i := 111) rfl rfl
set_option maxRecDepth 20000 in
theorem mw_3_112 : (Cond.instanceMethod yX4_copyFrom) ∈ Wt := mW3 (i := 112) rfl rfl
set_option maxRecDepth 20000 in
theorem mw_3_113 : (Cond.selects "DustRobot$Log" yX4_copyFrom yX4_copyFrom) ∈ Wt := mW3 (i := 113) rfl rfl
set_option maxRecDepth 20000 in
theorem mw_3_114 : (Cond.code yX4_copyFrom cX4_copyFrom 2 (Option.none : Option Jvm.ClassFile.FieldType)) ∈ Wt := mW3 (i := 114) rfl rfl
set_option maxRecDepth 20000 in
theorem mw_3_115 : (Cond.methodLink "DustRobot$Log" 31 (⟨"java/lang/System", "arraycopy", "(Ljava/lang/Object;ILjava/lang/Object;II)V"⟩ : MethodName)) ∈ Wt := mW3 (i := 115) rfl rfl
set_option maxRecDepth 20000 in
theorem mw_3_116 : (Cond.static (⟨"java/lang/System", "arraycopy", "(Ljava/lang/Object;ILjava/lang/Object;II)V"⟩ : MethodName)) ∈ Wt := mW3 (i := 116) rfl rfl
set_option maxRecDepth 20000 in
theorem mw_3_117 : (Cond.native (⟨"java/lang/System", "arraycopy", "(Ljava/lang/Object;ILjava/lang/Object;II)V"⟩ : MethodName)) ∈ Wt := mW3 (i := 117) rfl rfl
set_option maxRecDepth 20000 in
theorem mw_3_118 : (Cond.methodLink "DustRobot" 84 yX9_floatOf) ∈ Wt := mW3 (i := 118) rfl rfl
set_option maxRecDepth 20000 in
theorem mw_3_119 : (Cond.static yX9_floatOf) ∈ Wt := mW3 (i := 119) rfl rfl
set_option maxRecDepth 20000 in
theorem mw_3_120 : (Cond.code yX9_floatOf cX9_floatOf 6 (Option.some FieldType.float)) ∈ Wt := mW3 (i := 120) rfl rfl
set_option maxRecDepth 20000 in
theorem mw_3_121 : (Cond.constant "DustRobot" 279 (8388607 : Int32)) ∈ Wt := mW3 (i := 121) rfl rfl
set_option maxRecDepth 20000 in
theorem mw_3_122 : (Cond.constant "DustRobot" 280 (8388608 : Int32)) ∈ Wt := mW3 (i := 122) rfl rfl
set_option maxRecDepth 20000 in
theorem mw_3_123 : (Cond.constantFloat "DustRobot" 281 (1056964608 : UInt32)) ∈ Wt := mW3 (i := 123) rfl rfl
set_option maxRecDepth 20000 in
theorem mw_3_124 : (Cond.methodLink "DustRobot" 88 yX2_beginTape) ∈ Wt := mW3 (i := 124) rfl rfl
set_option maxRecDepth 20000 in
theorem mw_3_125 : (Cond.instanceMethod yX2_beginTape) ∈ Wt := mW3 (i := 125) rfl rfl
set_option maxRecDepth 20000 in
theorem mw_3_126 : (Cond.selects "DustRobot$Item" yX2_beginTape yX2_beginTape) ∈ Wt := mW3 (i := 126) rfl rfl
set_option maxRecDepth 20000 in
theorem mw_3_127 : (Cond.code yX2_beginTape cX2_beginTape 4 (Option.none : Option Jvm.ClassFile.FieldType)) ∈ Wt := mW3 (i := 127) rfl rfl
set_option maxRecDepth 20000 in
theorem mw_3_128 : (Cond.methodLink "DustRobot$Item" 9 yX2_begin) ∈ Wt := mW3 (i := 128) rfl rfl
set_option maxRecDepth 20000 in
theorem mw_3_130 : (Cond.instanceMethod yX2_begin) ∈ Wt := mW3 (i := 130) rfl rfl
set_option maxRecDepth 20000 in
theorem mw_3_131 : (Cond.code yX2_begin cX2_begin 2 (Option.none : Option Jvm.ClassFile.FieldType)) ∈ Wt := mW3 (i := 131) rfl rfl
set_option maxRecDepth 20000 in
theorem mw_3_132 : (Cond.constant "DustRobotLaw" 108 (-2147483648 : Int32)) ∈ Wt := mW3 (i := 132) rfl rfl
set_option maxRecDepth 20000 in
theorem mw_3_133 : (Cond.methodLink "DustRobotLaw" 109 yX9_addCleaner) ∈ Wt := mW3 (i := 133) rfl rfl
set_option maxRecDepth 20000 in
theorem mw_3_134 : (Cond.instanceMethod yX9_addCleaner) ∈ Wt := mW3 (i := 134) rfl rfl
set_option maxRecDepth 20000 in
theorem mw_3_135 : (Cond.selects "DustRobot" yX9_addCleaner yX9_addCleaner) ∈ Wt := mW3 (i := 135) rfl rfl
set_option maxRecDepth 20000 in
theorem mw_3_136 : (Cond.code yX9_addCleaner cX9_addCleaner 4 (Option.some FieldType.int)) ∈ Wt := mW3 (i := 136) rfl rfl
set_option maxRecDepth 20000 in
theorem mw_3_137 : (Cond.methodLink "DustRobot" 97 yX2_beginCleaner) ∈ Wt := mW3 (i := 137) rfl rfl
set_option maxRecDepth 20000 in
theorem mw_3_138 : (Cond.instanceMethod yX2_beginCleaner) ∈ Wt := mW3 (i := 138) rfl rfl
set_option maxRecDepth 20000 in
theorem mw_3_139 : (Cond.selects "DustRobot$Item" yX2_beginCleaner yX2_beginCleaner) ∈ Wt := mW3 (i := 139) rfl rfl
set_option maxRecDepth 20000 in
theorem mw_3_140 : (Cond.code yX2_beginCleaner cX2_beginCleaner 3 (Option.none : Option Jvm.ClassFile.FieldType)) ∈ Wt := mW3 (i := 140) rfl rfl
set_option maxRecDepth 20000 in
theorem mw_3_141 : (Cond.methodLink "DustRobotLaw" 176 yL_builds) ∈ Wt := mW3 (i := 141) rfl rfl
set_option maxRecDepth 20000 in
theorem mw_3_142 : (Cond.static yL_builds) ∈ Wt := mW3 (i := 142) rfl rfl
set_option maxRecDepth 20000 in
theorem mw_3_143 : (Cond.code yL_builds cL_builds 8 (Option.some FieldType.boolean)) ∈ Wt := mW3 (i := 143) rfl rfl
set_option maxRecDepth 20000 in
theorem mw_3_144 : (Cond.constantDouble "DustRobotLaw" 112 (4620693217682128896 : UInt64)) ∈ Wt := mW3 (i := 144) rfl rfl
set_option maxRecDepth 20000 in
theorem mw_3_145 : (Cond.methodLink "DustRobotLaw" 114 yX9_addDrive) ∈ Wt := mW3 (i := 145) rfl rfl
set_option maxRecDepth 20000 in
theorem mw_3_146 : (Cond.instanceMethod yX9_addDrive) ∈ Wt := mW3 (i := 146) rfl rfl
set_option maxRecDepth 20000 in
theorem mw_3_147 : (Cond.selects "DustRobot" yX9_addDrive yX9_addDrive) ∈ Wt := mW3 (i := 147) rfl rfl
set_option maxRecDepth 20000 in
theorem mw_3_148 : (Cond.code yX9_addDrive cX9_addDrive 3 (Option.some FieldType.int)) ∈ Wt := mW3 (i := 148) rfl rfl
set_option maxRecDepth 20000 in
theorem mw_3_149 : (Cond.methodLink "DustRobot" 50 yX7_driveBeside) ∈ Wt := mW3 (i := 149) rfl rfl
set_option maxRecDepth 20000 in
theorem mw_3_150 : (Cond.instanceMethod yX7_driveBeside) ∈ Wt := mW3 (i := 150) rfl rfl
set_option maxRecDepth 20000 in
theorem mw_3_151 : (Cond.selects "DustRobot$Store" yX7_driveBeside yX7_driveBeside) ∈ Wt := mW3 (i := 151) rfl rfl
set_option maxRecDepth 20000 in
theorem mw_3_152 : (Cond.code yX7_driveBeside cX7_driveBeside 3 (Option.some FieldType.int)) ∈ Wt := mW3 (i := 152) rfl rfl
set_option maxRecDepth 20000 in
theorem mw_3_153 : (Cond.methodLink "DustRobot" 54 yX7_freeDrive) ∈ Wt := mW3 (i := 153) rfl rfl
set_option maxRecDepth 20000 in
theorem mw_3_154 : (Cond.instanceMethod yX7_freeDrive) ∈ Wt := mW3 (i := 154) rfl rfl
set_option maxRecDepth 20000 in
theorem mw_3_155 : (Cond.selects "DustRobot$Store" yX7_freeDrive yX7_freeDrive) ∈ Wt := mW3 (i := 155) rfl rfl
set_option maxRecDepth 20000 in
theorem mw_3_156 : (Cond.code yX7_freeDrive cX7_freeDrive 1 (Option.some (FieldType.object "DustRobot$Drive"))) ∈ Wt := mW3 (i := 156) rfl rfl
set_option maxRecDepth 20000 in
theorem mw_3_157 : (Cond.methodLink "DustRobot" 62 yX0_begin) ∈ Wt := mW3 (i := 157) rfl rfl
set_option maxRecDepth 20000 in
theorem mw_3_158 : (Cond.instanceMethod yX0_begin) ∈ Wt := mW3 (i := 158) rfl rfl
set_option maxRecDepth 20000 in
theorem mw_3_159 : (Cond.selects "DustRobot$Drive" yX0_begin yX0_begin) ∈ Wt := mW3 (i := 159) rfl rfl
set_option maxRecDepth 20000 in
theorem mw_3_160 : (Cond.code yX0_begin cX0_begin 2 (Option.none : Option Jvm.ClassFile.FieldType)) ∈ Wt := mW3 (i := 160) rfl rfl
set_option maxRecDepth 20000 in
theorem mw_3_161 : (Cond.constantFloat "DustRobot$Drive" 19 (1090519040 : UInt32)) ∈ Wt := mW3 (i := 161) rfl rfl
set_option maxRecDepth 20000 in
theorem mw_3_162 : (Cond.methodLink "DustRobotLaw" 168 yL_gives) ∈ Wt := mW3 (i := 162) rfl rfl
set_option maxRecDepth 20000 in
theorem mw_3_163 : (Cond.static yL_gives) ∈ Wt := mW3 (i := 163) rfl rfl
set_option maxRecDepth 20000 in
theorem mw_3_164 : (Cond.code yL_gives cL_gives 12 (Option.some FieldType.boolean)) ∈ Wt := mW3 (i := 164) rfl rfl
set_option maxRecDepth 20000 in
theorem mw_3_165 : (Cond.methodLink "DustRobotLaw" 117 yX9_read) ∈ Wt := mW3 (i := 165) rfl rfl
set_option maxRecDepth 20000 in
theorem mw_3_166 : (Cond.instanceMethod yX9_read) ∈ Wt := mW3 (i := 166) rfl rfl
set_option maxRecDepth 20000 in
theorem mw_3_167 : (Cond.selects "DustRobot" yX9_read yX9_read) ∈ Wt := mW3 (i := 167) rfl rfl
set_option maxRecDepth 20000 in
theorem mw_3_168 : (Cond.code yX9_read cX9_read 2 (Option.some FieldType.int)) ∈ Wt := mW3 (i := 168) rfl rfl
set_option maxRecDepth 20000 in
theorem mw_3_169 : (Cond.methodLink "DustRobot" 137 yX9_giveJob) ∈ Wt := mW3 (i := 169) rfl rfl
set_option maxRecDepth 20000 in
theorem mw_3_171 : (Cond.instanceMethod yX9_giveJob) ∈ Wt := mW3 (i := 171) rfl rfl
set_option maxRecDepth 20000 in
theorem mw_3_172 : (Cond.code yX9_giveJob cX9_giveJob 5 (Option.some FieldType.int)) ∈ Wt := mW3 (i := 172) rfl rfl
set_option maxRecDepth 20000 in
theorem mw_3_173 : (Cond.methodLink "DustRobot" 193 yX6_faultOfJob) ∈ Wt := mW3 (i := 173) rfl rfl
set_option maxRecDepth 20000 in
theorem mw_3_174 : (Cond.instanceMethod yX6_faultOfJob) ∈ Wt := mW3 (i := 174) rfl rfl
set_option maxRecDepth 20000 in
theorem mw_3_175 : (Cond.selects "DustRobot$State" yX6_faultOfJob yX6_faultOfJob) ∈ Wt := mW3 (i := 175) rfl rfl
set_option maxRecDepth 20000 in
theorem mw_3_176 : (Cond.code yX6_faultOfJob cX6_faultOfJob 5 (Option.some FieldType.int)) ∈ Wt := mW3 (i := 176) rfl rfl
set_option maxRecDepth 20000 in
theorem mw_3_177 : (Cond.methodLink "DustRobot$State" 92 yX7_itemAt) ∈ Wt := mW3 (i := 177) rfl rfl
set_option maxRecDepth 20000 in
theorem mw_3_178 : (Cond.methodLink "DustRobot$State" 96 yX7_hasSlot) ∈ Wt := mW3 (i := 178) rfl rfl
set_option maxRecDepth 20000 in
theorem mw_3_179 : (Cond.methodLink "DustRobot" 197 yX5_enter) ∈ Wt := mW3 (i := 179) rfl rfl
set_option maxRecDepth 20000 in
theorem mw_3_180 : (Cond.instanceMethod yX5_enter) ∈ Wt := mW3 (i := 180) rfl rfl
set_option maxRecDepth 20000 in
theorem mw_3_181 : (Cond.selects "DustRobot$Queue" yX5_enter yX5_enter) ∈ Wt := mW3 (i := 181) rfl rfl
set_option maxRecDepth 20000 in
theorem mw_3_182 : (Cond.code yX5_enter cX5_enter 4 (Option.some FieldType.int)) ∈ Wt := mW3 (i := 182) rfl rfl
set_option maxRecDepth 20000 in
theorem mw_3_183 : (Cond.methodLink "DustRobot$Queue" 32 yX3_enter) ∈ Wt := mW3 (i := 183) rfl rfl
set_option maxRecDepth 20000 in
theorem mw_3_184 : (Cond.instanceMethod yX3_enter) ∈ Wt := mW3 (i := 184) rfl rfl
set_option maxRecDepth 20000 in
theorem mw_3_185 : (Cond.selects "DustRobot$Job" yX3_enter yX3_enter) ∈ Wt := mW3 (i := 185) rfl rfl
set_option maxRecDepth 20000 in
theorem mw_3_186 : (Cond.code yX3_enter cX3_enter 4 (Option.none : Option Jvm.ClassFile.FieldType)) ∈ Wt := mW3 (i := 186) rfl rfl
set_option maxRecDepth 20000 in
theorem mw_3_187 : (Cond.methodLink "DustRobotLaw" 120 yX9_clean) ∈ Wt := mW3 (i := 187) rfl rfl
set_option maxRecDepth 20000 in
theorem mw_3_188 : (Cond.instanceMethod yX9_clean) ∈ Wt := mW3 (i := 188) rfl rfl
set_option maxRecDepth 20000 in
theorem mw_3_189 : (Cond.selects "DustRobot" yX9_clean yX9_clean) ∈ Wt := mW3 (i := 189) rfl rfl
set_option maxRecDepth 20000 in
theorem mw_3_190 : (Cond.code yX9_clean cX9_clean 2 (Option.some FieldType.int)) ∈ Wt := mW3 (i := 190) rfl rfl
set_option maxRecDepth 20000 in
theorem mw_3_191 : (Cond.methodLink "DustRobotLaw" 123 yX9_move) ∈ Wt := mW3 (i := 191) rfl rfl
set_option maxRecDepth 20000 in
theorem mw_3_192 : (Cond.instanceMethod yX9_move) ∈ Wt := mW3 (i := 192) rfl rfl
set_option maxRecDepth 20000 in
theorem mw_3_193 : (Cond.selects "DustRobot" yX9_move yX9_move) ∈ Wt := mW3 (i := 193) rfl rfl
set_option maxRecDepth 20000 in
theorem mw_3_194 : (Cond.code yX9_move cX9_move 3 (Option.some FieldType.int)) ∈ Wt := mW3 (i := 194) rfl rfl
set_option maxRecDepth 20000 in
theorem mw_3_195 : (Cond.methodLink "DustRobotLaw" 160 yL_holds) ∈ Wt := mW3 (i := 195) rfl rfl
set_option maxRecDepth 20000 in
theorem mw_3_196 : (Cond.static yL_holds) ∈ Wt := mW3 (i := 196) rfl rfl
set_option maxRecDepth 20000 in
theorem mw_3_197 : (Cond.code yL_holds cL_holds 9 (Option.some FieldType.boolean)) ∈ Wt := mW3 (i := 197) rfl rfl
set_option maxRecDepth 20000 in
theorem mw_3_198 : (Cond.methodLink "DustRobotLaw" 126 yX9_putOff) ∈ Wt := mW3 (i := 198) rfl rfl
set_option maxRecDepth 20000 in
theorem mw_3_199 : (Cond.instanceMethod yX9_putOff) ∈ Wt := mW3 (i := 199) rfl rfl
set_option maxRecDepth 20000 in
theorem mw_3_200 : (Cond.selects "DustRobot" yX9_putOff yX9_putOff) ∈ Wt := mW3 (i := 200) rfl rfl
set_option maxRecDepth 20000 in
theorem mw_3_201 : (Cond.code yX9_putOff cX9_putOff 5 (Option.some FieldType.int)) ∈ Wt := mW3 (i := 201) rfl rfl
set_option maxRecDepth 20000 in
theorem mw_3_202 : (Cond.methodLink "DustRobotLaw" 129 yX9_withdraw) ∈ Wt := mW3 (i := 202) rfl rfl
set_option maxRecDepth 20000 in
theorem mw_3_203 : (Cond.instanceMethod yX9_withdraw) ∈ Wt := mW3 (i := 203) rfl rfl
set_option maxRecDepth 20000 in
theorem mw_3_204 : (Cond.selects "DustRobot" yX9_withdraw yX9_withdraw) ∈ Wt := mW3 (i := 204) rfl rfl
set_option maxRecDepth 20000 in
theorem mw_3_205 : (Cond.code yX9_withdraw cX9_withdraw 3 (Option.some FieldType.int)) ∈ Wt := mW3 (i := 205) rfl rfl
set_option maxRecDepth 20000 in
theorem mw_3_206 : (Cond.methodLink "DustRobotLaw" 164 yL_sets) ∈ Wt := mW3 (i := 206) rfl rfl
set_option maxRecDepth 20000 in
theorem mw_3_207 : (Cond.static yL_sets) ∈ Wt := mW3 (i := 207) rfl rfl
set_option maxRecDepth 20000 in
theorem mw_3_208 : (Cond.code yL_sets cL_sets 8 (Option.some FieldType.boolean)) ∈ Wt := mW3 (i := 208) rfl rfl
set_option maxRecDepth 20000 in
theorem mw_3_209 : (Cond.constantDouble "DustRobotLaw" 132 (4593671619917905920 : UInt64)) ∈ Wt := mW3 (i := 209) rfl rfl
set_option maxRecDepth 20000 in
theorem mw_3_210 : (Cond.methodLink "DustRobotLaw" 134 yX9_setLimit) ∈ Wt := mW3 (i := 210) rfl rfl
set_option maxRecDepth 20000 in
theorem mw_3_211 : (Cond.instanceMethod yX9_setLimit) ∈ Wt := mW3 (i := 211) rfl rfl
set_option maxRecDepth 20000 in
theorem mw_3_212 : (Cond.selects "DustRobot" yX9_setLimit yX9_setLimit) ∈ Wt := mW3 (i := 212) rfl rfl
set_option maxRecDepth 20000 in
theorem mw_3_213 : (Cond.code yX9_setLimit cX9_setLimit 3 (Option.some FieldType.int)) ∈ Wt := mW3 (i := 213) rfl rfl
set_option maxRecDepth 20000 in
theorem mw_3_214 : (Cond.constant "DustRobot" 111 (1148846080 : Int32)) ∈ Wt := mW3 (i := 214) rfl rfl
set_option maxRecDepth 20000 in
theorem mw_3_215 : (Cond.methodLink "DustRobotLaw" 137 yX9_setCeiling) ∈ Wt := mW3 (i := 215) rfl rfl
set_option maxRecDepth 20000 in
theorem mw_3_216 : (Cond.instanceMethod yX9_setCeiling) ∈ Wt := mW3 (i := 216) rfl rfl
set_option maxRecDepth 20000 in
theorem mw_3_217 : (Cond.selects "DustRobot" yX9_setCeiling yX9_setCeiling) ∈ Wt := mW3 (i := 217) rfl rfl
set_option maxRecDepth 20000 in
theorem mw_3_218 : (Cond.code yX9_setCeiling cX9_setCeiling 5 (Option.some FieldType.int)) ∈ Wt := mW3 (i := 218) rfl rfl
set_option maxRecDepth 20000 in
theorem mw_3_219 : (Cond.constant "DustRobot" 120 (1140457472 : Int32)) ∈ Wt := mW3 (i := 219) rfl rfl
set_option maxRecDepth 20000 in
theorem mw_3_220 : (Cond.constant "DustRobotLaw" 140 (2143289344 : Int32)) ∈ Wt := mW3 (i := 220) rfl rfl
set_option maxRecDepth 20000 in
theorem mw_3_221 : (Cond.methodLink "DustRobotLaw" 141 yX9_refill) ∈ Wt := mW3 (i := 221) rfl rfl
set_option maxRecDepth 20000 in
theorem mw_3_222 : (Cond.instanceMethod yX9_refill) ∈ Wt := mW3 (i := 222) rfl rfl
set_option maxRecDepth 20000 in
theorem mw_3_223 : (Cond.selects "DustRobot" yX9_refill yX9_refill) ∈ Wt := mW3 (i := 223) rfl rfl
set_option maxRecDepth 20000 in
theorem mw_3_224 : (Cond.code yX9_refill cX9_refill 5 (Option.some FieldType.int)) ∈ Wt := mW3 (i := 224) rfl rfl
set_option maxRecDepth 20000 in
theorem mw_3_225 : (Cond.methodLink "DustRobotLaw" 144 yX9_setOrder) ∈ Wt := mW3 (i := 225) rfl rfl
set_option maxRecDepth 20000 in
theorem mw_3_226 : (Cond.instanceMethod yX9_setOrder) ∈ Wt := mW3 (i := 226) rfl rfl
set_option maxRecDepth 20000 in
theorem mw_3_227 : (Cond.selects "DustRobot" yX9_setOrder yX9_setOrder) ∈ Wt := mW3 (i := 227) rfl rfl
set_option maxRecDepth 20000 in
theorem mw_3_228 : (Cond.code yX9_setOrder cX9_setOrder 3 (Option.some FieldType.int)) ∈ Wt := mW3 (i := 228) rfl rfl
set_option maxRecDepth 20000 in
theorem mw_3_229 : (Cond.methodLink "DustRobot" 128 yX5_rankOf) ∈ Wt := mW3 (i := 229) rfl rfl
set_option maxRecDepth 20000 in
theorem mw_3_230 : (Cond.methodLink "DustRobot" 133 yX5_rankKinds) ∈ Wt := mW3 (i := 230) rfl rfl
set_option maxRecDepth 20000 in
theorem mw_3_231 : (Cond.instanceMethod yX5_rankKinds) ∈ Wt := mW3 (i := 231) rfl rfl
set_option maxRecDepth 20000 in
theorem mw_3_232 : (Cond.selects "DustRobot$Queue" yX5_rankKinds yX5_rankKinds) ∈ Wt := mW3 (i := 232) rfl rfl
set_option maxRecDepth 20000 in
theorem mw_3_233 : (Cond.code yX5_rankKinds cX5_rankKinds 3 (Option.some FieldType.int)) ∈ Wt := mW3 (i := 233) rfl rfl
set_option maxRecDepth 20000 in
theorem mw_3_234 : (Cond.methodLink "DustRobotLaw" 179 yL_passes) ∈ Wt := mW3 (i := 234) rfl rfl
set_option maxRecDepth 20000 in
theorem mw_3_235 : (Cond.static yL_passes) ∈ Wt := mW3 (i := 235) rfl rfl
set_option maxRecDepth 20000 in
theorem mw_3_236 : (Cond.code yL_passes cL_passes 11 (Option.some FieldType.boolean)) ∈ Wt := mW3 (i := 236) rfl rfl
set_option maxRecDepth 20000 in
theorem mw_3_237 : (Cond.methodLink "DustRobotLaw" 147 yL_ticks) ∈ Wt := mW3 (i := 237) rfl rfl
set_option maxRecDepth 20000 in
theorem mw_3_238 : (Cond.static yL_ticks) ∈ Wt := mW3 (i := 238) rfl rfl
set_option maxRecDepth 20000 in
theorem mw_3_239 : (Cond.code yL_ticks cL_ticks 9 (Option.some FieldType.int)) ∈ Wt := mW3 (i := 239) rfl rfl
set_option maxRecDepth 20000 in
theorem mw_4_0 : (Cond.methodLink "DustRobotLaw" 63 yL_isDone) ∈ Wt := mW4 (i := 0) rfl rfl
set_option maxRecDepth 20000 in
theorem mw_4_1 : (Cond.static yL_isDone) ∈ Wt := mW4 (i := 1) rfl rfl
set_option maxRecDepth 20000 in
theorem mw_4_2 : (Cond.code yL_isDone cL_isDone 12 (Option.some FieldType.boolean)) ∈ Wt := mW4 (i := 2) rfl rfl
set_option maxRecDepth 20000 in
theorem mw_4_3 : (Cond.methodLink "DustRobotLaw" 47 yL_isThere) ∈ Wt := mW4 (i := 3) rfl rfl
set_option maxRecDepth 20000 in
theorem mw_4_4 : (Cond.static yL_isThere) ∈ Wt := mW4 (i := 4) rfl rfl
set_option maxRecDepth 20000 in
theorem mw_4_5 : (Cond.code yL_isThere cL_isThere 8 (Option.some FieldType.boolean)) ∈ Wt := mW4 (i := 5) rfl rfl
set_option maxRecDepth 20000 in
theorem mw_4_6 : (Cond.constantFloat "DustRobotLaw" 43 (1056964608 : UInt32)) ∈ Wt := mW4 (i := 6) rfl rfl
set_option maxRecDepth 20000 in
theorem mw_4_7 : (Cond.constantFloat "DustRobotLaw" 44 (1069547520 : UInt32)) ∈ Wt := mW4 (i := 7) rfl rfl
set_option maxRecDepth 20000 in
theorem mw_4_8 : (Cond.methodLink "DustRobotLaw" 51 yL_puts) ∈ Wt := mW4 (i := 8) rfl rfl
set_option maxRecDepth 20000 in
theorem mw_4_9 : (Cond.static yL_puts) ∈ Wt := mW4 (i := 9) rfl rfl
set_option maxRecDepth 20000 in
theorem mw_4_10 : (Cond.code yL_puts cL_puts 6 (Option.some FieldType.boolean)) ∈ Wt := mW4 (i := 10) rfl rfl
set_option maxRecDepth 20000 in
theorem mw_4_11 : (Cond.methodLink "DustRobotLaw" 55 yL_isRead) ∈ Wt := mW4 (i := 11) rfl rfl
set_option maxRecDepth 20000 in
theorem mw_4_12 : (Cond.static yL_isRead) ∈ Wt := mW4 (i := 12) rfl rfl
set_option maxRecDepth 20000 in
theorem mw_4_13 : (Cond.code yL_isRead cL_isRead 11 (Option.some FieldType.boolean)) ∈ Wt := mW4 (i := 13) rfl rfl
set_option maxRecDepth 20000 in
theorem mw_4_14 : (Cond.constantFloat "DustRobotLaw" 45 (1040187392 : UInt32)) ∈ Wt := mW4 (i := 14) rfl rfl
set_option maxRecDepth 20000 in
theorem mw_4_15 : (Cond.constantFloat "DustRobotLaw" 46 (1077936128 : UInt32)) ∈ Wt := mW4 (i := 15) rfl rfl
set_option maxRecDepth 20000 in
theorem mw_4_16 : (Cond.constantFloat "DustRobotLaw" 67 (1061158912 : UInt32)) ∈ Wt := mW4 (i := 16) rfl rfl
set_option maxRecDepth 20000 in
theorem mw_4_17 : (Cond.methodLink "DustRobotLaw" 151 yX9_tick) ∈ Wt := mW4 (i := 17) rfl rfl
set_option maxRecDepth 20000 in
theorem mw_4_18 : (Cond.instanceMethod yX9_tick) ∈ Wt := mW4 (i := 18) rfl rfl
set_option maxRecDepth 20000 in
theorem mw_4_19 : (Cond.selects "DustRobot" yX9_tick yX9_tick) ∈ Wt := mW4 (i := 19) rfl rfl
set_option maxRecDepth 20000 in
theorem mw_4_20 : (Cond.code yX9_tick cX9_tick 4 (Option.some FieldType.int)) ∈ Wt := mW4 (i := 20) rfl rfl
set_option maxRecDepth 20000 in
theorem mw_4_21 : (Cond.methodLink "DustRobot" 162 yX6_passOneTick) ∈ Wt := mW4 (i := 21) rfl rfl
set_option maxRecDepth 20000 in
theorem mw_4_22 : (Cond.instanceMethod yX6_passOneTick) ∈ Wt := mW4 (i := 22) rfl rfl
set_option maxRecDepth 20000 in
theorem mw_4_23 : (Cond.selects "DustRobot$State" yX6_passOneTick yX6_passOneTick) ∈ Wt := mW4 (i := 23) rfl rfl
set_option maxRecDepth 20000 in
theorem mw_4_24 : (Cond.code yX6_passOneTick cX6_passOneTick 3 (Option.some FieldType.int)) ∈ Wt := mW4 (i := 24) rfl rfl
set_option maxRecDepth 20000 in
theorem mw_4_25 : (Cond.methodLink "DustRobot$State" 162 yX6_beginJob) ∈ Wt := mW4 (i := 25) rfl rfl
set_option maxRecDepth 20000 in
theorem mw_4_27 : (Cond.instanceMethod yX6_beginJob) ∈ Wt := mW4 (i := 27) rfl rfl
set_option maxRecDepth 20000 in
theorem mw_4_28 : (Cond.code yX6_beginJob cX6_beginJob 3 (Option.none : Option Jvm.ClassFile.FieldType)) ∈ Wt := mW4 (i := 28) rfl rfl
set_option maxRecDepth 20000 in
theorem mw_4_29 : (Cond.methodLink "DustRobot$State" 171 yX6_jobToBegin) ∈ Wt := mW4 (i := 29) rfl rfl
set_option maxRecDepth 20000 in
theorem mw_4_30 : (Cond.methodLink "DustRobot$State" 183 yX4_add) ∈ Wt := mW4 (i := 30) rfl rfl
set_option maxRecDepth 20000 in
theorem mw_4_31 : (Cond.instanceMethod yX4_add) ∈ Wt := mW4 (i := 31) rfl rfl
set_option maxRecDepth 20000 in
theorem mw_4_32 : (Cond.selects "DustRobot$Log" yX4_add yX4_add) ∈ Wt := mW4 (i := 32) rfl rfl
set_option maxRecDepth 20000 in
theorem mw_4_33 : (Cond.code yX4_add cX4_add 5 (Option.none : Option Jvm.ClassFile.FieldType)) ∈ Wt := mW4 (i := 33) rfl rfl
set_option maxRecDepth 20000 in
theorem mw_4_34 : (Cond.methodLink "DustRobot$Log" 37 yJ9_min_7cf53) ∈ Wt := mW4 (i := 34) rfl rfl
set_option maxRecDepth 20000 in
theorem mw_4_35 : (Cond.static yJ9_min_7cf53) ∈ Wt := mW4 (i := 35) rfl rfl
set_option maxRecDepth 20000 in
theorem mw_4_36 : (Cond.code yJ9_min_7cf53 cJ9_min_7cf53 2 (Option.some FieldType.int)) ∈ Wt := mW4 (i := 36) rfl rfl
set_option maxRecDepth 20000 in
theorem mw_4_37 : (Cond.methodLink "DustRobot$State" 165 yX6_doStep) ∈ Wt := mW4 (i := 37) rfl rfl
set_option maxRecDepth 20000 in
theorem mw_4_39 : (Cond.instanceMethod yX6_doStep) ∈ Wt := mW4 (i := 39) rfl rfl
set_option maxRecDepth 20000 in
theorem mw_4_40 : (Cond.code yX6_doStep cX6_doStep 5 (Option.some FieldType.boolean)) ∈ Wt := mW4 (i := 40) rfl rfl
set_option maxRecDepth 20000 in
theorem mw_4_41 : (Cond.methodLink "DustRobot$State" 187 yX3_carriedItem) ∈ Wt := mW4 (i := 41) rfl rfl
set_option maxRecDepth 20000 in
theorem mw_4_42 : (Cond.methodLink "DustRobot$State" 190 yX6_doMoveStep) ∈ Wt := mW4 (i := 42) rfl rfl
set_option maxRecDepth 20000 in
theorem mw_4_44 : (Cond.instanceMethod yX6_doMoveStep) ∈ Wt := mW4 (i := 44) rfl rfl
set_option maxRecDepth 20000 in
theorem mw_4_45 : (Cond.code yX6_doMoveStep cX6_doMoveStep 4 (Option.some FieldType.boolean)) ∈ Wt := mW4 (i := 45) rfl rfl
set_option maxRecDepth 20000 in
theorem mw_4_46 : (Cond.methodLink "DustRobot$State" 204 yX6_goTo) ∈ Wt := mW4 (i := 46) rfl rfl
set_option maxRecDepth 20000 in
theorem mw_4_48 : (Cond.instanceMethod yX6_goTo) ∈ Wt := mW4 (i := 48) rfl rfl
set_option maxRecDepth 20000 in
theorem mw_4_49 : (Cond.code yX6_goTo cX6_goTo 4 (Option.some FieldType.boolean)) ∈ Wt := mW4 (i := 49) rfl rfl
set_option maxRecDepth 20000 in
theorem mw_4_50 : (Cond.methodLink "DustRobot$State" 146 yX6_costTo) ∈ Wt := mW4 (i := 50) rfl rfl
set_option maxRecDepth 20000 in
theorem mw_4_52 : (Cond.instanceMethod yX6_costTo) ∈ Wt := mW4 (i := 52) rfl rfl
set_option maxRecDepth 20000 in
theorem mw_4_53 : (Cond.code yX6_costTo cX6_costTo 4 (Option.some FieldType.float)) ∈ Wt := mW4 (i := 53) rfl rfl
set_option maxRecDepth 20000 in
theorem mw_4_54 : (Cond.constantFloat "DustRobot$State" 155 (1056964608 : UInt32)) ∈ Wt := mW4 (i := 54) rfl rfl
set_option maxRecDepth 20000 in
theorem mw_4_55 : (Cond.constantFloat "DustRobot$State" 156 (1069547520 : UInt32)) ∈ Wt := mW4 (i := 55) rfl rfl
set_option maxRecDepth 20000 in
theorem mw_4_56 : (Cond.methodLink "DustRobot$State" 157 yJ9_abs_0f7a4) ∈ Wt := mW4 (i := 56) rfl rfl
set_option maxRecDepth 20000 in
theorem mw_4_57 : (Cond.methodLink "DustRobot$State" 150 yX6_isAllowed) ∈ Wt := mW4 (i := 57) rfl rfl
set_option maxRecDepth 20000 in
theorem mw_4_59 : (Cond.instanceMethod yX6_isAllowed) ∈ Wt := mW4 (i := 59) rfl rfl
set_option maxRecDepth 20000 in
theorem mw_4_60 : (Cond.code yX6_isAllowed cX6_isAllowed 3 (Option.some FieldType.boolean)) ∈ Wt := mW4 (i := 60) rfl rfl
set_option maxRecDepth 20000 in
theorem mw_4_61 : (Cond.methodLink "DustRobot$State" 208 yX6_takeInHand) ∈ Wt := mW4 (i := 61) rfl rfl
set_option maxRecDepth 20000 in
theorem mw_4_63 : (Cond.instanceMethod yX6_takeInHand) ∈ Wt := mW4 (i := 63) rfl rfl
set_option maxRecDepth 20000 in
theorem mw_4_64 : (Cond.code yX6_takeInHand cX6_takeInHand 3 (Option.some FieldType.boolean)) ∈ Wt := mW4 (i := 64) rfl rfl
set_option maxRecDepth 20000 in
theorem mw_4_65 : (Cond.methodLink "DustRobot$State" 212 yX6_putHome) ∈ Wt := mW4 (i := 65) rfl rfl
set_option maxRecDepth 20000 in
theorem mw_4_67 : (Cond.instanceMethod yX6_putHome) ∈ Wt := mW4 (i := 67) rfl rfl
set_option maxRecDepth 20000 in
theorem mw_4_68 : (Cond.code yX6_putHome cX6_putHome 2 (Option.some FieldType.boolean)) ∈ Wt := mW4 (i := 68) rfl rfl
set_option maxRecDepth 20000 in
theorem mw_4_69 : (Cond.methodLink "DustRobot$State" 194 yX6_doDriveStep) ∈ Wt := mW4 (i := 69) rfl rfl
set_option maxRecDepth 20000 in
theorem mw_4_71 : (Cond.instanceMethod yX6_doDriveStep) ∈ Wt := mW4 (i := 71) rfl rfl
set_option maxRecDepth 20000 in
theorem mw_4_72 : (Cond.code yX6_doDriveStep cX6_doDriveStep 4 (Option.some FieldType.boolean)) ∈ Wt := mW4 (i := 72) rfl rfl
set_option maxRecDepth 20000 in
theorem mw_4_73 : (Cond.methodLink "DustRobot$State" 217 yX6_loadDrive) ∈ Wt := mW4 (i := 73) rfl rfl
set_option maxRecDepth 20000 in
theorem mw_4_75 : (Cond.instanceMethod yX6_loadDrive) ∈ Wt := mW4 (i := 75) rfl rfl
set_option maxRecDepth 20000 in
theorem mw_4_76 : (Cond.code yX6_loadDrive cX6_loadDrive 4 (Option.some FieldType.boolean)) ∈ Wt := mW4 (i := 76) rfl rfl
set_option maxRecDepth 20000 in
theorem mw_4_77 : (Cond.methodLink "DustRobot$State" 220 yX6_readInDrive) ∈ Wt := mW4 (i := 77) rfl rfl
set_option maxRecDepth 20000 in
theorem mw_4_79 : (Cond.instanceMethod yX6_readInDrive) ∈ Wt := mW4 (i := 79) rfl rfl
set_option maxRecDepth 20000 in
theorem mw_4_80 : (Cond.code yX6_readInDrive cX6_readInDrive 4 (Option.some FieldType.boolean)) ∈ Wt := mW4 (i := 80) rfl rfl
set_option maxRecDepth 20000 in
theorem mw_4_81 : (Cond.methodLink "DustRobot$State" 240 yX0_readTape) ∈ Wt := mW4 (i := 81) rfl rfl
set_option maxRecDepth 20000 in
theorem mw_4_82 : (Cond.instanceMethod yX0_readTape) ∈ Wt := mW4 (i := 82) rfl rfl
set_option maxRecDepth 20000 in
theorem mw_4_83 : (Cond.selects "DustRobot$Drive" yX0_readTape yX0_readTape) ∈ Wt := mW4 (i := 83) rfl rfl
set_option maxRecDepth 20000 in
theorem mw_4_84 : (Cond.code yX0_readTape cX0_readTape 3 (Option.some FieldType.boolean)) ∈ Wt := mW4 (i := 84) rfl rfl
set_option maxRecDepth 20000 in
theorem mw_4_85 : (Cond.constantFloat "DustRobot$Drive" 40 (1077936128 : UInt32)) ∈ Wt := mW4 (i := 85) rfl rfl
set_option maxRecDepth 20000 in
theorem mw_4_86 : (Cond.constantFloat "DustRobot$Drive" 44 (1040187392 : UInt32)) ∈ Wt := mW4 (i := 86) rfl rfl
set_option maxRecDepth 20000 in
theorem mw_4_87 : (Cond.methodLink "DustRobot$State" 223 yX6_cleanDrive) ∈ Wt := mW4 (i := 87) rfl rfl
set_option maxRecDepth 20000 in
theorem mw_4_89 : (Cond.instanceMethod yX6_cleanDrive) ∈ Wt := mW4 (i := 89) rfl rfl
set_option maxRecDepth 20000 in
theorem mw_4_90 : (Cond.code yX6_cleanDrive cX6_cleanDrive 4 (Option.some FieldType.boolean)) ∈ Wt := mW4 (i := 90) rfl rfl
set_option maxRecDepth 20000 in
theorem mw_4_91 : (Cond.methodLink "DustRobot$State" 246 yX0_cleanWith) ∈ Wt := mW4 (i := 91) rfl rfl
set_option maxRecDepth 20000 in
theorem mw_4_92 : (Cond.instanceMethod yX0_cleanWith) ∈ Wt := mW4 (i := 92) rfl rfl
set_option maxRecDepth 20000 in
theorem mw_4_93 : (Cond.selects "DustRobot$Drive" yX0_cleanWith yX0_cleanWith) ∈ Wt := mW4 (i := 93) rfl rfl
set_option maxRecDepth 20000 in
theorem mw_4_94 : (Cond.code yX0_cleanWith cX0_cleanWith 2 (Option.none : Option Jvm.ClassFile.FieldType)) ∈ Wt := mW4 (i := 94) rfl rfl
set_option maxRecDepth 20000 in
theorem mw_4_95 : (Cond.methodLink "DustRobot$State" 226 yX6_unloadDrive) ∈ Wt := mW4 (i := 95) rfl rfl
set_option maxRecDepth 20000 in
theorem mw_4_97 : (Cond.instanceMethod yX6_unloadDrive) ∈ Wt := mW4 (i := 97) rfl rfl
set_option maxRecDepth 20000 in
theorem mw_4_98 : (Cond.code yX6_unloadDrive cX6_unloadDrive 4 (Option.some FieldType.boolean)) ∈ Wt := mW4 (i := 98) rfl rfl
set_option maxRecDepth 20000 in
theorem mw_4_99 : (Cond.methodLink "DustRobot$State" 168 yX6_goOn) ∈ Wt := mW4 (i := 99) rfl rfl
set_option maxRecDepth 20000 in
theorem mw_4_101 : (Cond.instanceMethod yX6_goOn) ∈ Wt := mW4 (i := 101) rfl rfl
set_option maxRecDepth 20000 in
theorem mw_4_102 : (Cond.code yX6_goOn cX6_goOn 3 (Option.some FieldType.int)) ∈ Wt := mW4 (i := 102) rfl rfl
set_option maxRecDepth 20000 in
theorem mw_4_103 : (Cond.methodLink "DustRobot$State" 250 yX3_steps) ∈ Wt := mW4 (i := 103) rfl rfl
set_option maxRecDepth 20000 in
theorem mw_4_104 : (Cond.instanceMethod yX3_steps) ∈ Wt := mW4 (i := 104) rfl rfl
set_option maxRecDepth 20000 in
theorem mw_4_105 : (Cond.selects "DustRobot$Job" yX3_steps yX3_steps) ∈ Wt := mW4 (i := 105) rfl rfl
set_option maxRecDepth 20000 in
theorem mw_4_106 : (Cond.code yX3_steps cX3_steps 1 (Option.some FieldType.int)) ∈ Wt := mW4 (i := 106) rfl rfl
set_option maxRecDepth 20000 in
theorem mw_4_107 : (Cond.constantFloat "DustRobot$State" 154 (1061158912 : UInt32)) ∈ Wt := mW4 (i := 107) rfl rfl
set_option maxRecDepth 20000 in
theorem mw_4_108 : (Cond.constantDouble "DustRobotLaw" 155 (4626322717216342016 : UInt64)) ∈ Wt := mW4 (i := 108) rfl rfl
set_option maxRecDepth 20000 in
theorem mw_4_109 : (Cond.arrayClass FieldType.double) ∈ Wt := mW4 (i := 109) rfl rfl
set_option maxRecDepth 20000 in
theorem mw_s_0 : (Cond.selects "DustRobot$State" yX6_groupOf yX6_groupOf) ∈ Wt := mWs (i := 0) rfl rfl
set_option maxRecDepth 20000 in
theorem mw_s_1 : (Cond.selects "DustRobot$State" yX6_canBegin yX6_canBegin) ∈ Wt := mWs (i := 1) rfl rfl
set_option maxRecDepth 20000 in
theorem mw_s_2 : (Cond.selects "DustRobot$History" yX1_dropOldest yX1_dropOldest) ∈ Wt := mWs (i := 2) rfl rfl
set_option maxRecDepth 20000 in
theorem mw_s_3 : (Cond.selects "DustRobot$Item" yX2_begin yX2_begin) ∈ Wt := mWs (i := 3) rfl rfl
set_option maxRecDepth 20000 in
theorem mw_s_4 : (Cond.selects "DustRobot" yX9_giveJob yX9_giveJob) ∈ Wt := mWs (i := 4) rfl rfl
set_option maxRecDepth 20000 in
theorem mw_s_5 : (Cond.selects "DustRobot$State" yX6_beginJob yX6_beginJob) ∈ Wt := mWs (i := 5) rfl rfl
set_option maxRecDepth 20000 in
theorem mw_s_6 : (Cond.selects "DustRobot$State" yX6_doStep yX6_doStep) ∈ Wt := mWs (i := 6) rfl rfl
set_option maxRecDepth 20000 in
theorem mw_s_7 : (Cond.selects "DustRobot$State" yX6_doMoveStep yX6_doMoveStep) ∈ Wt := mWs (i := 7) rfl rfl
set_option maxRecDepth 20000 in
theorem mw_s_8 : (Cond.selects "DustRobot$State" yX6_goTo yX6_goTo) ∈ Wt := mWs (i := 8) rfl rfl
set_option maxRecDepth 20000 in
theorem mw_s_9 : (Cond.selects "DustRobot$State" yX6_costTo yX6_costTo) ∈ Wt := mWs (i := 9) rfl rfl
set_option maxRecDepth 20000 in
theorem mw_s_10 : (Cond.selects "DustRobot$State" yX6_isAllowed yX6_isAllowed) ∈ Wt := mWs (i := 10) rfl rfl
set_option maxRecDepth 20000 in
theorem mw_s_11 : (Cond.selects "DustRobot$State" yX6_takeInHand yX6_takeInHand) ∈ Wt := mWs (i := 11) rfl rfl
set_option maxRecDepth 20000 in
theorem mw_s_12 : (Cond.selects "DustRobot$State" yX6_putHome yX6_putHome) ∈ Wt := mWs (i := 12) rfl rfl
set_option maxRecDepth 20000 in
theorem mw_s_13 : (Cond.selects "DustRobot$State" yX6_doDriveStep yX6_doDriveStep) ∈ Wt := mWs (i := 13) rfl rfl
set_option maxRecDepth 20000 in
theorem mw_s_14 : (Cond.selects "DustRobot$State" yX6_loadDrive yX6_loadDrive) ∈ Wt := mWs (i := 14) rfl rfl
set_option maxRecDepth 20000 in
theorem mw_s_15 : (Cond.selects "DustRobot$State" yX6_readInDrive yX6_readInDrive) ∈ Wt := mWs (i := 15) rfl rfl
set_option maxRecDepth 20000 in
theorem mw_s_16 : (Cond.selects "DustRobot$State" yX6_cleanDrive yX6_cleanDrive) ∈ Wt := mWs (i := 16) rfl rfl
set_option maxRecDepth 20000 in
theorem mw_s_17 : (Cond.selects "DustRobot$State" yX6_unloadDrive yX6_unloadDrive) ∈ Wt := mWs (i := 17) rfl rfl
set_option maxRecDepth 20000 in
theorem mw_s_18 : (Cond.selects "DustRobot$State" yX6_goOn yX6_goOn) ∈ Wt := mWs (i := 18) rfl rfl
theorem inW0 : ∀ w ∈ u_ws RX0 TX0 7, w ∈ Wt := by
  intro w hw
  obtain ⟨k, hk, rfl⟩ := List.mem_map.mp hw
  have hk := List.mem_range.mp hk
  match k, hk with
  | 0, _ => exact mw_1_97
  | 1, _ => exact mw_1_99
  | 2, _ => exact mw_1_101
  | 3, _ => exact mw_1_103
  | 4, _ => exact mw_1_105
  | 5, _ => exact mw_1_107
  | 6, _ => exact mw_1_109
theorem inW1 : ∀ w ∈ u_ws RX1 TX1 2, w ∈ Wt := by
  intro w hw
  obtain ⟨k, hk, rfl⟩ := List.mem_map.mp hw
  have hk := List.mem_range.mp hk
  match k, hk with
  | 0, _ => exact mw_2_60
  | 1, _ => exact mw_2_62
theorem inW2 : ∀ w ∈ u_ws RX2 TX2 8, w ∈ Wt := by
  intro w hw
  obtain ⟨k, hk, rfl⟩ := List.mem_map.mp hw
  have hk := List.mem_range.mp hk
  match k, hk with
  | 0, _ => exact mw_1_60
  | 1, _ => exact mw_1_62
  | 2, _ => exact mw_1_64
  | 3, _ => exact mw_1_66
  | 4, _ => exact mw_1_68
  | 5, _ => exact mw_1_70
  | 6, _ => exact mw_1_72
  | 7, _ => exact mw_1_74
theorem inW3 : ∀ w ∈ u_ws RX3 TX3 13, w ∈ Wt := by
  intro w hw
  obtain ⟨k, hk, rfl⟩ := List.mem_map.mp hw
  have hk := List.mem_range.mp hk
  match k, hk with
  | 0, _ => exact mw_1_170
  | 1, _ => exact mw_1_172
  | 2, _ => exact mw_1_174
  | 3, _ => exact mw_1_176
  | 4, _ => exact mw_1_178
  | 5, _ => exact mw_1_180
  | 6, _ => exact mw_1_182
  | 7, _ => exact mw_1_184
  | 8, _ => exact mw_1_186
  | 9, _ => exact mw_1_188
  | 10, _ => exact mw_1_190
  | 11, _ => exact mw_1_192
  | 12, _ => exact mw_1_194
theorem inW4 : ∀ w ∈ u_ws RX4 TX4 6, w ∈ Wt := by
  intro w hw
  obtain ⟨k, hk, rfl⟩ := List.mem_map.mp hw
  have hk := List.mem_range.mp hk
  match k, hk with
  | 0, _ => exact mw_1_225
  | 1, _ => exact mw_1_227
  | 2, _ => exact mw_1_229
  | 3, _ => exact mw_1_231
  | 4, _ => exact mw_1_233
  | 5, _ => exact mw_1_235
theorem inW5 : ∀ w ∈ u_ws RX5 TX5 4, w ∈ Wt := by
  intro w hw
  obtain ⟨k, hk, rfl⟩ := List.mem_map.mp hw
  have hk := List.mem_range.mp hk
  match k, hk with
  | 0, _ => exact mw_1_204
  | 1, _ => exact mw_1_206
  | 2, _ => exact mw_1_208
  | 3, _ => exact mw_1_210
theorem inW6 : ∀ w ∈ u_ws RX6 TX6 12, w ∈ Wt := by
  intro w hw
  obtain ⟨k, hk, rfl⟩ := List.mem_map.mp hw
  have hk := List.mem_range.mp hk
  match k, hk with
  | 0, _ => exact mw_2_23
  | 1, _ => exact mw_2_25
  | 2, _ => exact mw_2_27
  | 3, _ => exact mw_2_29
  | 4, _ => exact mw_2_31
  | 5, _ => exact mw_2_33
  | 6, _ => exact mw_2_35
  | 7, _ => exact mw_2_37
  | 8, _ => exact mw_2_39
  | 9, _ => exact mw_2_41
  | 10, _ => exact mw_2_43
  | 11, _ => exact mw_2_45
theorem inW7 : ∀ w ∈ u_ws RX7 TX7 4, w ∈ Wt := by
  intro w hw
  obtain ⟨k, hk, rfl⟩ := List.mem_map.mp hw
  have hk := List.mem_range.mp hk
  match k, hk with
  | 0, _ => exact mw_1_118
  | 1, _ => exact mw_1_120
  | 2, _ => exact mw_1_122
  | 3, _ => exact mw_1_124
theorem inW8 : ∀ w ∈ u_ws RX8 TX8 7, w ∈ Wt := by
  intro w hw
  obtain ⟨k, hk, rfl⟩ := List.mem_map.mp hw
  have hk := List.mem_range.mp hk
  match k, hk with
  | 0, _ => exact mw_2_79
  | 1, _ => exact mw_2_81
  | 2, _ => exact mw_2_83
  | 3, _ => exact mw_2_85
  | 4, _ => exact mw_2_87
  | 5, _ => exact mw_2_89
  | 6, _ => exact mw_2_91
theorem inW9 : ∀ w ∈ u_ws RX9 TX9 6, w ∈ Wt := by
  intro w hw
  obtain ⟨k, hk, rfl⟩ := List.mem_map.mp hw
  have hk := List.mem_range.mp hk
  match k, hk with
  | 0, _ => exact mw_2_101
  | 1, _ => exact mw_2_103
  | 2, _ => exact mw_2_105
  | 3, _ => exact mw_2_107
  | 4, _ => exact mw_2_109
  | 5, _ => exact mw_2_111
