section
-- ===== PART A: goes FIRST, ahead of the names: the tables' words, and 'selects' of the private methods out of them =====
/-- a private method of a class that the tables say can be made, by its rows of tables_1 -/
def lw_okq (q : MethodName × Nat) : Prop := (q.1.cls ≠ "java/lang/invoke/MethodHandle" ∧ q.1.cls ≠ "java/lang/invoke/VarHandle") ∧ Cond.instantiable q.1.cls q.2 ∈ tables_1 ∧ Cond.privateMethod q.1 ∈ tables_1 ∧ Cond.instanceMethod q.1 ∈ tables_1
theorem lw_p0 : lw_okq (⟨"SwingBridge", "make", "(IIIII)LSwingBridge$Cart;"⟩, 3) := ⟨⟨by decide +kernel, by decide +kernel⟩, List.mem_of_getElem? (i := 20) (by decide +kernel), List.mem_of_getElem? (i := 99) (by decide +kernel), List.mem_of_getElem? (i := 100) (by decide +kernel)⟩
theorem lw_p1 : lw_okq (⟨"SwingBridge", "find", "(I)LSwingBridge$Cart;"⟩, 3) := ⟨⟨by decide +kernel, by decide +kernel⟩, List.mem_of_getElem? (i := 20) (by decide +kernel), List.mem_of_getElem? (i := 314) (by decide +kernel), List.mem_of_getElem? (i := 315) (by decide +kernel)⟩
theorem lw_p2 : lw_okq (⟨"java/lang/Throwable", "fillInStackTrace", "(I)Ljava/lang/Throwable;"⟩, 6) := ⟨⟨by decide +kernel, by decide +kernel⟩, List.mem_of_getElem? (i := 530) (by decide +kernel), List.mem_of_getElem? (i := 528) (by decide +kernel), List.mem_of_getElem? (i := 529) (by decide +kernel)⟩
theorem lw_p3 : lw_okq (⟨"SwingBridgeModel", "isVehicle", "(I)Z"⟩, 18) := ⟨⟨by decide +kernel, by decide +kernel⟩, List.mem_of_getElem? (i := 703) (by decide +kernel), List.mem_of_getElem? (i := 779) (by decide +kernel), List.mem_of_getElem? (i := 780) (by decide +kernel)⟩
theorem lw_p4 : lw_okq (⟨"SwingBridgeModel", "weightOf", "(I)I"⟩, 18) := ⟨⟨by decide +kernel, by decide +kernel⟩, List.mem_of_getElem? (i := 703) (by decide +kernel), List.mem_of_getElem? (i := 783) (by decide +kernel), List.mem_of_getElem? (i := 784) (by decide +kernel)⟩
theorem lw_p5 : lw_okq (⟨"SwingBridgeModel", "tollOf", "(II)I"⟩, 18) := ⟨⟨by decide +kernel, by decide +kernel⟩, List.mem_of_getElem? (i := 703) (by decide +kernel), List.mem_of_getElem? (i := 794) (by decide +kernel), List.mem_of_getElem? (i := 795) (by decide +kernel)⟩
theorem lw_p6 : lw_okq (⟨"SwingBridgeModel", "plainToll", "(I)I"⟩, 18) := ⟨⟨by decide +kernel, by decide +kernel⟩, List.mem_of_getElem? (i := 703) (by decide +kernel), List.mem_of_getElem? (i := 798) (by decide +kernel), List.mem_of_getElem? (i := 799) (by decide +kernel)⟩
theorem lw_p7 : lw_okq (⟨"SwingBridgeModel", "isFit", "(I)Z"⟩, 18) := ⟨⟨by decide +kernel, by decide +kernel⟩, List.mem_of_getElem? (i := 703) (by decide +kernel), List.mem_of_getElem? (i := 806) (by decide +kernel), List.mem_of_getElem? (i := 807) (by decide +kernel)⟩
theorem lw_p8 : lw_okq (⟨"SwingBridgeModel", "isPlainFit", "(I)Z"⟩, 18) := ⟨⟨by decide +kernel, by decide +kernel⟩, List.mem_of_getElem? (i := 703) (by decide +kernel), List.mem_of_getElem? (i := 810) (by decide +kernel), List.mem_of_getElem? (i := 811) (by decide +kernel)⟩
theorem lw_p9 : lw_okq (⟨"SwingBridgeModel", "enters", "(II)I"⟩, 18) := ⟨⟨by decide +kernel, by decide +kernel⟩, List.mem_of_getElem? (i := 703) (by decide +kernel), List.mem_of_getElem? (i := 818) (by decide +kernel), List.mem_of_getElem? (i := 819) (by decide +kernel)⟩
theorem lw_p10 : lw_okq (⟨"SwingBridgeModel", "plainEnter", "(II)I"⟩, 18) := ⟨⟨by decide +kernel, by decide +kernel⟩, List.mem_of_getElem? (i := 703) (by decide +kernel), List.mem_of_getElem? (i := 822) (by decide +kernel), List.mem_of_getElem? (i := 823) (by decide +kernel)⟩
theorem lw_p11 : lw_okq (⟨"SwingBridgeModel", "leaves", "(I)V"⟩, 18) := ⟨⟨by decide +kernel, by decide +kernel⟩, List.mem_of_getElem? (i := 703) (by decide +kernel), List.mem_of_getElem? (i := 830) (by decide +kernel), List.mem_of_getElem? (i := 831) (by decide +kernel)⟩
theorem lw_p12 : lw_okq (⟨"SwingBridgeModel", "rebateOf", "(I)I"⟩, 18) := ⟨⟨by decide +kernel, by decide +kernel⟩, List.mem_of_getElem? (i := 703) (by decide +kernel), List.mem_of_getElem? (i := 838) (by decide +kernel), List.mem_of_getElem? (i := 839) (by decide +kernel)⟩
theorem lw_p13 : lw_okq (⟨"SwingBridgeModel", "hasAccount", "(I)Z"⟩, 18) := ⟨⟨by decide +kernel, by decide +kernel⟩, List.mem_of_getElem? (i := 703) (by decide +kernel), List.mem_of_getElem? (i := 846) (by decide +kernel), List.mem_of_getElem? (i := 847) (by decide +kernel)⟩
theorem lw_p14 : lw_okq (⟨"SwingBridgeModel", "billOf", "(II)I"⟩, 18) := ⟨⟨by decide +kernel, by decide +kernel⟩, List.mem_of_getElem? (i := 703) (by decide +kernel), List.mem_of_getElem? (i := 850) (by decide +kernel), List.mem_of_getElem? (i := 851) (by decide +kernel)⟩
def lw_privs_1 : List (MethodName × Nat) := [(⟨"SwingBridge", "make", "(IIIII)LSwingBridge$Cart;"⟩, 3), (⟨"SwingBridge", "find", "(I)LSwingBridge$Cart;"⟩, 3), (⟨"java/lang/Throwable", "fillInStackTrace", "(I)Ljava/lang/Throwable;"⟩, 6), (⟨"SwingBridgeModel", "isVehicle", "(I)Z"⟩, 18), (⟨"SwingBridgeModel", "weightOf", "(I)I"⟩, 18), (⟨"SwingBridgeModel", "tollOf", "(II)I"⟩, 18), (⟨"SwingBridgeModel", "plainToll", "(I)I"⟩, 18), (⟨"SwingBridgeModel", "isFit", "(I)Z"⟩, 18), (⟨"SwingBridgeModel", "isPlainFit", "(I)Z"⟩, 18), (⟨"SwingBridgeModel", "enters", "(II)I"⟩, 18), (⟨"SwingBridgeModel", "plainEnter", "(II)I"⟩, 18), (⟨"SwingBridgeModel", "leaves", "(I)V"⟩, 18), (⟨"SwingBridgeModel", "rebateOf", "(I)I"⟩, 18), (⟨"SwingBridgeModel", "hasAccount", "(I)Z"⟩, 18), (⟨"SwingBridgeModel", "billOf", "(II)I"⟩, 18)]
theorem lw_r1 : ∀ q ∈ lw_privs_1, lw_okq q := List.forall_mem_cons.mpr ⟨lw_p0, List.forall_mem_cons.mpr ⟨lw_p1, List.forall_mem_cons.mpr ⟨lw_p2, List.forall_mem_cons.mpr ⟨lw_p3, List.forall_mem_cons.mpr ⟨lw_p4, List.forall_mem_cons.mpr ⟨lw_p5, List.forall_mem_cons.mpr ⟨lw_p6, List.forall_mem_cons.mpr ⟨lw_p7, List.forall_mem_cons.mpr ⟨lw_p8, List.forall_mem_cons.mpr ⟨lw_p9, List.forall_mem_cons.mpr ⟨lw_p10, List.forall_mem_cons.mpr ⟨lw_p11, List.forall_mem_cons.mpr ⟨lw_p12, List.forall_mem_cons.mpr ⟨lw_p13, List.forall_mem_cons.mpr ⟨lw_p14, fun _ h => absurd h List.not_mem_nil⟩⟩⟩⟩⟩⟩⟩⟩⟩⟩⟩⟩⟩⟩⟩
def lw_privs : List (MethodName × Nat) := lw_privs_1
def lw_tbl : List Cond := k2_sels lw_privs ++ tables_1
theorem lw_privs_ok : ∀ q ∈ lw_privs, lw_okq q := lw_r1
-- ===== end of PART A; then your names; then what follows =====
end
section
def wB : List Cond := lw_tbl.filter goodWord
theorem wB_in {w : Cond} (i : Nat) (h : lw_tbl[i]? = some w) (hg : goodWord w = true) : w ∈ wB := List.mem_filter.mpr ⟨List.mem_of_getElem? h, hg⟩
theorem wB_good : ∀ w ∈ wB, goodWord w = true := fun w h => (List.mem_filter.mp h).2
theorem wB_tbl : ∀ w ∈ wB, w ∈ lw_tbl := fun w h => (List.mem_filter.mp h).1
theorem tb_0 : (Jvm.Cond.initialized "SwingBridgeLaw") ∈ wB := wB_in 15 (by decide +kernel) (by decide +kernel)
theorem tb_1 : (Jvm.Cond.initialized "SwingBridge") ∈ wB := wB_in 16 (by decide +kernel) (by decide +kernel)
theorem tb_2 : (Jvm.Cond.initialized "SwingBridge$Bridge") ∈ wB := wB_in 17 (by decide +kernel) (by decide +kernel)
theorem tb_3 : (Jvm.Cond.initialized "SwingBridgeModel") ∈ wB := wB_in 18 (by decide +kernel) (by decide +kernel)
theorem tb_4 : (Jvm.Cond.initialized "SwingBridge$Cart") ∈ wB := wB_in 19 (by decide +kernel) (by decide +kernel)
theorem tb_5 : (Jvm.Cond.initialized "SwingBridge$Wheeled") ∈ wB := wB_in 20 (by decide +kernel) (by decide +kernel)
theorem tb_6 : (Jvm.Cond.initialized "SwingBridge$Car") ∈ wB := wB_in 21 (by decide +kernel) (by decide +kernel)
theorem tb_7 : (Jvm.Cond.initialized "SwingBridge$Cab") ∈ wB := wB_in 22 (by decide +kernel) (by decide +kernel)
theorem tb_8 : (Jvm.Cond.initialized "SwingBridge$Lorry") ∈ wB := wB_in 23 (by decide +kernel) (by decide +kernel)
theorem tb_9 : (Jvm.Cond.initialized "SwingBridge$Tanker") ∈ wB := wB_in 24 (by decide +kernel) (by decide +kernel)
theorem tb_10 : (Jvm.Cond.initialized "SwingBridge$Bus") ∈ wB := wB_in 25 (by decide +kernel) (by decide +kernel)
theorem tb_11 : (Jvm.Cond.initialized "SwingBridge$LateBus") ∈ wB := wB_in 26 (by decide +kernel) (by decide +kernel)
theorem tb_12 : (Jvm.Cond.initialized "SwingBridge$Cycle") ∈ wB := wB_in 27 (by decide +kernel) (by decide +kernel)
theorem tb_13 : (Jvm.Cond.initialized "java/lang/Throwable") ∈ wB := wB_in 28 (by decide +kernel) (by decide +kernel)
theorem tb_14 : (Jvm.Cond.initialized "java/lang/Exception") ∈ wB := wB_in 29 (by decide +kernel) (by decide +kernel)
theorem tb_15 : (Jvm.Cond.initialized "java/lang/RuntimeException") ∈ wB := wB_in 30 (by decide +kernel) (by decide +kernel)
theorem tb_16 : (Jvm.Cond.initialized "java/lang/ArithmeticException") ∈ wB := wB_in 31 (by decide +kernel) (by decide +kernel)
theorem tb_17 : (Jvm.Cond.initialized "java/lang/IllegalStateException") ∈ wB := wB_in 32 (by decide +kernel) (by decide +kernel)
theorem tb_18 : (Jvm.Cond.initialized "java/lang/Math") ∈ wB := wB_in 33 (by decide +kernel) (by decide +kernel)
theorem tb_19 : (Jvm.Cond.classLink "SwingBridgeLaw" (8 : Nat) "SwingBridge") ∈ wB := wB_in 34 (by decide +kernel) (by decide +kernel)
theorem tb_20 : (Jvm.Cond.instantiable "SwingBridge" (3 : Nat)) ∈ wB := wB_in 35 (by decide +kernel) (by decide +kernel)
theorem tb_21 : (Jvm.Cond.methodLink "SwingBridgeLaw" (20 : Nat) ({ cls := "SwingBridge", name := "<init>", desc := "()V" } : Jvm.MethodName)) ∈ wB := wB_in 36 (by decide +kernel) (by decide +kernel)
theorem tb_22 : (Jvm.Cond.instanceMethod ({ cls := "SwingBridge", name := "<init>", desc := "()V" } : Jvm.MethodName)) ∈ wB := wB_in 37 (by decide +kernel) (by decide +kernel)
theorem tb_23 : (Jvm.Cond.code ({ cls := "SwingBridge", name := "<init>", desc := "()V" } : Jvm.MethodName) prog_1_method_1_code (1 : Nat) (Option.none : Option Jvm.ClassFile.FieldType)) ∈ wB := wB_in 38 (by decide +kernel) (by decide +kernel)
theorem tb_24 : (Jvm.Cond.methodLink "SwingBridge" (1 : Nat) ({ cls := "java/lang/Object", name := "<init>", desc := "()V" } : Jvm.MethodName)) ∈ wB := wB_in 39 (by decide +kernel) (by decide +kernel)
theorem tb_25 : (Jvm.Cond.instanceMethod ({ cls := "java/lang/Object", name := "<init>", desc := "()V" } : Jvm.MethodName)) ∈ wB := wB_in 40 (by decide +kernel) (by decide +kernel)
theorem tb_26 : (Jvm.Cond.code ({ cls := "java/lang/Object", name := "<init>", desc := "()V" } : Jvm.MethodName) object_method_1_code (1 : Nat) (Option.none : Option Jvm.ClassFile.FieldType)) ∈ wB := wB_in 41 (by decide +kernel) (by decide +kernel)
theorem tb_27 : (Jvm.Cond.classLink "SwingBridge" (7 : Nat) "SwingBridge$Bridge") ∈ wB := wB_in 42 (by decide +kernel) (by decide +kernel)
theorem tb_28 : (Jvm.Cond.instantiable "SwingBridge$Bridge" (7 : Nat)) ∈ wB := wB_in 43 (by decide +kernel) (by decide +kernel)
theorem tb_29 : (Jvm.Cond.methodLink "SwingBridge" (9 : Nat) ({ cls := "SwingBridge$Bridge", name := "<init>", desc := "()V" } : Jvm.MethodName)) ∈ wB := wB_in 44 (by decide +kernel) (by decide +kernel)
theorem tb_30 : (Jvm.Cond.instanceMethod ({ cls := "SwingBridge$Bridge", name := "<init>", desc := "()V" } : Jvm.MethodName)) ∈ wB := wB_in 45 (by decide +kernel) (by decide +kernel)
theorem tb_31 : (Jvm.Cond.code ({ cls := "SwingBridge$Bridge", name := "<init>", desc := "()V" } : Jvm.MethodName) prog_2_method_1_code (1 : Nat) (Option.none : Option Jvm.ClassFile.FieldType)) ∈ wB := wB_in 46 (by decide +kernel) (by decide +kernel)
theorem tb_32 : (Jvm.Cond.methodLink "SwingBridge$Bridge" (3 : Nat) ({ cls := "java/lang/Object", name := "<init>", desc := "()V" } : Jvm.MethodName)) ∈ wB := wB_in 47 (by decide +kernel) (by decide +kernel)
theorem tb_33 : (Jvm.Cond.classLink "SwingBridge$Bridge" (9 : Nat) "SwingBridge$Cart") ∈ wB := wB_in 48 (by decide +kernel) (by decide +kernel)
theorem tb_35 : (Jvm.Cond.fieldLink "SwingBridge$Bridge" (11 : Nat) "SwingBridge$Bridge" "deck" "[LSwingBridge$Cart;") ∈ wB := wB_in 50 (by decide +kernel) (by decide +kernel)
theorem tb_36 : (Jvm.Cond.fieldLink "SwingBridge$Cart" (53 : Nat) "SwingBridge$Bridge" "deck" "[LSwingBridge$Cart;") ∈ wB := wB_in 51 (by decide +kernel) (by decide +kernel)
theorem tb_37 : (Jvm.Cond.fieldLink "SwingBridge$Bridge" (17 : Nat) "SwingBridge$Bridge" "begun" "[I") ∈ wB := wB_in 52 (by decide +kernel) (by decide +kernel)
theorem tb_38 : (Jvm.Cond.fieldLink "SwingBridge$Cart" (43 : Nat) "SwingBridge$Bridge" "begun" "[I") ∈ wB := wB_in 53 (by decide +kernel) (by decide +kernel)
theorem tb_39 : (Jvm.Cond.fieldLink "SwingBridge$Lorry" (15 : Nat) "SwingBridge$Bridge" "begun" "[I") ∈ wB := wB_in 54 (by decide +kernel) (by decide +kernel)
theorem tb_40 : (Jvm.Cond.fieldLink "SwingBridge$LateBus" (15 : Nat) "SwingBridge$Bridge" "begun" "[I") ∈ wB := wB_in 55 (by decide +kernel) (by decide +kernel)
theorem tb_41 : (Jvm.Cond.fieldLink "SwingBridge$Tanker" (15 : Nat) "SwingBridge$Bridge" "begun" "[I") ∈ wB := wB_in 56 (by decide +kernel) (by decide +kernel)
theorem tb_42 : (Jvm.Cond.fieldLink "SwingBridge$Cab" (15 : Nat) "SwingBridge$Bridge" "begun" "[I") ∈ wB := wB_in 57 (by decide +kernel) (by decide +kernel)
theorem tb_43 : (Jvm.Cond.fieldLink "SwingBridge$Car" (15 : Nat) "SwingBridge$Bridge" "begun" "[I") ∈ wB := wB_in 58 (by decide +kernel) (by decide +kernel)
theorem tb_44 : (Jvm.Cond.fieldLink "SwingBridge$Cycle" (15 : Nat) "SwingBridge$Bridge" "begun" "[I") ∈ wB := wB_in 59 (by decide +kernel) (by decide +kernel)
theorem tb_45 : (Jvm.Cond.fieldLink "SwingBridge$Bus" (15 : Nat) "SwingBridge$Bridge" "begun" "[I") ∈ wB := wB_in 60 (by decide +kernel) (by decide +kernel)
theorem tb_46 : (Jvm.Cond.fieldLink "SwingBridge" (110 : Nat) "SwingBridge$Bridge" "begun" "[I") ∈ wB := wB_in 61 (by decide +kernel) (by decide +kernel)
theorem tb_47 : (Jvm.Cond.fieldLink "SwingBridge$Bridge" (21 : Nat) "SwingBridge$Bridge" "onDeck" "I") ∈ wB := wB_in 62 (by decide +kernel) (by decide +kernel)
theorem tb_48 : (Jvm.Cond.fieldLink "SwingBridge$Tanker" (37 : Nat) "SwingBridge$Bridge" "onDeck" "I") ∈ wB := wB_in 63 (by decide +kernel) (by decide +kernel)
theorem tb_49 : (Jvm.Cond.fieldLink "SwingBridge" (63 : Nat) "SwingBridge$Bridge" "onDeck" "I") ∈ wB := wB_in 64 (by decide +kernel) (by decide +kernel)
theorem tb_50 : (Jvm.Cond.fieldLink "SwingBridge$Bridge" (25 : Nat) "SwingBridge$Bridge" "limit" "I") ∈ wB := wB_in 65 (by decide +kernel) (by decide +kernel)
theorem tb_51 : (Jvm.Cond.fieldLink "SwingBridge$Cart" (61 : Nat) "SwingBridge$Bridge" "limit" "I") ∈ wB := wB_in 66 (by decide +kernel) (by decide +kernel)
theorem tb_52 : (Jvm.Cond.fieldLink "SwingBridge$Tanker" (44 : Nat) "SwingBridge$Bridge" "limit" "I") ∈ wB := wB_in 67 (by decide +kernel) (by decide +kernel)
theorem tb_53 : (Jvm.Cond.fieldLink "SwingBridge" (114 : Nat) "SwingBridge$Bridge" "limit" "I") ∈ wB := wB_in 68 (by decide +kernel) (by decide +kernel)
theorem tb_54 : (Jvm.Cond.fieldLink "SwingBridge$Bridge" (28 : Nat) "SwingBridge$Bridge" "shut" "Z") ∈ wB := wB_in 69 (by decide +kernel) (by decide +kernel)
theorem tb_55 : (Jvm.Cond.fieldLink "SwingBridge$Cycle" (35 : Nat) "SwingBridge$Bridge" "shut" "Z") ∈ wB := wB_in 70 (by decide +kernel) (by decide +kernel)
theorem tb_56 : (Jvm.Cond.fieldLink "SwingBridge$Cart" (57 : Nat) "SwingBridge$Bridge" "shut" "Z") ∈ wB := wB_in 71 (by decide +kernel) (by decide +kernel)
theorem tb_57 : (Jvm.Cond.fieldLink "SwingBridge" (78 : Nat) "SwingBridge$Bridge" "shut" "Z") ∈ wB := wB_in 72 (by decide +kernel) (by decide +kernel)
theorem tb_58 : (Jvm.Cond.fieldLink "SwingBridge$Bridge" (32 : Nat) "SwingBridge$Bridge" "stops" "I") ∈ wB := wB_in 73 (by decide +kernel) (by decide +kernel)
theorem tb_59 : (Jvm.Cond.fieldLink "SwingBridge$Cart" (68 : Nat) "SwingBridge$Bridge" "stops" "I") ∈ wB := wB_in 74 (by decide +kernel) (by decide +kernel)
theorem tb_60 : (Jvm.Cond.fieldLink "SwingBridge" (117 : Nat) "SwingBridge$Bridge" "stops" "I") ∈ wB := wB_in 75 (by decide +kernel) (by decide +kernel)
theorem tb_61 : (Jvm.Cond.fieldLink "SwingBridge$Bridge" (35 : Nat) "SwingBridge$Bridge" "failures" "I") ∈ wB := wB_in 76 (by decide +kernel) (by decide +kernel)
theorem tb_62 : (Jvm.Cond.fieldLink "SwingBridge$Cycle" (25 : Nat) "SwingBridge$Bridge" "failures" "I") ∈ wB := wB_in 77 (by decide +kernel) (by decide +kernel)
theorem tb_63 : (Jvm.Cond.fieldLink "SwingBridge" (120 : Nat) "SwingBridge$Bridge" "failures" "I") ∈ wB := wB_in 78 (by decide +kernel) (by decide +kernel)
theorem tb_78 : (Jvm.Cond.superclass "SwingBridge$Bridge" "java/lang/Object") ∈ wB := wB_in 93 (by decide +kernel) (by decide +kernel)
theorem tb_79 : (Jvm.Cond.arrayClass Jvm.ClassFile.FieldType.int) ∈ wB := wB_in 94 (by decide +kernel) (by decide +kernel)
theorem tb_80 : (Jvm.Cond.classLink "SwingBridge" (16 : Nat) "SwingBridge$Cart") ∈ wB := wB_in 95 (by decide +kernel) (by decide +kernel)
theorem tb_81 : (Jvm.Cond.fieldLink "SwingBridge" (10 : Nat) "SwingBridge" "bridge" "LSwingBridge$Bridge;") ∈ wB := wB_in 96 (by decide +kernel) (by decide +kernel)
theorem tb_82 : (Jvm.Cond.fieldLink "SwingBridge" (18 : Nat) "SwingBridge" "vehicles" "[LSwingBridge$Cart;") ∈ wB := wB_in 97 (by decide +kernel) (by decide +kernel)
theorem tb_83 : (Jvm.Cond.fieldLink "SwingBridge" (22 : Nat) "SwingBridge" "known" "I") ∈ wB := wB_in 98 (by decide +kernel) (by decide +kernel)
theorem tb_90 : (Jvm.Cond.superclass "SwingBridge" "java/lang/Object") ∈ wB := wB_in 105 (by decide +kernel) (by decide +kernel)
theorem tb_91 : (Jvm.Cond.methodLink "SwingBridgeLaw" (24 : Nat) ({ cls := "SwingBridge", name := "add", desc := "(IIII)I" } : Jvm.MethodName)) ∈ wB := wB_in 106 (by decide +kernel) (by decide +kernel)
theorem tb_92 : (Jvm.Cond.instanceMethod ({ cls := "SwingBridge", name := "add", desc := "(IIII)I" } : Jvm.MethodName)) ∈ wB := wB_in 107 (by decide +kernel) (by decide +kernel)
theorem tb_93 : (Jvm.Cond.selects "SwingBridge" ({ cls := "SwingBridge", name := "add", desc := "(IIII)I" } : Jvm.MethodName) ({ cls := "SwingBridge", name := "add", desc := "(IIII)I" } : Jvm.MethodName)) ∈ wB := wB_in 108 (by decide +kernel) (by decide +kernel)
theorem tb_94 : (Jvm.Cond.code ({ cls := "SwingBridge", name := "add", desc := "(IIII)I" } : Jvm.MethodName) prog_1_method_2_code (6 : Nat) (Option.some Jvm.ClassFile.FieldType.int)) ∈ wB := wB_in 109 (by decide +kernel) (by decide +kernel)
theorem tb_95 : (Jvm.Cond.methodLink "SwingBridge" (26 : Nat) ({ cls := "SwingBridge", name := "isOutside", desc := "(III)Z" } : Jvm.MethodName)) ∈ wB := wB_in 110 (by decide +kernel) (by decide +kernel)
theorem tb_96 : (Jvm.Cond.static ({ cls := "SwingBridge", name := "isOutside", desc := "(III)Z" } : Jvm.MethodName)) ∈ wB := wB_in 111 (by decide +kernel) (by decide +kernel)
theorem tb_97 : (Jvm.Cond.code ({ cls := "SwingBridge", name := "isOutside", desc := "(III)Z" } : Jvm.MethodName) prog_1_method_18_code (3 : Nat) (Option.some Jvm.ClassFile.FieldType.boolean)) ∈ wB := wB_in 112 (by decide +kernel) (by decide +kernel)
theorem tb_98 : (Jvm.Cond.methodLink "SwingBridge" (30 : Nat) ({ cls := "SwingBridge", name := "make", desc := "(IIIII)LSwingBridge$Cart;" } : Jvm.MethodName)) ∈ wB := wB_in 113 (by decide +kernel) (by decide +kernel)
theorem tb_100 : (Jvm.Cond.instanceMethod ({ cls := "SwingBridge", name := "make", desc := "(IIIII)LSwingBridge$Cart;" } : Jvm.MethodName)) ∈ wB := wB_in 115 (by decide +kernel) (by decide +kernel)
theorem tb_101 : (Jvm.Cond.code ({ cls := "SwingBridge", name := "make", desc := "(IIIII)LSwingBridge$Cart;" } : Jvm.MethodName) prog_1_method_20_code (6 : Nat) (Option.some (Jvm.ClassFile.FieldType.object "SwingBridge$Cart"))) ∈ wB := wB_in 116 (by decide +kernel) (by decide +kernel)
theorem tb_102 : (Jvm.Cond.classLink "SwingBridge" (123 : Nat) "SwingBridge$Wheeled") ∈ wB := wB_in 117 (by decide +kernel) (by decide +kernel)
theorem tb_103 : (Jvm.Cond.instantiable "SwingBridge$Wheeled" (10 : Nat)) ∈ wB := wB_in 118 (by decide +kernel) (by decide +kernel)
theorem tb_104 : (Jvm.Cond.methodLink "SwingBridge" (125 : Nat) ({ cls := "SwingBridge$Wheeled", name := "<init>", desc := "(LSwingBridge$Bridge;IIIII)V" } : Jvm.MethodName)) ∈ wB := wB_in 119 (by decide +kernel) (by decide +kernel)
theorem tb_105 : (Jvm.Cond.instanceMethod ({ cls := "SwingBridge$Wheeled", name := "<init>", desc := "(LSwingBridge$Bridge;IIIII)V" } : Jvm.MethodName)) ∈ wB := wB_in 120 (by decide +kernel) (by decide +kernel)
theorem tb_106 : (Jvm.Cond.code ({ cls := "SwingBridge$Wheeled", name := "<init>", desc := "(LSwingBridge$Bridge;IIIII)V" } : Jvm.MethodName) prog_11_method_1_code (7 : Nat) (Option.none : Option Jvm.ClassFile.FieldType)) ∈ wB := wB_in 121 (by decide +kernel) (by decide +kernel)
theorem tb_107 : (Jvm.Cond.methodLink "SwingBridge$Wheeled" (1 : Nat) ({ cls := "SwingBridge$Cart", name := "<init>", desc := "(LSwingBridge$Bridge;IIIII)V" } : Jvm.MethodName)) ∈ wB := wB_in 122 (by decide +kernel) (by decide +kernel)
theorem tb_108 : (Jvm.Cond.instanceMethod ({ cls := "SwingBridge$Cart", name := "<init>", desc := "(LSwingBridge$Bridge;IIIII)V" } : Jvm.MethodName)) ∈ wB := wB_in 123 (by decide +kernel) (by decide +kernel)
theorem tb_109 : (Jvm.Cond.code ({ cls := "SwingBridge$Cart", name := "<init>", desc := "(LSwingBridge$Bridge;IIIII)V" } : Jvm.MethodName) prog_6_method_1_code (7 : Nat) (Option.none : Option Jvm.ClassFile.FieldType)) ∈ wB := wB_in 124 (by decide +kernel) (by decide +kernel)
theorem tb_110 : (Jvm.Cond.methodLink "SwingBridge$Cart" (3 : Nat) ({ cls := "java/lang/Object", name := "<init>", desc := "()V" } : Jvm.MethodName)) ∈ wB := wB_in 125 (by decide +kernel) (by decide +kernel)
theorem tb_111 : (Jvm.Cond.fieldLink "SwingBridge$Cart" (9 : Nat) "SwingBridge$Cart" "bridge" "LSwingBridge$Bridge;") ∈ wB := wB_in 126 (by decide +kernel) (by decide +kernel)
theorem tb_112 : (Jvm.Cond.fieldLink "SwingBridge$Lorry" (9 : Nat) "SwingBridge$Lorry" "bridge" "LSwingBridge$Bridge;") ∈ wB := wB_in 127 (by decide +kernel) (by decide +kernel)
theorem tb_113 : (Jvm.Cond.sameField "SwingBridge$Lorry" "SwingBridge$Cart" "bridge" "LSwingBridge$Bridge;") ∈ wB := wB_in 128 (by decide +kernel) (by decide +kernel)
theorem tb_114 : (Jvm.Cond.fieldLink "SwingBridge$LateBus" (9 : Nat) "SwingBridge$LateBus" "bridge" "LSwingBridge$Bridge;") ∈ wB := wB_in 129 (by decide +kernel) (by decide +kernel)
theorem tb_115 : (Jvm.Cond.sameField "SwingBridge$LateBus" "SwingBridge$Cart" "bridge" "LSwingBridge$Bridge;") ∈ wB := wB_in 130 (by decide +kernel) (by decide +kernel)
theorem tb_116 : (Jvm.Cond.fieldLink "SwingBridge$Tanker" (9 : Nat) "SwingBridge$Tanker" "bridge" "LSwingBridge$Bridge;") ∈ wB := wB_in 131 (by decide +kernel) (by decide +kernel)
theorem tb_117 : (Jvm.Cond.sameField "SwingBridge$Tanker" "SwingBridge$Cart" "bridge" "LSwingBridge$Bridge;") ∈ wB := wB_in 132 (by decide +kernel) (by decide +kernel)
theorem tb_118 : (Jvm.Cond.fieldLink "SwingBridge$Cab" (9 : Nat) "SwingBridge$Cab" "bridge" "LSwingBridge$Bridge;") ∈ wB := wB_in 133 (by decide +kernel) (by decide +kernel)
theorem tb_119 : (Jvm.Cond.sameField "SwingBridge$Cab" "SwingBridge$Cart" "bridge" "LSwingBridge$Bridge;") ∈ wB := wB_in 134 (by decide +kernel) (by decide +kernel)
theorem tb_120 : (Jvm.Cond.fieldLink "SwingBridge$Car" (9 : Nat) "SwingBridge$Car" "bridge" "LSwingBridge$Bridge;") ∈ wB := wB_in 135 (by decide +kernel) (by decide +kernel)
theorem tb_121 : (Jvm.Cond.sameField "SwingBridge$Car" "SwingBridge$Cart" "bridge" "LSwingBridge$Bridge;") ∈ wB := wB_in 136 (by decide +kernel) (by decide +kernel)
theorem tb_122 : (Jvm.Cond.fieldLink "SwingBridge$Cycle" (9 : Nat) "SwingBridge$Cycle" "bridge" "LSwingBridge$Bridge;") ∈ wB := wB_in 137 (by decide +kernel) (by decide +kernel)
theorem tb_123 : (Jvm.Cond.sameField "SwingBridge$Cycle" "SwingBridge$Cart" "bridge" "LSwingBridge$Bridge;") ∈ wB := wB_in 138 (by decide +kernel) (by decide +kernel)
theorem tb_124 : (Jvm.Cond.fieldLink "SwingBridge$Bus" (9 : Nat) "SwingBridge$Bus" "bridge" "LSwingBridge$Bridge;") ∈ wB := wB_in 139 (by decide +kernel) (by decide +kernel)
theorem tb_125 : (Jvm.Cond.sameField "SwingBridge$Bus" "SwingBridge$Cart" "bridge" "LSwingBridge$Bridge;") ∈ wB := wB_in 140 (by decide +kernel) (by decide +kernel)
theorem tb_126 : (Jvm.Cond.fieldLink "SwingBridge$Cart" (15 : Nat) "SwingBridge$Cart" "number" "I") ∈ wB := wB_in 141 (by decide +kernel) (by decide +kernel)
theorem tb_127 : (Jvm.Cond.fieldLink "SwingBridge$Bridge" (38 : Nat) "SwingBridge$Cart" "number" "I") ∈ wB := wB_in 142 (by decide +kernel) (by decide +kernel)
theorem tb_128 : (Jvm.Cond.fieldLink "SwingBridge" (107 : Nat) "SwingBridge$Cart" "number" "I") ∈ wB := wB_in 143 (by decide +kernel) (by decide +kernel)
theorem tb_129 : (Jvm.Cond.fieldLink "SwingBridge$Cart" (19 : Nat) "SwingBridge$Cart" "kind" "I") ∈ wB := wB_in 144 (by decide +kernel) (by decide +kernel)
theorem tb_130 : (Jvm.Cond.fieldLink "SwingBridge$Bridge" (41 : Nat) "SwingBridge$Cart" "kind" "I") ∈ wB := wB_in 145 (by decide +kernel) (by decide +kernel)
theorem tb_131 : (Jvm.Cond.fieldLink "SwingBridge" (89 : Nat) "SwingBridge$Cart" "kind" "I") ∈ wB := wB_in 146 (by decide +kernel) (by decide +kernel)
theorem tb_132 : (Jvm.Cond.fieldLink "SwingBridge$Cart" (22 : Nat) "SwingBridge$Cart" "mass" "I") ∈ wB := wB_in 147 (by decide +kernel) (by decide +kernel)
theorem tb_133 : (Jvm.Cond.fieldLink "SwingBridge" (92 : Nat) "SwingBridge$Cart" "mass" "I") ∈ wB := wB_in 148 (by decide +kernel) (by decide +kernel)
theorem tb_134 : (Jvm.Cond.fieldLink "SwingBridge$Cart" (25 : Nat) "SwingBridge$Cart" "share" "I") ∈ wB := wB_in 149 (by decide +kernel) (by decide +kernel)
theorem tb_135 : (Jvm.Cond.fieldLink "SwingBridge" (98 : Nat) "SwingBridge$Cart" "share" "I") ∈ wB := wB_in 150 (by decide +kernel) (by decide +kernel)
theorem tb_136 : (Jvm.Cond.fieldLink "SwingBridge$Cart" (28 : Nat) "SwingBridge$Cart" "load" "I") ∈ wB := wB_in 151 (by decide +kernel) (by decide +kernel)
theorem tb_137 : (Jvm.Cond.fieldLink "SwingBridge$Cycle" (21 : Nat) "SwingBridge$Cycle" "load" "I") ∈ wB := wB_in 152 (by decide +kernel) (by decide +kernel)
theorem tb_138 : (Jvm.Cond.sameField "SwingBridge$Cycle" "SwingBridge$Cart" "load" "I") ∈ wB := wB_in 153 (by decide +kernel) (by decide +kernel)
theorem tb_139 : (Jvm.Cond.fieldLink "SwingBridge$Bus" (21 : Nat) "SwingBridge$Bus" "load" "I") ∈ wB := wB_in 154 (by decide +kernel) (by decide +kernel)
theorem tb_140 : (Jvm.Cond.sameField "SwingBridge$Bus" "SwingBridge$Cart" "load" "I") ∈ wB := wB_in 155 (by decide +kernel) (by decide +kernel)
theorem tb_141 : (Jvm.Cond.fieldLink "SwingBridge$Lorry" (25 : Nat) "SwingBridge$Lorry" "load" "I") ∈ wB := wB_in 156 (by decide +kernel) (by decide +kernel)
theorem tb_142 : (Jvm.Cond.sameField "SwingBridge$Lorry" "SwingBridge$Cart" "load" "I") ∈ wB := wB_in 157 (by decide +kernel) (by decide +kernel)
theorem tb_143 : (Jvm.Cond.fieldLink "SwingBridge$Tanker" (25 : Nat) "SwingBridge$Tanker" "load" "I") ∈ wB := wB_in 158 (by decide +kernel) (by decide +kernel)
theorem tb_144 : (Jvm.Cond.sameField "SwingBridge$Tanker" "SwingBridge$Cart" "load" "I") ∈ wB := wB_in 159 (by decide +kernel) (by decide +kernel)
theorem tb_145 : (Jvm.Cond.fieldLink "SwingBridge" (95 : Nat) "SwingBridge$Cart" "load" "I") ∈ wB := wB_in 160 (by decide +kernel) (by decide +kernel)
theorem tb_146 : (Jvm.Cond.fieldLink "SwingBridge$Cart" (31 : Nat) "SwingBridge$Cart" "place" "I") ∈ wB := wB_in 161 (by decide +kernel) (by decide +kernel)
theorem tb_147 : (Jvm.Cond.fieldLink "SwingBridge" (50 : Nat) "SwingBridge$Cart" "place" "I") ∈ wB := wB_in 162 (by decide +kernel) (by decide +kernel)
theorem tb_148 : (Jvm.Cond.fieldLink "SwingBridge$Cart" (34 : Nat) "SwingBridge$Cart" "paid" "I") ∈ wB := wB_in 163 (by decide +kernel) (by decide +kernel)
theorem tb_149 : (Jvm.Cond.fieldLink "SwingBridge" (57 : Nat) "SwingBridge$Cart" "paid" "I") ∈ wB := wB_in 164 (by decide +kernel) (by decide +kernel)
theorem tb_150 : (Jvm.Cond.fieldLink "SwingBridge$Cart" (37 : Nat) "SwingBridge$Cart" "times" "I") ∈ wB := wB_in 165 (by decide +kernel) (by decide +kernel)
theorem tb_151 : (Jvm.Cond.fieldLink "SwingBridge" (101 : Nat) "SwingBridge$Cart" "times" "I") ∈ wB := wB_in 166 (by decide +kernel) (by decide +kernel)
theorem tb_152 : (Jvm.Cond.fieldLink "SwingBridge$Cart" (40 : Nat) "SwingBridge$Cart" "meter" "I") ∈ wB := wB_in 167 (by decide +kernel) (by decide +kernel)
theorem tb_153 : (Jvm.Cond.fieldLink "SwingBridge$Cab" (25 : Nat) "SwingBridge$Cab" "meter" "I") ∈ wB := wB_in 168 (by decide +kernel) (by decide +kernel)
theorem tb_154 : (Jvm.Cond.sameField "SwingBridge$Cab" "SwingBridge$Cart" "meter" "I") ∈ wB := wB_in 169 (by decide +kernel) (by decide +kernel)
theorem tb_155 : (Jvm.Cond.fieldLink "SwingBridge" (104 : Nat) "SwingBridge$Cart" "meter" "I") ∈ wB := wB_in 170 (by decide +kernel) (by decide +kernel)
theorem tb_176 : (Jvm.Cond.superclass "SwingBridge$Wheeled" "SwingBridge$Cart") ∈ wB := wB_in 191 (by decide +kernel) (by decide +kernel)
theorem tb_177 : (Jvm.Cond.classLink "SwingBridge" (128 : Nat) "SwingBridge$Car") ∈ wB := wB_in 192 (by decide +kernel) (by decide +kernel)
theorem tb_178 : (Jvm.Cond.instantiable "SwingBridge$Car" (10 : Nat)) ∈ wB := wB_in 193 (by decide +kernel) (by decide +kernel)
theorem tb_179 : (Jvm.Cond.methodLink "SwingBridge" (130 : Nat) ({ cls := "SwingBridge$Car", name := "<init>", desc := "(LSwingBridge$Bridge;IIIII)V" } : Jvm.MethodName)) ∈ wB := wB_in 194 (by decide +kernel) (by decide +kernel)
theorem tb_180 : (Jvm.Cond.instanceMethod ({ cls := "SwingBridge$Car", name := "<init>", desc := "(LSwingBridge$Bridge;IIIII)V" } : Jvm.MethodName)) ∈ wB := wB_in 195 (by decide +kernel) (by decide +kernel)
theorem tb_181 : (Jvm.Cond.code ({ cls := "SwingBridge$Car", name := "<init>", desc := "(LSwingBridge$Bridge;IIIII)V" } : Jvm.MethodName) prog_5_method_1_code (7 : Nat) (Option.none : Option Jvm.ClassFile.FieldType)) ∈ wB := wB_in 196 (by decide +kernel) (by decide +kernel)
theorem tb_182 : (Jvm.Cond.methodLink "SwingBridge$Car" (3 : Nat) ({ cls := "SwingBridge$Wheeled", name := "<init>", desc := "(LSwingBridge$Bridge;IIIII)V" } : Jvm.MethodName)) ∈ wB := wB_in 197 (by decide +kernel) (by decide +kernel)
theorem tb_193 : (Jvm.Cond.superclass "SwingBridge$Car" "SwingBridge$Wheeled") ∈ wB := wB_in 208 (by decide +kernel) (by decide +kernel)
theorem tb_194 : (Jvm.Cond.classLink "SwingBridge" (131 : Nat) "SwingBridge$Cab") ∈ wB := wB_in 209 (by decide +kernel) (by decide +kernel)
theorem tb_195 : (Jvm.Cond.instantiable "SwingBridge$Cab" (10 : Nat)) ∈ wB := wB_in 210 (by decide +kernel) (by decide +kernel)
theorem tb_196 : (Jvm.Cond.methodLink "SwingBridge" (133 : Nat) ({ cls := "SwingBridge$Cab", name := "<init>", desc := "(LSwingBridge$Bridge;IIIII)V" } : Jvm.MethodName)) ∈ wB := wB_in 211 (by decide +kernel) (by decide +kernel)
theorem tb_197 : (Jvm.Cond.instanceMethod ({ cls := "SwingBridge$Cab", name := "<init>", desc := "(LSwingBridge$Bridge;IIIII)V" } : Jvm.MethodName)) ∈ wB := wB_in 212 (by decide +kernel) (by decide +kernel)
theorem tb_198 : (Jvm.Cond.code ({ cls := "SwingBridge$Cab", name := "<init>", desc := "(LSwingBridge$Bridge;IIIII)V" } : Jvm.MethodName) prog_4_method_1_code (7 : Nat) (Option.none : Option Jvm.ClassFile.FieldType)) ∈ wB := wB_in 213 (by decide +kernel) (by decide +kernel)
theorem tb_199 : (Jvm.Cond.methodLink "SwingBridge$Cab" (3 : Nat) ({ cls := "SwingBridge$Car", name := "<init>", desc := "(LSwingBridge$Bridge;IIIII)V" } : Jvm.MethodName)) ∈ wB := wB_in 214 (by decide +kernel) (by decide +kernel)
theorem tb_210 : (Jvm.Cond.superclass "SwingBridge$Cab" "SwingBridge$Car") ∈ wB := wB_in 225 (by decide +kernel) (by decide +kernel)
theorem tb_211 : (Jvm.Cond.classLink "SwingBridge" (134 : Nat) "SwingBridge$Lorry") ∈ wB := wB_in 226 (by decide +kernel) (by decide +kernel)
theorem tb_212 : (Jvm.Cond.instantiable "SwingBridge$Lorry" (10 : Nat)) ∈ wB := wB_in 227 (by decide +kernel) (by decide +kernel)
theorem tb_213 : (Jvm.Cond.methodLink "SwingBridge" (136 : Nat) ({ cls := "SwingBridge$Lorry", name := "<init>", desc := "(LSwingBridge$Bridge;IIIII)V" } : Jvm.MethodName)) ∈ wB := wB_in 228 (by decide +kernel) (by decide +kernel)
theorem tb_214 : (Jvm.Cond.instanceMethod ({ cls := "SwingBridge$Lorry", name := "<init>", desc := "(LSwingBridge$Bridge;IIIII)V" } : Jvm.MethodName)) ∈ wB := wB_in 229 (by decide +kernel) (by decide +kernel)
theorem tb_215 : (Jvm.Cond.code ({ cls := "SwingBridge$Lorry", name := "<init>", desc := "(LSwingBridge$Bridge;IIIII)V" } : Jvm.MethodName) prog_9_method_1_code (7 : Nat) (Option.none : Option Jvm.ClassFile.FieldType)) ∈ wB := wB_in 230 (by decide +kernel) (by decide +kernel)
theorem tb_216 : (Jvm.Cond.methodLink "SwingBridge$Lorry" (3 : Nat) ({ cls := "SwingBridge$Wheeled", name := "<init>", desc := "(LSwingBridge$Bridge;IIIII)V" } : Jvm.MethodName)) ∈ wB := wB_in 231 (by decide +kernel) (by decide +kernel)
theorem tb_227 : (Jvm.Cond.superclass "SwingBridge$Lorry" "SwingBridge$Wheeled") ∈ wB := wB_in 242 (by decide +kernel) (by decide +kernel)
theorem tb_228 : (Jvm.Cond.classLink "SwingBridge" (137 : Nat) "SwingBridge$Tanker") ∈ wB := wB_in 243 (by decide +kernel) (by decide +kernel)
theorem tb_229 : (Jvm.Cond.instantiable "SwingBridge$Tanker" (10 : Nat)) ∈ wB := wB_in 244 (by decide +kernel) (by decide +kernel)
theorem tb_230 : (Jvm.Cond.methodLink "SwingBridge" (139 : Nat) ({ cls := "SwingBridge$Tanker", name := "<init>", desc := "(LSwingBridge$Bridge;IIIII)V" } : Jvm.MethodName)) ∈ wB := wB_in 245 (by decide +kernel) (by decide +kernel)
theorem tb_231 : (Jvm.Cond.instanceMethod ({ cls := "SwingBridge$Tanker", name := "<init>", desc := "(LSwingBridge$Bridge;IIIII)V" } : Jvm.MethodName)) ∈ wB := wB_in 246 (by decide +kernel) (by decide +kernel)
theorem tb_232 : (Jvm.Cond.code ({ cls := "SwingBridge$Tanker", name := "<init>", desc := "(LSwingBridge$Bridge;IIIII)V" } : Jvm.MethodName) prog_10_method_1_code (7 : Nat) (Option.none : Option Jvm.ClassFile.FieldType)) ∈ wB := wB_in 247 (by decide +kernel) (by decide +kernel)
theorem tb_233 : (Jvm.Cond.methodLink "SwingBridge$Tanker" (3 : Nat) ({ cls := "SwingBridge$Lorry", name := "<init>", desc := "(LSwingBridge$Bridge;IIIII)V" } : Jvm.MethodName)) ∈ wB := wB_in 248 (by decide +kernel) (by decide +kernel)
theorem tb_244 : (Jvm.Cond.superclass "SwingBridge$Tanker" "SwingBridge$Lorry") ∈ wB := wB_in 259 (by decide +kernel) (by decide +kernel)
theorem tb_245 : (Jvm.Cond.classLink "SwingBridge" (140 : Nat) "SwingBridge$Bus") ∈ wB := wB_in 260 (by decide +kernel) (by decide +kernel)
theorem tb_246 : (Jvm.Cond.instantiable "SwingBridge$Bus" (10 : Nat)) ∈ wB := wB_in 261 (by decide +kernel) (by decide +kernel)
theorem tb_247 : (Jvm.Cond.methodLink "SwingBridge" (142 : Nat) ({ cls := "SwingBridge$Bus", name := "<init>", desc := "(LSwingBridge$Bridge;IIIII)V" } : Jvm.MethodName)) ∈ wB := wB_in 262 (by decide +kernel) (by decide +kernel)
theorem tb_248 : (Jvm.Cond.instanceMethod ({ cls := "SwingBridge$Bus", name := "<init>", desc := "(LSwingBridge$Bridge;IIIII)V" } : Jvm.MethodName)) ∈ wB := wB_in 263 (by decide +kernel) (by decide +kernel)
theorem tb_249 : (Jvm.Cond.code ({ cls := "SwingBridge$Bus", name := "<init>", desc := "(LSwingBridge$Bridge;IIIII)V" } : Jvm.MethodName) prog_3_method_1_code (7 : Nat) (Option.none : Option Jvm.ClassFile.FieldType)) ∈ wB := wB_in 264 (by decide +kernel) (by decide +kernel)
theorem tb_250 : (Jvm.Cond.methodLink "SwingBridge$Bus" (3 : Nat) ({ cls := "SwingBridge$Lorry", name := "<init>", desc := "(LSwingBridge$Bridge;IIIII)V" } : Jvm.MethodName)) ∈ wB := wB_in 265 (by decide +kernel) (by decide +kernel)
theorem tb_261 : (Jvm.Cond.superclass "SwingBridge$Bus" "SwingBridge$Lorry") ∈ wB := wB_in 276 (by decide +kernel) (by decide +kernel)
theorem tb_262 : (Jvm.Cond.classLink "SwingBridge" (143 : Nat) "SwingBridge$LateBus") ∈ wB := wB_in 277 (by decide +kernel) (by decide +kernel)
theorem tb_263 : (Jvm.Cond.instantiable "SwingBridge$LateBus" (10 : Nat)) ∈ wB := wB_in 278 (by decide +kernel) (by decide +kernel)
theorem tb_264 : (Jvm.Cond.methodLink "SwingBridge" (145 : Nat) ({ cls := "SwingBridge$LateBus", name := "<init>", desc := "(LSwingBridge$Bridge;IIIII)V" } : Jvm.MethodName)) ∈ wB := wB_in 279 (by decide +kernel) (by decide +kernel)
theorem tb_265 : (Jvm.Cond.instanceMethod ({ cls := "SwingBridge$LateBus", name := "<init>", desc := "(LSwingBridge$Bridge;IIIII)V" } : Jvm.MethodName)) ∈ wB := wB_in 280 (by decide +kernel) (by decide +kernel)
theorem tb_266 : (Jvm.Cond.code ({ cls := "SwingBridge$LateBus", name := "<init>", desc := "(LSwingBridge$Bridge;IIIII)V" } : Jvm.MethodName) prog_8_method_1_code (7 : Nat) (Option.none : Option Jvm.ClassFile.FieldType)) ∈ wB := wB_in 281 (by decide +kernel) (by decide +kernel)
theorem tb_267 : (Jvm.Cond.methodLink "SwingBridge$LateBus" (3 : Nat) ({ cls := "SwingBridge$Bus", name := "<init>", desc := "(LSwingBridge$Bridge;IIIII)V" } : Jvm.MethodName)) ∈ wB := wB_in 282 (by decide +kernel) (by decide +kernel)
theorem tb_278 : (Jvm.Cond.superclass "SwingBridge$LateBus" "SwingBridge$Bus") ∈ wB := wB_in 293 (by decide +kernel) (by decide +kernel)
theorem tb_279 : (Jvm.Cond.classLink "SwingBridge" (146 : Nat) "SwingBridge$Cycle") ∈ wB := wB_in 294 (by decide +kernel) (by decide +kernel)
theorem tb_280 : (Jvm.Cond.instantiable "SwingBridge$Cycle" (10 : Nat)) ∈ wB := wB_in 295 (by decide +kernel) (by decide +kernel)
theorem tb_281 : (Jvm.Cond.methodLink "SwingBridge" (148 : Nat) ({ cls := "SwingBridge$Cycle", name := "<init>", desc := "(LSwingBridge$Bridge;IIIII)V" } : Jvm.MethodName)) ∈ wB := wB_in 296 (by decide +kernel) (by decide +kernel)
theorem tb_282 : (Jvm.Cond.instanceMethod ({ cls := "SwingBridge$Cycle", name := "<init>", desc := "(LSwingBridge$Bridge;IIIII)V" } : Jvm.MethodName)) ∈ wB := wB_in 297 (by decide +kernel) (by decide +kernel)
theorem tb_283 : (Jvm.Cond.code ({ cls := "SwingBridge$Cycle", name := "<init>", desc := "(LSwingBridge$Bridge;IIIII)V" } : Jvm.MethodName) prog_7_method_1_code (7 : Nat) (Option.none : Option Jvm.ClassFile.FieldType)) ∈ wB := wB_in 298 (by decide +kernel) (by decide +kernel)
theorem tb_284 : (Jvm.Cond.methodLink "SwingBridge$Cycle" (3 : Nat) ({ cls := "SwingBridge$Cart", name := "<init>", desc := "(LSwingBridge$Bridge;IIIII)V" } : Jvm.MethodName)) ∈ wB := wB_in 299 (by decide +kernel) (by decide +kernel)
theorem tb_295 : (Jvm.Cond.superclass "SwingBridge$Cycle" "SwingBridge$Cart") ∈ wB := wB_in 310 (by decide +kernel) (by decide +kernel)
theorem tb_296 : (Jvm.Cond.instantiable "SwingBridge$Cart" (10 : Nat)) ∈ wB := wB_in 311 (by decide +kernel) (by decide +kernel)
theorem tb_297 : (Jvm.Cond.methodLink "SwingBridge" (149 : Nat) ({ cls := "SwingBridge$Cart", name := "<init>", desc := "(LSwingBridge$Bridge;IIIII)V" } : Jvm.MethodName)) ∈ wB := wB_in 312 (by decide +kernel) (by decide +kernel)
theorem tb_308 : (Jvm.Cond.superclass "SwingBridge$Cart" "java/lang/Object") ∈ wB := wB_in 323 (by decide +kernel) (by decide +kernel)
theorem tb_309 : (Jvm.Cond.methodLink "SwingBridgeLaw" (29 : Nat) ({ cls := "SwingBridge", name := "weight", desc := "(I)I" } : Jvm.MethodName)) ∈ wB := wB_in 324 (by decide +kernel) (by decide +kernel)
theorem tb_310 : (Jvm.Cond.instanceMethod ({ cls := "SwingBridge", name := "weight", desc := "(I)I" } : Jvm.MethodName)) ∈ wB := wB_in 325 (by decide +kernel) (by decide +kernel)
theorem tb_311 : (Jvm.Cond.selects "SwingBridge" ({ cls := "SwingBridge", name := "weight", desc := "(I)I" } : Jvm.MethodName) ({ cls := "SwingBridge", name := "weight", desc := "(I)I" } : Jvm.MethodName)) ∈ wB := wB_in 326 (by decide +kernel) (by decide +kernel)
theorem tb_312 : (Jvm.Cond.code ({ cls := "SwingBridge", name := "weight", desc := "(I)I" } : Jvm.MethodName) prog_1_method_3_code (3 : Nat) (Option.some Jvm.ClassFile.FieldType.int)) ∈ wB := wB_in 327 (by decide +kernel) (by decide +kernel)
theorem tb_313 : (Jvm.Cond.methodLink "SwingBridge" (34 : Nat) ({ cls := "SwingBridge", name := "find", desc := "(I)LSwingBridge$Cart;" } : Jvm.MethodName)) ∈ wB := wB_in 328 (by decide +kernel) (by decide +kernel)
theorem tb_315 : (Jvm.Cond.instanceMethod ({ cls := "SwingBridge", name := "find", desc := "(I)LSwingBridge$Cart;" } : Jvm.MethodName)) ∈ wB := wB_in 330 (by decide +kernel) (by decide +kernel)
theorem tb_316 : (Jvm.Cond.code ({ cls := "SwingBridge", name := "find", desc := "(I)LSwingBridge$Cart;" } : Jvm.MethodName) prog_1_method_19_code (2 : Nat) (Option.some (Jvm.ClassFile.FieldType.object "SwingBridge$Cart"))) ∈ wB := wB_in 331 (by decide +kernel) (by decide +kernel)
theorem tb_317 : (Jvm.Cond.methodLink "SwingBridge" (38 : Nat) ({ cls := "SwingBridge$Cart", name := "weightAct", desc := "()I" } : Jvm.MethodName)) ∈ wB := wB_in 332 (by decide +kernel) (by decide +kernel)
theorem tb_318 : (Jvm.Cond.instanceMethod ({ cls := "SwingBridge$Cart", name := "weightAct", desc := "()I" } : Jvm.MethodName)) ∈ wB := wB_in 333 (by decide +kernel) (by decide +kernel)
theorem tb_319 : (Jvm.Cond.selects "SwingBridge$Cart" ({ cls := "SwingBridge$Cart", name := "weightAct", desc := "()I" } : Jvm.MethodName) ({ cls := "SwingBridge$Cart", name := "weightAct", desc := "()I" } : Jvm.MethodName)) ∈ wB := wB_in 334 (by decide +kernel) (by decide +kernel)
theorem tb_320 : (Jvm.Cond.sameMethod "SwingBridge$Cart" "SwingBridge$Cart" "weightAct" "()I") ∈ wB := wB_in 335 (by decide +kernel) (by decide +kernel)
theorem tb_321 : (Jvm.Cond.selects "SwingBridge$Bus" ({ cls := "SwingBridge$Cart", name := "weightAct", desc := "()I" } : Jvm.MethodName) ({ cls := "SwingBridge$Lorry", name := "weightAct", desc := "()I" } : Jvm.MethodName)) ∈ wB := wB_in 336 (by decide +kernel) (by decide +kernel)
theorem tb_322 : (Jvm.Cond.instanceMethod ({ cls := "SwingBridge$Lorry", name := "weightAct", desc := "()I" } : Jvm.MethodName)) ∈ wB := wB_in 337 (by decide +kernel) (by decide +kernel)
theorem tb_323 : (Jvm.Cond.code ({ cls := "SwingBridge$Lorry", name := "weightAct", desc := "()I" } : Jvm.MethodName) prog_9_method_2_code (1 : Nat) (Option.some Jvm.ClassFile.FieldType.int)) ∈ wB := wB_in 338 (by decide +kernel) (by decide +kernel)
theorem tb_324 : (Jvm.Cond.methodLink "SwingBridge$Lorry" (21 : Nat) ({ cls := "SwingBridge$Wheeled", name := "weightAct", desc := "()I" } : Jvm.MethodName)) ∈ wB := wB_in 339 (by decide +kernel) (by decide +kernel)
theorem tb_325 : (Jvm.Cond.sameMethod "SwingBridge$Wheeled" "SwingBridge$Cart" "weightAct" "()I") ∈ wB := wB_in 340 (by decide +kernel) (by decide +kernel)
theorem tb_327 : (Jvm.Cond.selects "SwingBridge$Cab" ({ cls := "SwingBridge$Cart", name := "weightAct", desc := "()I" } : Jvm.MethodName) ({ cls := "SwingBridge$Cart", name := "weightAct", desc := "()I" } : Jvm.MethodName)) ∈ wB := wB_in 342 (by decide +kernel) (by decide +kernel)
theorem tb_328 : (Jvm.Cond.selects "SwingBridge$Car" ({ cls := "SwingBridge$Cart", name := "weightAct", desc := "()I" } : Jvm.MethodName) ({ cls := "SwingBridge$Cart", name := "weightAct", desc := "()I" } : Jvm.MethodName)) ∈ wB := wB_in 343 (by decide +kernel) (by decide +kernel)
theorem tb_329 : (Jvm.Cond.selects "SwingBridge$Cycle" ({ cls := "SwingBridge$Cart", name := "weightAct", desc := "()I" } : Jvm.MethodName) ({ cls := "SwingBridge$Cart", name := "weightAct", desc := "()I" } : Jvm.MethodName)) ∈ wB := wB_in 344 (by decide +kernel) (by decide +kernel)
theorem tb_330 : (Jvm.Cond.selects "SwingBridge$LateBus" ({ cls := "SwingBridge$Cart", name := "weightAct", desc := "()I" } : Jvm.MethodName) ({ cls := "SwingBridge$LateBus", name := "weightAct", desc := "()I" } : Jvm.MethodName)) ∈ wB := wB_in 345 (by decide +kernel) (by decide +kernel)
theorem tb_331 : (Jvm.Cond.instanceMethod ({ cls := "SwingBridge$LateBus", name := "weightAct", desc := "()I" } : Jvm.MethodName)) ∈ wB := wB_in 346 (by decide +kernel) (by decide +kernel)
theorem tb_332 : (Jvm.Cond.code ({ cls := "SwingBridge$LateBus", name := "weightAct", desc := "()I" } : Jvm.MethodName) prog_8_method_2_code (1 : Nat) (Option.some Jvm.ClassFile.FieldType.int)) ∈ wB := wB_in 347 (by decide +kernel) (by decide +kernel)
theorem tb_333 : (Jvm.Cond.methodLink "SwingBridge$LateBus" (21 : Nat) ({ cls := "SwingBridge$Bus", name := "weightAct", desc := "()I" } : Jvm.MethodName)) ∈ wB := wB_in 348 (by decide +kernel) (by decide +kernel)
theorem tb_334 : (Jvm.Cond.sameMethod "SwingBridge$Bus" "SwingBridge$Lorry" "weightAct" "()I") ∈ wB := wB_in 349 (by decide +kernel) (by decide +kernel)
theorem tb_336 : (Jvm.Cond.selects "SwingBridge$Lorry" ({ cls := "SwingBridge$Cart", name := "weightAct", desc := "()I" } : Jvm.MethodName) ({ cls := "SwingBridge$Lorry", name := "weightAct", desc := "()I" } : Jvm.MethodName)) ∈ wB := wB_in 351 (by decide +kernel) (by decide +kernel)
theorem tb_337 : (Jvm.Cond.selects "SwingBridge$Tanker" ({ cls := "SwingBridge$Cart", name := "weightAct", desc := "()I" } : Jvm.MethodName) ({ cls := "SwingBridge$Tanker", name := "weightAct", desc := "()I" } : Jvm.MethodName)) ∈ wB := wB_in 352 (by decide +kernel) (by decide +kernel)
theorem tb_338 : (Jvm.Cond.instanceMethod ({ cls := "SwingBridge$Tanker", name := "weightAct", desc := "()I" } : Jvm.MethodName)) ∈ wB := wB_in 353 (by decide +kernel) (by decide +kernel)
theorem tb_339 : (Jvm.Cond.code ({ cls := "SwingBridge$Tanker", name := "weightAct", desc := "()I" } : Jvm.MethodName) prog_10_method_2_code (1 : Nat) (Option.some Jvm.ClassFile.FieldType.int)) ∈ wB := wB_in 354 (by decide +kernel) (by decide +kernel)
theorem tb_340 : (Jvm.Cond.methodLink "SwingBridge$Tanker" (21 : Nat) ({ cls := "SwingBridge$Lorry", name := "weightAct", desc := "()I" } : Jvm.MethodName)) ∈ wB := wB_in 355 (by decide +kernel) (by decide +kernel)
theorem tb_341 : (Jvm.Cond.selects "SwingBridge$Wheeled" ({ cls := "SwingBridge$Cart", name := "weightAct", desc := "()I" } : Jvm.MethodName) ({ cls := "SwingBridge$Cart", name := "weightAct", desc := "()I" } : Jvm.MethodName)) ∈ wB := wB_in 356 (by decide +kernel) (by decide +kernel)
theorem tb_342 : (Jvm.Cond.code ({ cls := "SwingBridge$Cart", name := "weightAct", desc := "()I" } : Jvm.MethodName) prog_6_method_2_code (1 : Nat) (Option.some Jvm.ClassFile.FieldType.int)) ∈ wB := wB_in 357 (by decide +kernel) (by decide +kernel)
theorem tb_343 : (Jvm.Cond.methodLink "SwingBridgeLaw" (44 : Nat) ({ cls := "SwingBridge", name := "fits", desc := "(I)I" } : Jvm.MethodName)) ∈ wB := wB_in 358 (by decide +kernel) (by decide +kernel)
theorem tb_344 : (Jvm.Cond.instanceMethod ({ cls := "SwingBridge", name := "fits", desc := "(I)I" } : Jvm.MethodName)) ∈ wB := wB_in 359 (by decide +kernel) (by decide +kernel)
theorem tb_345 : (Jvm.Cond.selects "SwingBridge" ({ cls := "SwingBridge", name := "fits", desc := "(I)I" } : Jvm.MethodName) ({ cls := "SwingBridge", name := "fits", desc := "(I)I" } : Jvm.MethodName)) ∈ wB := wB_in 360 (by decide +kernel) (by decide +kernel)
theorem tb_346 : (Jvm.Cond.code ({ cls := "SwingBridge", name := "fits", desc := "(I)I" } : Jvm.MethodName) prog_1_method_5_code (3 : Nat) (Option.some Jvm.ClassFile.FieldType.int)) ∈ wB := wB_in 361 (by decide +kernel) (by decide +kernel)
theorem tb_347 : (Jvm.Cond.methodLink "SwingBridge" (46 : Nat) ({ cls := "SwingBridge$Cart", name := "fitAct", desc := "()Z" } : Jvm.MethodName)) ∈ wB := wB_in 362 (by decide +kernel) (by decide +kernel)
theorem tb_348 : (Jvm.Cond.instanceMethod ({ cls := "SwingBridge$Cart", name := "fitAct", desc := "()Z" } : Jvm.MethodName)) ∈ wB := wB_in 363 (by decide +kernel) (by decide +kernel)
theorem tb_349 : (Jvm.Cond.selects "SwingBridge$Cart" ({ cls := "SwingBridge$Cart", name := "fitAct", desc := "()Z" } : Jvm.MethodName) ({ cls := "SwingBridge$Cart", name := "fitAct", desc := "()Z" } : Jvm.MethodName)) ∈ wB := wB_in 364 (by decide +kernel) (by decide +kernel)
theorem tb_350 : (Jvm.Cond.sameMethod "SwingBridge$Cart" "SwingBridge$Cart" "fitAct" "()Z") ∈ wB := wB_in 365 (by decide +kernel) (by decide +kernel)
theorem tb_351 : (Jvm.Cond.selects "SwingBridge$Bus" ({ cls := "SwingBridge$Cart", name := "fitAct", desc := "()Z" } : Jvm.MethodName) ({ cls := "SwingBridge$Cart", name := "fitAct", desc := "()Z" } : Jvm.MethodName)) ∈ wB := wB_in 366 (by decide +kernel) (by decide +kernel)
theorem tb_352 : (Jvm.Cond.selects "SwingBridge$Cab" ({ cls := "SwingBridge$Cart", name := "fitAct", desc := "()Z" } : Jvm.MethodName) ({ cls := "SwingBridge$Cart", name := "fitAct", desc := "()Z" } : Jvm.MethodName)) ∈ wB := wB_in 367 (by decide +kernel) (by decide +kernel)
theorem tb_353 : (Jvm.Cond.selects "SwingBridge$Car" ({ cls := "SwingBridge$Cart", name := "fitAct", desc := "()Z" } : Jvm.MethodName) ({ cls := "SwingBridge$Cart", name := "fitAct", desc := "()Z" } : Jvm.MethodName)) ∈ wB := wB_in 368 (by decide +kernel) (by decide +kernel)
theorem tb_354 : (Jvm.Cond.selects "SwingBridge$Cycle" ({ cls := "SwingBridge$Cart", name := "fitAct", desc := "()Z" } : Jvm.MethodName) ({ cls := "SwingBridge$Cycle", name := "fitAct", desc := "()Z" } : Jvm.MethodName)) ∈ wB := wB_in 369 (by decide +kernel) (by decide +kernel)
theorem tb_355 : (Jvm.Cond.instanceMethod ({ cls := "SwingBridge$Cycle", name := "fitAct", desc := "()Z" } : Jvm.MethodName)) ∈ wB := wB_in 370 (by decide +kernel) (by decide +kernel)
theorem tb_356 : (Jvm.Cond.code ({ cls := "SwingBridge$Cycle", name := "fitAct", desc := "()Z" } : Jvm.MethodName) prog_7_method_3_code (1 : Nat) (Option.some Jvm.ClassFile.FieldType.boolean)) ∈ wB := wB_in 371 (by decide +kernel) (by decide +kernel)
theorem tb_357 : (Jvm.Cond.selects "SwingBridge$LateBus" ({ cls := "SwingBridge$Cart", name := "fitAct", desc := "()Z" } : Jvm.MethodName) ({ cls := "SwingBridge$LateBus", name := "fitAct", desc := "()Z" } : Jvm.MethodName)) ∈ wB := wB_in 372 (by decide +kernel) (by decide +kernel)
theorem tb_358 : (Jvm.Cond.instanceMethod ({ cls := "SwingBridge$LateBus", name := "fitAct", desc := "()Z" } : Jvm.MethodName)) ∈ wB := wB_in 373 (by decide +kernel) (by decide +kernel)
theorem tb_359 : (Jvm.Cond.code ({ cls := "SwingBridge$LateBus", name := "fitAct", desc := "()Z" } : Jvm.MethodName) prog_8_method_4_code (1 : Nat) (Option.some Jvm.ClassFile.FieldType.boolean)) ∈ wB := wB_in 374 (by decide +kernel) (by decide +kernel)
theorem tb_360 : (Jvm.Cond.methodLink "SwingBridge$LateBus" (29 : Nat) ({ cls := "SwingBridge$Bus", name := "fitAct", desc := "()Z" } : Jvm.MethodName)) ∈ wB := wB_in 375 (by decide +kernel) (by decide +kernel)
theorem tb_361 : (Jvm.Cond.sameMethod "SwingBridge$Bus" "SwingBridge$Cart" "fitAct" "()Z") ∈ wB := wB_in 376 (by decide +kernel) (by decide +kernel)
theorem tb_363 : (Jvm.Cond.methodLink "SwingBridge$LateBus" (33 : Nat) ({ cls := "SwingBridge$Bridge", name := "bearsBus", desc := "()Z" } : Jvm.MethodName)) ∈ wB := wB_in 378 (by decide +kernel) (by decide +kernel)
theorem tb_364 : (Jvm.Cond.instanceMethod ({ cls := "SwingBridge$Bridge", name := "bearsBus", desc := "()Z" } : Jvm.MethodName)) ∈ wB := wB_in 379 (by decide +kernel) (by decide +kernel)
theorem tb_365 : (Jvm.Cond.selects "SwingBridge$Bridge" ({ cls := "SwingBridge$Bridge", name := "bearsBus", desc := "()Z" } : Jvm.MethodName) ({ cls := "SwingBridge$Bridge", name := "bearsBus", desc := "()Z" } : Jvm.MethodName)) ∈ wB := wB_in 380 (by decide +kernel) (by decide +kernel)
theorem tb_366 : (Jvm.Cond.code ({ cls := "SwingBridge$Bridge", name := "bearsBus", desc := "()Z" } : Jvm.MethodName) prog_2_method_5_code (3 : Nat) (Option.some Jvm.ClassFile.FieldType.boolean)) ∈ wB := wB_in 381 (by decide +kernel) (by decide +kernel)
theorem tb_367 : (Jvm.Cond.selects "SwingBridge$Lorry" ({ cls := "SwingBridge$Cart", name := "fitAct", desc := "()Z" } : Jvm.MethodName) ({ cls := "SwingBridge$Cart", name := "fitAct", desc := "()Z" } : Jvm.MethodName)) ∈ wB := wB_in 382 (by decide +kernel) (by decide +kernel)
theorem tb_368 : (Jvm.Cond.selects "SwingBridge$Tanker" ({ cls := "SwingBridge$Cart", name := "fitAct", desc := "()Z" } : Jvm.MethodName) ({ cls := "SwingBridge$Tanker", name := "fitAct", desc := "()Z" } : Jvm.MethodName)) ∈ wB := wB_in 383 (by decide +kernel) (by decide +kernel)
theorem tb_369 : (Jvm.Cond.instanceMethod ({ cls := "SwingBridge$Tanker", name := "fitAct", desc := "()Z" } : Jvm.MethodName)) ∈ wB := wB_in 384 (by decide +kernel) (by decide +kernel)
theorem tb_370 : (Jvm.Cond.code ({ cls := "SwingBridge$Tanker", name := "fitAct", desc := "()Z" } : Jvm.MethodName) prog_10_method_4_code (1 : Nat) (Option.some Jvm.ClassFile.FieldType.boolean)) ∈ wB := wB_in 385 (by decide +kernel) (by decide +kernel)
theorem tb_371 : (Jvm.Cond.methodLink "SwingBridge$Tanker" (33 : Nat) ({ cls := "SwingBridge$Lorry", name := "fitAct", desc := "()Z" } : Jvm.MethodName)) ∈ wB := wB_in 386 (by decide +kernel) (by decide +kernel)
theorem tb_372 : (Jvm.Cond.sameMethod "SwingBridge$Lorry" "SwingBridge$Cart" "fitAct" "()Z") ∈ wB := wB_in 387 (by decide +kernel) (by decide +kernel)
theorem tb_373 : (Jvm.Cond.selects "SwingBridge$Wheeled" ({ cls := "SwingBridge$Cart", name := "fitAct", desc := "()Z" } : Jvm.MethodName) ({ cls := "SwingBridge$Cart", name := "fitAct", desc := "()Z" } : Jvm.MethodName)) ∈ wB := wB_in 388 (by decide +kernel) (by decide +kernel)
theorem tb_374 : (Jvm.Cond.code ({ cls := "SwingBridge$Cart", name := "fitAct", desc := "()Z" } : Jvm.MethodName) prog_6_method_4_code (4 : Nat) (Option.some Jvm.ClassFile.FieldType.boolean)) ∈ wB := wB_in 389 (by decide +kernel) (by decide +kernel)
theorem tb_375 : (Jvm.Cond.methodLink "SwingBridge$Cart" (49 : Nat) ({ cls := "SwingBridge$Cart", name := "weightAct", desc := "()I" } : Jvm.MethodName)) ∈ wB := wB_in 390 (by decide +kernel) (by decide +kernel)
theorem tb_376 : (Jvm.Cond.methodLink "SwingBridgeLaw" (51 : Nat) ({ cls := "SwingBridge", name := "leave", desc := "(I)I" } : Jvm.MethodName)) ∈ wB := wB_in 391 (by decide +kernel) (by decide +kernel)
theorem tb_377 : (Jvm.Cond.instanceMethod ({ cls := "SwingBridge", name := "leave", desc := "(I)I" } : Jvm.MethodName)) ∈ wB := wB_in 392 (by decide +kernel) (by decide +kernel)
theorem tb_378 : (Jvm.Cond.selects "SwingBridge" ({ cls := "SwingBridge", name := "leave", desc := "(I)I" } : Jvm.MethodName) ({ cls := "SwingBridge", name := "leave", desc := "(I)I" } : Jvm.MethodName)) ∈ wB := wB_in 393 (by decide +kernel) (by decide +kernel)
theorem tb_379 : (Jvm.Cond.code ({ cls := "SwingBridge", name := "leave", desc := "(I)I" } : Jvm.MethodName) prog_1_method_7_code (3 : Nat) (Option.some Jvm.ClassFile.FieldType.int)) ∈ wB := wB_in 394 (by decide +kernel) (by decide +kernel)
theorem tb_380 : (Jvm.Cond.methodLink "SwingBridge" (60 : Nat) ({ cls := "SwingBridge$Cart", name := "leaveAct", desc := "()V" } : Jvm.MethodName)) ∈ wB := wB_in 395 (by decide +kernel) (by decide +kernel)
theorem tb_381 : (Jvm.Cond.instanceMethod ({ cls := "SwingBridge$Cart", name := "leaveAct", desc := "()V" } : Jvm.MethodName)) ∈ wB := wB_in 396 (by decide +kernel) (by decide +kernel)
theorem tb_382 : (Jvm.Cond.selects "SwingBridge$Cart" ({ cls := "SwingBridge$Cart", name := "leaveAct", desc := "()V" } : Jvm.MethodName) ({ cls := "SwingBridge$Cart", name := "leaveAct", desc := "()V" } : Jvm.MethodName)) ∈ wB := wB_in 397 (by decide +kernel) (by decide +kernel)
theorem tb_383 : (Jvm.Cond.sameMethod "SwingBridge$Cart" "SwingBridge$Cart" "leaveAct" "()V") ∈ wB := wB_in 398 (by decide +kernel) (by decide +kernel)
theorem tb_384 : (Jvm.Cond.selects "SwingBridge$Bus" ({ cls := "SwingBridge$Cart", name := "leaveAct", desc := "()V" } : Jvm.MethodName) ({ cls := "SwingBridge$Lorry", name := "leaveAct", desc := "()V" } : Jvm.MethodName)) ∈ wB := wB_in 399 (by decide +kernel) (by decide +kernel)
theorem tb_385 : (Jvm.Cond.instanceMethod ({ cls := "SwingBridge$Lorry", name := "leaveAct", desc := "()V" } : Jvm.MethodName)) ∈ wB := wB_in 400 (by decide +kernel) (by decide +kernel)
theorem tb_386 : (Jvm.Cond.code ({ cls := "SwingBridge$Lorry", name := "leaveAct", desc := "()V" } : Jvm.MethodName) prog_9_method_3_code (1 : Nat) (Option.none : Option Jvm.ClassFile.FieldType)) ∈ wB := wB_in 401 (by decide +kernel) (by decide +kernel)
theorem tb_387 : (Jvm.Cond.methodLink "SwingBridge$Lorry" (29 : Nat) ({ cls := "SwingBridge$Wheeled", name := "leaveAct", desc := "()V" } : Jvm.MethodName)) ∈ wB := wB_in 402 (by decide +kernel) (by decide +kernel)
theorem tb_388 : (Jvm.Cond.sameMethod "SwingBridge$Wheeled" "SwingBridge$Cart" "leaveAct" "()V") ∈ wB := wB_in 403 (by decide +kernel) (by decide +kernel)
theorem tb_390 : (Jvm.Cond.selects "SwingBridge$Cab" ({ cls := "SwingBridge$Cart", name := "leaveAct", desc := "()V" } : Jvm.MethodName) ({ cls := "SwingBridge$Cab", name := "leaveAct", desc := "()V" } : Jvm.MethodName)) ∈ wB := wB_in 405 (by decide +kernel) (by decide +kernel)
theorem tb_391 : (Jvm.Cond.instanceMethod ({ cls := "SwingBridge$Cab", name := "leaveAct", desc := "()V" } : Jvm.MethodName)) ∈ wB := wB_in 406 (by decide +kernel) (by decide +kernel)
theorem tb_392 : (Jvm.Cond.code ({ cls := "SwingBridge$Cab", name := "leaveAct", desc := "()V" } : Jvm.MethodName) prog_4_method_4_code (1 : Nat) (Option.none : Option Jvm.ClassFile.FieldType)) ∈ wB := wB_in 407 (by decide +kernel) (by decide +kernel)
theorem tb_393 : (Jvm.Cond.methodLink "SwingBridge$Cab" (33 : Nat) ({ cls := "SwingBridge$Car", name := "leaveAct", desc := "()V" } : Jvm.MethodName)) ∈ wB := wB_in 408 (by decide +kernel) (by decide +kernel)
theorem tb_394 : (Jvm.Cond.sameMethod "SwingBridge$Car" "SwingBridge$Cart" "leaveAct" "()V") ∈ wB := wB_in 409 (by decide +kernel) (by decide +kernel)
theorem tb_395 : (Jvm.Cond.selects "SwingBridge$Car" ({ cls := "SwingBridge$Cart", name := "leaveAct", desc := "()V" } : Jvm.MethodName) ({ cls := "SwingBridge$Cart", name := "leaveAct", desc := "()V" } : Jvm.MethodName)) ∈ wB := wB_in 410 (by decide +kernel) (by decide +kernel)
theorem tb_396 : (Jvm.Cond.selects "SwingBridge$Cycle" ({ cls := "SwingBridge$Cart", name := "leaveAct", desc := "()V" } : Jvm.MethodName) ({ cls := "SwingBridge$Cart", name := "leaveAct", desc := "()V" } : Jvm.MethodName)) ∈ wB := wB_in 411 (by decide +kernel) (by decide +kernel)
theorem tb_397 : (Jvm.Cond.selects "SwingBridge$LateBus" ({ cls := "SwingBridge$Cart", name := "leaveAct", desc := "()V" } : Jvm.MethodName) ({ cls := "SwingBridge$Lorry", name := "leaveAct", desc := "()V" } : Jvm.MethodName)) ∈ wB := wB_in 412 (by decide +kernel) (by decide +kernel)
theorem tb_398 : (Jvm.Cond.selects "SwingBridge$Lorry" ({ cls := "SwingBridge$Cart", name := "leaveAct", desc := "()V" } : Jvm.MethodName) ({ cls := "SwingBridge$Lorry", name := "leaveAct", desc := "()V" } : Jvm.MethodName)) ∈ wB := wB_in 413 (by decide +kernel) (by decide +kernel)
theorem tb_399 : (Jvm.Cond.selects "SwingBridge$Tanker" ({ cls := "SwingBridge$Cart", name := "leaveAct", desc := "()V" } : Jvm.MethodName) ({ cls := "SwingBridge$Tanker", name := "leaveAct", desc := "()V" } : Jvm.MethodName)) ∈ wB := wB_in 414 (by decide +kernel) (by decide +kernel)
theorem tb_400 : (Jvm.Cond.instanceMethod ({ cls := "SwingBridge$Tanker", name := "leaveAct", desc := "()V" } : Jvm.MethodName)) ∈ wB := wB_in 415 (by decide +kernel) (by decide +kernel)
theorem tb_401 : (Jvm.Cond.code ({ cls := "SwingBridge$Tanker", name := "leaveAct", desc := "()V" } : Jvm.MethodName) prog_10_method_6_code (1 : Nat) (Option.none : Option Jvm.ClassFile.FieldType)) ∈ wB := wB_in 416 (by decide +kernel) (by decide +kernel)
theorem tb_402 : (Jvm.Cond.methodLink "SwingBridge$Tanker" (53 : Nat) ({ cls := "SwingBridge$Lorry", name := "leaveAct", desc := "()V" } : Jvm.MethodName)) ∈ wB := wB_in 417 (by decide +kernel) (by decide +kernel)
theorem tb_403 : (Jvm.Cond.methodLink "SwingBridge$Tanker" (57 : Nat) ({ cls := "java/lang/Math", name := "min", desc := "(II)I" } : Jvm.MethodName)) ∈ wB := wB_in 418 (by decide +kernel) (by decide +kernel)
theorem tb_404 : (Jvm.Cond.static ({ cls := "java/lang/Math", name := "min", desc := "(II)I" } : Jvm.MethodName)) ∈ wB := wB_in 419 (by decide +kernel) (by decide +kernel)
theorem tb_405 : (Jvm.Cond.code ({ cls := "java/lang/Math", name := "min", desc := "(II)I" } : Jvm.MethodName) prog_17_method_69_code (2 : Nat) (Option.some Jvm.ClassFile.FieldType.int)) ∈ wB := wB_in 420 (by decide +kernel) (by decide +kernel)
theorem tb_406 : (Jvm.Cond.selects "SwingBridge$Wheeled" ({ cls := "SwingBridge$Cart", name := "leaveAct", desc := "()V" } : Jvm.MethodName) ({ cls := "SwingBridge$Cart", name := "leaveAct", desc := "()V" } : Jvm.MethodName)) ∈ wB := wB_in 421 (by decide +kernel) (by decide +kernel)
theorem tb_407 : (Jvm.Cond.code ({ cls := "SwingBridge$Cart", name := "leaveAct", desc := "()V" } : Jvm.MethodName) prog_6_method_6_code (1 : Nat) (Option.none : Option Jvm.ClassFile.FieldType)) ∈ wB := wB_in 422 (by decide +kernel) (by decide +kernel)
theorem tb_408 : (Jvm.Cond.methodLink "SwingBridge$Cart" (86 : Nat) ({ cls := "SwingBridge$Bridge", name := "letOff", desc := "(LSwingBridge$Cart;)V" } : Jvm.MethodName)) ∈ wB := wB_in 423 (by decide +kernel) (by decide +kernel)
theorem tb_409 : (Jvm.Cond.instanceMethod ({ cls := "SwingBridge$Bridge", name := "letOff", desc := "(LSwingBridge$Cart;)V" } : Jvm.MethodName)) ∈ wB := wB_in 424 (by decide +kernel) (by decide +kernel)
theorem tb_410 : (Jvm.Cond.selects "SwingBridge$Bridge" ({ cls := "SwingBridge$Bridge", name := "letOff", desc := "(LSwingBridge$Cart;)V" } : Jvm.MethodName) ({ cls := "SwingBridge$Bridge", name := "letOff", desc := "(LSwingBridge$Cart;)V" } : Jvm.MethodName)) ∈ wB := wB_in 425 (by decide +kernel) (by decide +kernel)
theorem tb_411 : (Jvm.Cond.code ({ cls := "SwingBridge$Bridge", name := "letOff", desc := "(LSwingBridge$Cart;)V" } : Jvm.MethodName) prog_2_method_4_code (5 : Nat) (Option.none : Option Jvm.ClassFile.FieldType)) ∈ wB := wB_in 426 (by decide +kernel) (by decide +kernel)
theorem tb_412 : (Jvm.Cond.methodLink "SwingBridgeLaw" (55 : Nat) ({ cls := "SwingBridge", name := "rebate", desc := "(I)I" } : Jvm.MethodName)) ∈ wB := wB_in 427 (by decide +kernel) (by decide +kernel)
theorem tb_413 : (Jvm.Cond.instanceMethod ({ cls := "SwingBridge", name := "rebate", desc := "(I)I" } : Jvm.MethodName)) ∈ wB := wB_in 428 (by decide +kernel) (by decide +kernel)
theorem tb_414 : (Jvm.Cond.selects "SwingBridge" ({ cls := "SwingBridge", name := "rebate", desc := "(I)I" } : Jvm.MethodName) ({ cls := "SwingBridge", name := "rebate", desc := "(I)I" } : Jvm.MethodName)) ∈ wB := wB_in 429 (by decide +kernel) (by decide +kernel)
theorem tb_415 : (Jvm.Cond.code ({ cls := "SwingBridge", name := "rebate", desc := "(I)I" } : Jvm.MethodName) prog_1_method_8_code (3 : Nat) (Option.some Jvm.ClassFile.FieldType.int)) ∈ wB := wB_in 430 (by decide +kernel) (by decide +kernel)
theorem tb_416 : (Jvm.Cond.methodLink "SwingBridge" (66 : Nat) ({ cls := "SwingBridge$Cart", name := "rebateAct", desc := "()I" } : Jvm.MethodName)) ∈ wB := wB_in 431 (by decide +kernel) (by decide +kernel)
theorem tb_417 : (Jvm.Cond.instanceMethod ({ cls := "SwingBridge$Cart", name := "rebateAct", desc := "()I" } : Jvm.MethodName)) ∈ wB := wB_in 432 (by decide +kernel) (by decide +kernel)
theorem tb_418 : (Jvm.Cond.selects "SwingBridge$Cart" ({ cls := "SwingBridge$Cart", name := "rebateAct", desc := "()I" } : Jvm.MethodName) ({ cls := "SwingBridge$Cart", name := "rebateAct", desc := "()I" } : Jvm.MethodName)) ∈ wB := wB_in 433 (by decide +kernel) (by decide +kernel)
theorem tb_419 : (Jvm.Cond.sameMethod "SwingBridge$Cart" "SwingBridge$Cart" "rebateAct" "()I") ∈ wB := wB_in 434 (by decide +kernel) (by decide +kernel)
theorem tb_420 : (Jvm.Cond.selects "SwingBridge$Bus" ({ cls := "SwingBridge$Cart", name := "rebateAct", desc := "()I" } : Jvm.MethodName) ({ cls := "SwingBridge$Cart", name := "rebateAct", desc := "()I" } : Jvm.MethodName)) ∈ wB := wB_in 435 (by decide +kernel) (by decide +kernel)
theorem tb_421 : (Jvm.Cond.selects "SwingBridge$Cab" ({ cls := "SwingBridge$Cart", name := "rebateAct", desc := "()I" } : Jvm.MethodName) ({ cls := "SwingBridge$Car", name := "rebateAct", desc := "()I" } : Jvm.MethodName)) ∈ wB := wB_in 436 (by decide +kernel) (by decide +kernel)
theorem tb_422 : (Jvm.Cond.instanceMethod ({ cls := "SwingBridge$Car", name := "rebateAct", desc := "()I" } : Jvm.MethodName)) ∈ wB := wB_in 437 (by decide +kernel) (by decide +kernel)
theorem tb_423 : (Jvm.Cond.code ({ cls := "SwingBridge$Car", name := "rebateAct", desc := "()I" } : Jvm.MethodName) prog_5_method_3_code (1 : Nat) (Option.some Jvm.ClassFile.FieldType.int)) ∈ wB := wB_in 438 (by decide +kernel) (by decide +kernel)
theorem tb_424 : (Jvm.Cond.methodLink "SwingBridge$Car" (25 : Nat) ({ cls := "SwingBridge$Wheeled", name := "rebateAct", desc := "()I" } : Jvm.MethodName)) ∈ wB := wB_in 439 (by decide +kernel) (by decide +kernel)
theorem tb_425 : (Jvm.Cond.sameMethod "SwingBridge$Wheeled" "SwingBridge$Cart" "rebateAct" "()I") ∈ wB := wB_in 440 (by decide +kernel) (by decide +kernel)
theorem tb_427 : (Jvm.Cond.methodLink "SwingBridge$Car" (29 : Nat) ({ cls := "java/lang/Math", name := "min", desc := "(II)I" } : Jvm.MethodName)) ∈ wB := wB_in 442 (by decide +kernel) (by decide +kernel)
theorem tb_428 : (Jvm.Cond.selects "SwingBridge$Car" ({ cls := "SwingBridge$Cart", name := "rebateAct", desc := "()I" } : Jvm.MethodName) ({ cls := "SwingBridge$Car", name := "rebateAct", desc := "()I" } : Jvm.MethodName)) ∈ wB := wB_in 443 (by decide +kernel) (by decide +kernel)
theorem tb_429 : (Jvm.Cond.selects "SwingBridge$Cycle" ({ cls := "SwingBridge$Cart", name := "rebateAct", desc := "()I" } : Jvm.MethodName) ({ cls := "SwingBridge$Cart", name := "rebateAct", desc := "()I" } : Jvm.MethodName)) ∈ wB := wB_in 444 (by decide +kernel) (by decide +kernel)
theorem tb_430 : (Jvm.Cond.selects "SwingBridge$LateBus" ({ cls := "SwingBridge$Cart", name := "rebateAct", desc := "()I" } : Jvm.MethodName) ({ cls := "SwingBridge$LateBus", name := "rebateAct", desc := "()I" } : Jvm.MethodName)) ∈ wB := wB_in 445 (by decide +kernel) (by decide +kernel)
theorem tb_431 : (Jvm.Cond.instanceMethod ({ cls := "SwingBridge$LateBus", name := "rebateAct", desc := "()I" } : Jvm.MethodName)) ∈ wB := wB_in 446 (by decide +kernel) (by decide +kernel)
theorem tb_432 : (Jvm.Cond.code ({ cls := "SwingBridge$LateBus", name := "rebateAct", desc := "()I" } : Jvm.MethodName) prog_8_method_5_code (1 : Nat) (Option.some Jvm.ClassFile.FieldType.int)) ∈ wB := wB_in 447 (by decide +kernel) (by decide +kernel)
theorem tb_433 : (Jvm.Cond.methodLink "SwingBridge$LateBus" (36 : Nat) ({ cls := "SwingBridge$Bus", name := "rebateAct", desc := "()I" } : Jvm.MethodName)) ∈ wB := wB_in 448 (by decide +kernel) (by decide +kernel)
theorem tb_434 : (Jvm.Cond.sameMethod "SwingBridge$Bus" "SwingBridge$Cart" "rebateAct" "()I") ∈ wB := wB_in 449 (by decide +kernel) (by decide +kernel)
theorem tb_435 : (Jvm.Cond.methodLink "SwingBridge$LateBus" (39 : Nat) ({ cls := "java/lang/Math", name := "min", desc := "(II)I" } : Jvm.MethodName)) ∈ wB := wB_in 450 (by decide +kernel) (by decide +kernel)
theorem tb_436 : (Jvm.Cond.selects "SwingBridge$Lorry" ({ cls := "SwingBridge$Cart", name := "rebateAct", desc := "()I" } : Jvm.MethodName) ({ cls := "SwingBridge$Cart", name := "rebateAct", desc := "()I" } : Jvm.MethodName)) ∈ wB := wB_in 451 (by decide +kernel) (by decide +kernel)
theorem tb_437 : (Jvm.Cond.selects "SwingBridge$Tanker" ({ cls := "SwingBridge$Cart", name := "rebateAct", desc := "()I" } : Jvm.MethodName) ({ cls := "SwingBridge$Cart", name := "rebateAct", desc := "()I" } : Jvm.MethodName)) ∈ wB := wB_in 452 (by decide +kernel) (by decide +kernel)
theorem tb_438 : (Jvm.Cond.selects "SwingBridge$Wheeled" ({ cls := "SwingBridge$Cart", name := "rebateAct", desc := "()I" } : Jvm.MethodName) ({ cls := "SwingBridge$Cart", name := "rebateAct", desc := "()I" } : Jvm.MethodName)) ∈ wB := wB_in 453 (by decide +kernel) (by decide +kernel)
theorem tb_439 : (Jvm.Cond.code ({ cls := "SwingBridge$Cart", name := "rebateAct", desc := "()I" } : Jvm.MethodName) prog_6_method_7_code (1 : Nat) (Option.some Jvm.ClassFile.FieldType.int)) ∈ wB := wB_in 454 (by decide +kernel) (by decide +kernel)
theorem tb_440 : (Jvm.Cond.methodLink "SwingBridgeLaw" (59 : Nat) ({ cls := "SwingBridge", name := "bill", desc := "(II)I" } : Jvm.MethodName)) ∈ wB := wB_in 455 (by decide +kernel) (by decide +kernel)
theorem tb_441 : (Jvm.Cond.instanceMethod ({ cls := "SwingBridge", name := "bill", desc := "(II)I" } : Jvm.MethodName)) ∈ wB := wB_in 456 (by decide +kernel) (by decide +kernel)
theorem tb_442 : (Jvm.Cond.selects "SwingBridge" ({ cls := "SwingBridge", name := "bill", desc := "(II)I" } : Jvm.MethodName) ({ cls := "SwingBridge", name := "bill", desc := "(II)I" } : Jvm.MethodName)) ∈ wB := wB_in 457 (by decide +kernel) (by decide +kernel)
theorem tb_443 : (Jvm.Cond.code ({ cls := "SwingBridge", name := "bill", desc := "(II)I" } : Jvm.MethodName) prog_1_method_9_code (4 : Nat) (Option.some Jvm.ClassFile.FieldType.int)) ∈ wB := wB_in 458 (by decide +kernel) (by decide +kernel)
theorem tb_444 : (Jvm.Cond.methodLink "SwingBridge" (69 : Nat) ({ cls := "SwingBridge$Cart", name := "hasAccount", desc := "()Z" } : Jvm.MethodName)) ∈ wB := wB_in 459 (by decide +kernel) (by decide +kernel)
theorem tb_445 : (Jvm.Cond.instanceMethod ({ cls := "SwingBridge$Cart", name := "hasAccount", desc := "()Z" } : Jvm.MethodName)) ∈ wB := wB_in 460 (by decide +kernel) (by decide +kernel)
theorem tb_446 : (Jvm.Cond.selects "SwingBridge$Cart" ({ cls := "SwingBridge$Cart", name := "hasAccount", desc := "()Z" } : Jvm.MethodName) ({ cls := "SwingBridge$Cart", name := "hasAccount", desc := "()Z" } : Jvm.MethodName)) ∈ wB := wB_in 461 (by decide +kernel) (by decide +kernel)
theorem tb_447 : (Jvm.Cond.sameMethod "SwingBridge$Cart" "SwingBridge$Cart" "hasAccount" "()Z") ∈ wB := wB_in 462 (by decide +kernel) (by decide +kernel)
theorem tb_448 : (Jvm.Cond.selects "SwingBridge$Bus" ({ cls := "SwingBridge$Cart", name := "hasAccount", desc := "()Z" } : Jvm.MethodName) ({ cls := "SwingBridge$Bus", name := "hasAccount", desc := "()Z" } : Jvm.MethodName)) ∈ wB := wB_in 463 (by decide +kernel) (by decide +kernel)
theorem tb_449 : (Jvm.Cond.instanceMethod ({ cls := "SwingBridge$Bus", name := "hasAccount", desc := "()Z" } : Jvm.MethodName)) ∈ wB := wB_in 464 (by decide +kernel) (by decide +kernel)
theorem tb_450 : (Jvm.Cond.code ({ cls := "SwingBridge$Bus", name := "hasAccount", desc := "()Z" } : Jvm.MethodName) prog_3_method_3_code (1 : Nat) (Option.some Jvm.ClassFile.FieldType.boolean)) ∈ wB := wB_in 465 (by decide +kernel) (by decide +kernel)
theorem tb_451 : (Jvm.Cond.selects "SwingBridge$Cab" ({ cls := "SwingBridge$Cart", name := "hasAccount", desc := "()Z" } : Jvm.MethodName) ({ cls := "SwingBridge$Cab", name := "hasAccount", desc := "()Z" } : Jvm.MethodName)) ∈ wB := wB_in 466 (by decide +kernel) (by decide +kernel)
theorem tb_452 : (Jvm.Cond.instanceMethod ({ cls := "SwingBridge$Cab", name := "hasAccount", desc := "()Z" } : Jvm.MethodName)) ∈ wB := wB_in 467 (by decide +kernel) (by decide +kernel)
theorem tb_453 : (Jvm.Cond.code ({ cls := "SwingBridge$Cab", name := "hasAccount", desc := "()Z" } : Jvm.MethodName) prog_4_method_5_code (1 : Nat) (Option.some Jvm.ClassFile.FieldType.boolean)) ∈ wB := wB_in 468 (by decide +kernel) (by decide +kernel)
theorem tb_454 : (Jvm.Cond.selects "SwingBridge$Car" ({ cls := "SwingBridge$Cart", name := "hasAccount", desc := "()Z" } : Jvm.MethodName) ({ cls := "SwingBridge$Cart", name := "hasAccount", desc := "()Z" } : Jvm.MethodName)) ∈ wB := wB_in 469 (by decide +kernel) (by decide +kernel)
theorem tb_455 : (Jvm.Cond.selects "SwingBridge$Cycle" ({ cls := "SwingBridge$Cart", name := "hasAccount", desc := "()Z" } : Jvm.MethodName) ({ cls := "SwingBridge$Cart", name := "hasAccount", desc := "()Z" } : Jvm.MethodName)) ∈ wB := wB_in 470 (by decide +kernel) (by decide +kernel)
theorem tb_456 : (Jvm.Cond.selects "SwingBridge$LateBus" ({ cls := "SwingBridge$Cart", name := "hasAccount", desc := "()Z" } : Jvm.MethodName) ({ cls := "SwingBridge$Bus", name := "hasAccount", desc := "()Z" } : Jvm.MethodName)) ∈ wB := wB_in 471 (by decide +kernel) (by decide +kernel)
theorem tb_457 : (Jvm.Cond.selects "SwingBridge$Lorry" ({ cls := "SwingBridge$Cart", name := "hasAccount", desc := "()Z" } : Jvm.MethodName) ({ cls := "SwingBridge$Cart", name := "hasAccount", desc := "()Z" } : Jvm.MethodName)) ∈ wB := wB_in 472 (by decide +kernel) (by decide +kernel)
theorem tb_458 : (Jvm.Cond.selects "SwingBridge$Tanker" ({ cls := "SwingBridge$Cart", name := "hasAccount", desc := "()Z" } : Jvm.MethodName) ({ cls := "SwingBridge$Cart", name := "hasAccount", desc := "()Z" } : Jvm.MethodName)) ∈ wB := wB_in 473 (by decide +kernel) (by decide +kernel)
theorem tb_459 : (Jvm.Cond.selects "SwingBridge$Wheeled" ({ cls := "SwingBridge$Cart", name := "hasAccount", desc := "()Z" } : Jvm.MethodName) ({ cls := "SwingBridge$Cart", name := "hasAccount", desc := "()Z" } : Jvm.MethodName)) ∈ wB := wB_in 474 (by decide +kernel) (by decide +kernel)
theorem tb_460 : (Jvm.Cond.code ({ cls := "SwingBridge$Cart", name := "hasAccount", desc := "()Z" } : Jvm.MethodName) prog_6_method_8_code (1 : Nat) (Option.some Jvm.ClassFile.FieldType.boolean)) ∈ wB := wB_in 475 (by decide +kernel) (by decide +kernel)
theorem tb_461 : (Jvm.Cond.methodLink "SwingBridge" (72 : Nat) ({ cls := "SwingBridge$Cart", name := "billOf", desc := "(I)I" } : Jvm.MethodName)) ∈ wB := wB_in 476 (by decide +kernel) (by decide +kernel)
theorem tb_462 : (Jvm.Cond.instanceMethod ({ cls := "SwingBridge$Cart", name := "billOf", desc := "(I)I" } : Jvm.MethodName)) ∈ wB := wB_in 477 (by decide +kernel) (by decide +kernel)
theorem tb_463 : (Jvm.Cond.selects "SwingBridge$Cart" ({ cls := "SwingBridge$Cart", name := "billOf", desc := "(I)I" } : Jvm.MethodName) ({ cls := "SwingBridge$Cart", name := "billOf", desc := "(I)I" } : Jvm.MethodName)) ∈ wB := wB_in 478 (by decide +kernel) (by decide +kernel)
theorem tb_464 : (Jvm.Cond.sameMethod "SwingBridge$Cart" "SwingBridge$Cart" "billOf" "(I)I") ∈ wB := wB_in 479 (by decide +kernel) (by decide +kernel)
theorem tb_465 : (Jvm.Cond.selects "SwingBridge$Bus" ({ cls := "SwingBridge$Cart", name := "billOf", desc := "(I)I" } : Jvm.MethodName) ({ cls := "SwingBridge$Cart", name := "billOf", desc := "(I)I" } : Jvm.MethodName)) ∈ wB := wB_in 480 (by decide +kernel) (by decide +kernel)
theorem tb_466 : (Jvm.Cond.selects "SwingBridge$Cab" ({ cls := "SwingBridge$Cart", name := "billOf", desc := "(I)I" } : Jvm.MethodName) ({ cls := "SwingBridge$Cart", name := "billOf", desc := "(I)I" } : Jvm.MethodName)) ∈ wB := wB_in 481 (by decide +kernel) (by decide +kernel)
theorem tb_467 : (Jvm.Cond.selects "SwingBridge$Car" ({ cls := "SwingBridge$Cart", name := "billOf", desc := "(I)I" } : Jvm.MethodName) ({ cls := "SwingBridge$Cart", name := "billOf", desc := "(I)I" } : Jvm.MethodName)) ∈ wB := wB_in 482 (by decide +kernel) (by decide +kernel)
theorem tb_468 : (Jvm.Cond.selects "SwingBridge$Cycle" ({ cls := "SwingBridge$Cart", name := "billOf", desc := "(I)I" } : Jvm.MethodName) ({ cls := "SwingBridge$Cart", name := "billOf", desc := "(I)I" } : Jvm.MethodName)) ∈ wB := wB_in 483 (by decide +kernel) (by decide +kernel)
theorem tb_469 : (Jvm.Cond.selects "SwingBridge$LateBus" ({ cls := "SwingBridge$Cart", name := "billOf", desc := "(I)I" } : Jvm.MethodName) ({ cls := "SwingBridge$Cart", name := "billOf", desc := "(I)I" } : Jvm.MethodName)) ∈ wB := wB_in 484 (by decide +kernel) (by decide +kernel)
theorem tb_470 : (Jvm.Cond.selects "SwingBridge$Lorry" ({ cls := "SwingBridge$Cart", name := "billOf", desc := "(I)I" } : Jvm.MethodName) ({ cls := "SwingBridge$Cart", name := "billOf", desc := "(I)I" } : Jvm.MethodName)) ∈ wB := wB_in 485 (by decide +kernel) (by decide +kernel)
theorem tb_471 : (Jvm.Cond.selects "SwingBridge$Tanker" ({ cls := "SwingBridge$Cart", name := "billOf", desc := "(I)I" } : Jvm.MethodName) ({ cls := "SwingBridge$Cart", name := "billOf", desc := "(I)I" } : Jvm.MethodName)) ∈ wB := wB_in 486 (by decide +kernel) (by decide +kernel)
theorem tb_472 : (Jvm.Cond.selects "SwingBridge$Wheeled" ({ cls := "SwingBridge$Cart", name := "billOf", desc := "(I)I" } : Jvm.MethodName) ({ cls := "SwingBridge$Cart", name := "billOf", desc := "(I)I" } : Jvm.MethodName)) ∈ wB := wB_in 487 (by decide +kernel) (by decide +kernel)
theorem tb_473 : (Jvm.Cond.code ({ cls := "SwingBridge$Cart", name := "billOf", desc := "(I)I" } : Jvm.MethodName) prog_6_method_9_code (3 : Nat) (Option.some Jvm.ClassFile.FieldType.int)) ∈ wB := wB_in 488 (by decide +kernel) (by decide +kernel)
theorem tb_474 : (Jvm.Cond.methodLink "SwingBridge$Cart" (78 : Nat) ({ cls := "SwingBridge$Cart", name := "tollAct", desc := "(I)I" } : Jvm.MethodName)) ∈ wB := wB_in 489 (by decide +kernel) (by decide +kernel)
theorem tb_475 : (Jvm.Cond.instanceMethod ({ cls := "SwingBridge$Cart", name := "tollAct", desc := "(I)I" } : Jvm.MethodName)) ∈ wB := wB_in 490 (by decide +kernel) (by decide +kernel)
theorem tb_476 : (Jvm.Cond.selects "SwingBridge$Cart" ({ cls := "SwingBridge$Cart", name := "tollAct", desc := "(I)I" } : Jvm.MethodName) ({ cls := "SwingBridge$Cart", name := "tollAct", desc := "(I)I" } : Jvm.MethodName)) ∈ wB := wB_in 491 (by decide +kernel) (by decide +kernel)
theorem tb_477 : (Jvm.Cond.sameMethod "SwingBridge$Cart" "SwingBridge$Cart" "tollAct" "(I)I") ∈ wB := wB_in 492 (by decide +kernel) (by decide +kernel)
theorem tb_478 : (Jvm.Cond.selects "SwingBridge$Bus" ({ cls := "SwingBridge$Cart", name := "tollAct", desc := "(I)I" } : Jvm.MethodName) ({ cls := "SwingBridge$Cart", name := "tollAct", desc := "(I)I" } : Jvm.MethodName)) ∈ wB := wB_in 493 (by decide +kernel) (by decide +kernel)
theorem tb_479 : (Jvm.Cond.selects "SwingBridge$Cab" ({ cls := "SwingBridge$Cart", name := "tollAct", desc := "(I)I" } : Jvm.MethodName) ({ cls := "SwingBridge$Cab", name := "tollAct", desc := "(I)I" } : Jvm.MethodName)) ∈ wB := wB_in 494 (by decide +kernel) (by decide +kernel)
theorem tb_480 : (Jvm.Cond.instanceMethod ({ cls := "SwingBridge$Cab", name := "tollAct", desc := "(I)I" } : Jvm.MethodName)) ∈ wB := wB_in 495 (by decide +kernel) (by decide +kernel)
theorem tb_481 : (Jvm.Cond.code ({ cls := "SwingBridge$Cab", name := "tollAct", desc := "(I)I" } : Jvm.MethodName) prog_4_method_2_code (3 : Nat) (Option.some Jvm.ClassFile.FieldType.int)) ∈ wB := wB_in 496 (by decide +kernel) (by decide +kernel)
theorem tb_482 : (Jvm.Cond.methodLink "SwingBridge$Cab" (21 : Nat) ({ cls := "SwingBridge$Car", name := "tollAct", desc := "(I)I" } : Jvm.MethodName)) ∈ wB := wB_in 497 (by decide +kernel) (by decide +kernel)
theorem tb_483 : (Jvm.Cond.instanceMethod ({ cls := "SwingBridge$Car", name := "tollAct", desc := "(I)I" } : Jvm.MethodName)) ∈ wB := wB_in 498 (by decide +kernel) (by decide +kernel)
theorem tb_484 : (Jvm.Cond.code ({ cls := "SwingBridge$Car", name := "tollAct", desc := "(I)I" } : Jvm.MethodName) prog_5_method_2_code (2 : Nat) (Option.some Jvm.ClassFile.FieldType.int)) ∈ wB := wB_in 499 (by decide +kernel) (by decide +kernel)
theorem tb_485 : (Jvm.Cond.methodLink "SwingBridge$Car" (21 : Nat) ({ cls := "SwingBridge$Wheeled", name := "tollAct", desc := "(I)I" } : Jvm.MethodName)) ∈ wB := wB_in 500 (by decide +kernel) (by decide +kernel)
theorem tb_486 : (Jvm.Cond.sameMethod "SwingBridge$Wheeled" "SwingBridge$Cart" "tollAct" "(I)I") ∈ wB := wB_in 501 (by decide +kernel) (by decide +kernel)
theorem tb_488 : (Jvm.Cond.selects "SwingBridge$Car" ({ cls := "SwingBridge$Cart", name := "tollAct", desc := "(I)I" } : Jvm.MethodName) ({ cls := "SwingBridge$Car", name := "tollAct", desc := "(I)I" } : Jvm.MethodName)) ∈ wB := wB_in 503 (by decide +kernel) (by decide +kernel)
theorem tb_489 : (Jvm.Cond.selects "SwingBridge$Cycle" ({ cls := "SwingBridge$Cart", name := "tollAct", desc := "(I)I" } : Jvm.MethodName) ({ cls := "SwingBridge$Cycle", name := "tollAct", desc := "(I)I" } : Jvm.MethodName)) ∈ wB := wB_in 504 (by decide +kernel) (by decide +kernel)
theorem tb_490 : (Jvm.Cond.instanceMethod ({ cls := "SwingBridge$Cycle", name := "tollAct", desc := "(I)I" } : Jvm.MethodName)) ∈ wB := wB_in 505 (by decide +kernel) (by decide +kernel)
theorem tb_491 : (Jvm.Cond.code ({ cls := "SwingBridge$Cycle", name := "tollAct", desc := "(I)I" } : Jvm.MethodName) prog_7_method_2_code (2 : Nat) (Option.some Jvm.ClassFile.FieldType.int)) ∈ wB := wB_in 506 (by decide +kernel) (by decide +kernel)
theorem tb_492 : (Jvm.Cond.classLink "SwingBridge$Cycle" (28 : Nat) "java/lang/ArithmeticException") ∈ wB := wB_in 507 (by decide +kernel) (by decide +kernel)
theorem tb_493 : (Jvm.Cond.instantiable "java/lang/ArithmeticException" (6 : Nat)) ∈ wB := wB_in 508 (by decide +kernel) (by decide +kernel)
theorem tb_501 : (Jvm.Cond.selects "java/lang/ArithmeticException" ({ cls := "java/lang/Throwable", name := "fillInStackTrace", desc := "(I)Ljava/lang/Throwable;" } : Jvm.MethodName) ({ cls := "java/lang/Throwable", name := "fillInStackTrace", desc := "(I)Ljava/lang/Throwable;" } : Jvm.MethodName)) ∈ wB := wB_in 516 (by decide +kernel) (by decide +kernel)
theorem tb_502 : (Jvm.Cond.selects "java/lang/ArithmeticException" ({ cls := "java/lang/Throwable", name := "fillInStackTrace", desc := "()Ljava/lang/Throwable;" } : Jvm.MethodName) ({ cls := "java/lang/Throwable", name := "fillInStackTrace", desc := "()Ljava/lang/Throwable;" } : Jvm.MethodName)) ∈ wB := wB_in 517 (by decide +kernel) (by decide +kernel)
theorem tb_513 : (Jvm.Cond.fieldLink "java/lang/Throwable" (198 : Nat) "java/lang/Throwable" "backtrace" "Ljava/lang/Object;") ∈ wB := wB_in 528 (by decide +kernel) (by decide +kernel)
theorem tb_514 : (Jvm.Cond.superclass "java/lang/Throwable" "java/lang/Object") ∈ wB := wB_in 529 (by decide +kernel) (by decide +kernel)
theorem tb_515 : (Jvm.Cond.instanceMethod ({ cls := "java/lang/Throwable", name := "<init>", desc := "()V" } : Jvm.MethodName)) ∈ wB := wB_in 530 (by decide +kernel) (by decide +kernel)
theorem tb_516 : (Jvm.Cond.code ({ cls := "java/lang/Throwable", name := "<init>", desc := "()V" } : Jvm.MethodName) prog_20_method_1_code (1 : Nat) (Option.none : Option Jvm.ClassFile.FieldType)) ∈ wB := wB_in 531 (by decide +kernel) (by decide +kernel)
theorem tb_517 : (Jvm.Cond.methodLink "java/lang/Throwable" (1 : Nat) ({ cls := "java/lang/Object", name := "<init>", desc := "()V" } : Jvm.MethodName)) ∈ wB := wB_in 532 (by decide +kernel) (by decide +kernel)
theorem tb_518 : (Jvm.Cond.fieldLink "java/lang/Throwable" (13 : Nat) "java/lang/Throwable" "UNASSIGNED_STACK" "[Ljava/lang/StackTraceElement;") ∈ wB := wB_in 533 (by decide +kernel) (by decide +kernel)
theorem tb_520 : (Jvm.Cond.fieldLink "java/lang/Throwable" (20 : Nat) "java/lang/Throwable" "SUPPRESSED_SENTINEL" "Ljava/util/List;") ∈ wB := wB_in 535 (by decide +kernel) (by decide +kernel)
theorem tb_522 : (Jvm.Cond.methodLink "java/lang/Throwable" (27 : Nat) ({ cls := "java/lang/Throwable", name := "fillInStackTrace", desc := "()Ljava/lang/Throwable;" } : Jvm.MethodName)) ∈ wB := wB_in 537 (by decide +kernel) (by decide +kernel)
theorem tb_523 : (Jvm.Cond.instanceMethod ({ cls := "java/lang/Throwable", name := "fillInStackTrace", desc := "()Ljava/lang/Throwable;" } : Jvm.MethodName)) ∈ wB := wB_in 538 (by decide +kernel) (by decide +kernel)
theorem tb_524 : (Jvm.Cond.sameMethod "java/lang/Throwable" "java/lang/Throwable" "fillInStackTrace" "()Ljava/lang/Throwable;") ∈ wB := wB_in 539 (by decide +kernel) (by decide +kernel)
theorem tb_525 : (Jvm.Cond.selects "java/lang/IllegalStateException" ({ cls := "java/lang/Throwable", name := "fillInStackTrace", desc := "()Ljava/lang/Throwable;" } : Jvm.MethodName) ({ cls := "java/lang/Throwable", name := "fillInStackTrace", desc := "()Ljava/lang/Throwable;" } : Jvm.MethodName)) ∈ wB := wB_in 540 (by decide +kernel) (by decide +kernel)
theorem tb_527 : (Jvm.Cond.methodLink "java/lang/Throwable" (202 : Nat) ({ cls := "java/lang/Throwable", name := "fillInStackTrace", desc := "(I)Ljava/lang/Throwable;" } : Jvm.MethodName)) ∈ wB := wB_in 542 (by decide +kernel) (by decide +kernel)
theorem tb_529 : (Jvm.Cond.instanceMethod ({ cls := "java/lang/Throwable", name := "fillInStackTrace", desc := "(I)Ljava/lang/Throwable;" } : Jvm.MethodName)) ∈ wB := wB_in 544 (by decide +kernel) (by decide +kernel)
theorem tb_530 : (Jvm.Cond.instantiable "java/lang/Throwable" (6 : Nat)) ∈ wB := wB_in 545 (by decide +kernel) (by decide +kernel)
theorem tb_533 : (Jvm.Cond.methodLink "SwingBridge$Cycle" (32 : Nat) ({ cls := "java/lang/ArithmeticException", name := "<init>", desc := "(Ljava/lang/String;)V" } : Jvm.MethodName)) ∈ wB := wB_in 548 (by decide +kernel) (by decide +kernel)
theorem tb_534 : (Jvm.Cond.instanceMethod ({ cls := "java/lang/ArithmeticException", name := "<init>", desc := "(Ljava/lang/String;)V" } : Jvm.MethodName)) ∈ wB := wB_in 549 (by decide +kernel) (by decide +kernel)
theorem tb_535 : (Jvm.Cond.code ({ cls := "java/lang/ArithmeticException", name := "<init>", desc := "(Ljava/lang/String;)V" } : Jvm.MethodName) prog_14_method_2_code (2 : Nat) (Option.none : Option Jvm.ClassFile.FieldType)) ∈ wB := wB_in 550 (by decide +kernel) (by decide +kernel)
theorem tb_536 : (Jvm.Cond.methodLink "java/lang/ArithmeticException" (7 : Nat) ({ cls := "java/lang/RuntimeException", name := "<init>", desc := "(Ljava/lang/String;)V" } : Jvm.MethodName)) ∈ wB := wB_in 551 (by decide +kernel) (by decide +kernel)
theorem tb_537 : (Jvm.Cond.instanceMethod ({ cls := "java/lang/RuntimeException", name := "<init>", desc := "(Ljava/lang/String;)V" } : Jvm.MethodName)) ∈ wB := wB_in 552 (by decide +kernel) (by decide +kernel)
theorem tb_538 : (Jvm.Cond.code ({ cls := "java/lang/RuntimeException", name := "<init>", desc := "(Ljava/lang/String;)V" } : Jvm.MethodName) prog_18_method_2_code (2 : Nat) (Option.none : Option Jvm.ClassFile.FieldType)) ∈ wB := wB_in 553 (by decide +kernel) (by decide +kernel)
theorem tb_539 : (Jvm.Cond.methodLink "java/lang/RuntimeException" (7 : Nat) ({ cls := "java/lang/Exception", name := "<init>", desc := "(Ljava/lang/String;)V" } : Jvm.MethodName)) ∈ wB := wB_in 554 (by decide +kernel) (by decide +kernel)
theorem tb_540 : (Jvm.Cond.instanceMethod ({ cls := "java/lang/Exception", name := "<init>", desc := "(Ljava/lang/String;)V" } : Jvm.MethodName)) ∈ wB := wB_in 555 (by decide +kernel) (by decide +kernel)
theorem tb_541 : (Jvm.Cond.code ({ cls := "java/lang/Exception", name := "<init>", desc := "(Ljava/lang/String;)V" } : Jvm.MethodName) prog_15_method_2_code (2 : Nat) (Option.none : Option Jvm.ClassFile.FieldType)) ∈ wB := wB_in 556 (by decide +kernel) (by decide +kernel)
theorem tb_542 : (Jvm.Cond.methodLink "java/lang/Exception" (7 : Nat) ({ cls := "java/lang/Throwable", name := "<init>", desc := "(Ljava/lang/String;)V" } : Jvm.MethodName)) ∈ wB := wB_in 557 (by decide +kernel) (by decide +kernel)
theorem tb_543 : (Jvm.Cond.instanceMethod ({ cls := "java/lang/Throwable", name := "<init>", desc := "(Ljava/lang/String;)V" } : Jvm.MethodName)) ∈ wB := wB_in 558 (by decide +kernel) (by decide +kernel)
theorem tb_544 : (Jvm.Cond.code ({ cls := "java/lang/Throwable", name := "<init>", desc := "(Ljava/lang/String;)V" } : Jvm.MethodName) prog_20_method_2_code (2 : Nat) (Option.none : Option Jvm.ClassFile.FieldType)) ∈ wB := wB_in 559 (by decide +kernel) (by decide +kernel)
theorem tb_545 : (Jvm.Cond.fieldLink "java/lang/Throwable" (198 : Nat) "java/lang/Throwable" "backtrace" "Ljava/lang/Object;") ∈ wB := wB_in 560 (by decide +kernel) (by decide +kernel)
theorem tb_546 : (Jvm.Cond.fieldLink "java/lang/Throwable" (31 : Nat) "java/lang/Throwable" "detailMessage" "Ljava/lang/String;") ∈ wB := wB_in 561 (by decide +kernel) (by decide +kernel)
theorem tb_547 : (Jvm.Cond.fieldLink "java/lang/Throwable" (7 : Nat) "java/lang/Throwable" "cause" "Ljava/lang/Throwable;") ∈ wB := wB_in 562 (by decide +kernel) (by decide +kernel)
theorem tb_548 : (Jvm.Cond.fieldLink "java/lang/Throwable" (17 : Nat) "java/lang/Throwable" "stackTrace" "[Ljava/lang/StackTraceElement;") ∈ wB := wB_in 563 (by decide +kernel) (by decide +kernel)
theorem tb_549 : (Jvm.Cond.fieldLink "java/lang/Throwable" (24 : Nat) "java/lang/Throwable" "suppressedExceptions" "Ljava/util/List;") ∈ wB := wB_in 564 (by decide +kernel) (by decide +kernel)
theorem tb_557 : (Jvm.Cond.superclass "java/lang/ArithmeticException" "java/lang/RuntimeException") ∈ wB := wB_in 572 (by decide +kernel) (by decide +kernel)
theorem tb_558 : (Jvm.Cond.arrayClass Jvm.ClassFile.FieldType.byte) ∈ wB := wB_in 573 (by decide +kernel) (by decide +kernel)
theorem tb_559 : (Jvm.Cond.selects "SwingBridge$LateBus" ({ cls := "SwingBridge$Cart", name := "tollAct", desc := "(I)I" } : Jvm.MethodName) ({ cls := "SwingBridge$LateBus", name := "tollAct", desc := "(I)I" } : Jvm.MethodName)) ∈ wB := wB_in 574 (by decide +kernel) (by decide +kernel)
theorem tb_560 : (Jvm.Cond.instanceMethod ({ cls := "SwingBridge$LateBus", name := "tollAct", desc := "(I)I" } : Jvm.MethodName)) ∈ wB := wB_in 575 (by decide +kernel) (by decide +kernel)
theorem tb_561 : (Jvm.Cond.code ({ cls := "SwingBridge$LateBus", name := "tollAct", desc := "(I)I" } : Jvm.MethodName) prog_8_method_3_code (2 : Nat) (Option.some Jvm.ClassFile.FieldType.int)) ∈ wB := wB_in 576 (by decide +kernel) (by decide +kernel)
theorem tb_562 : (Jvm.Cond.methodLink "SwingBridge$LateBus" (25 : Nat) ({ cls := "SwingBridge$Bus", name := "tollAct", desc := "(I)I" } : Jvm.MethodName)) ∈ wB := wB_in 577 (by decide +kernel) (by decide +kernel)
theorem tb_563 : (Jvm.Cond.sameMethod "SwingBridge$Bus" "SwingBridge$Cart" "tollAct" "(I)I") ∈ wB := wB_in 578 (by decide +kernel) (by decide +kernel)
theorem tb_564 : (Jvm.Cond.selects "SwingBridge$Lorry" ({ cls := "SwingBridge$Cart", name := "tollAct", desc := "(I)I" } : Jvm.MethodName) ({ cls := "SwingBridge$Cart", name := "tollAct", desc := "(I)I" } : Jvm.MethodName)) ∈ wB := wB_in 579 (by decide +kernel) (by decide +kernel)
theorem tb_565 : (Jvm.Cond.selects "SwingBridge$Tanker" ({ cls := "SwingBridge$Cart", name := "tollAct", desc := "(I)I" } : Jvm.MethodName) ({ cls := "SwingBridge$Tanker", name := "tollAct", desc := "(I)I" } : Jvm.MethodName)) ∈ wB := wB_in 580 (by decide +kernel) (by decide +kernel)
theorem tb_566 : (Jvm.Cond.instanceMethod ({ cls := "SwingBridge$Tanker", name := "tollAct", desc := "(I)I" } : Jvm.MethodName)) ∈ wB := wB_in 581 (by decide +kernel) (by decide +kernel)
theorem tb_567 : (Jvm.Cond.code ({ cls := "SwingBridge$Tanker", name := "tollAct", desc := "(I)I" } : Jvm.MethodName) prog_10_method_3_code (2 : Nat) (Option.some Jvm.ClassFile.FieldType.int)) ∈ wB := wB_in 582 (by decide +kernel) (by decide +kernel)
theorem tb_568 : (Jvm.Cond.methodLink "SwingBridge$Tanker" (29 : Nat) ({ cls := "SwingBridge$Lorry", name := "tollAct", desc := "(I)I" } : Jvm.MethodName)) ∈ wB := wB_in 583 (by decide +kernel) (by decide +kernel)
theorem tb_569 : (Jvm.Cond.sameMethod "SwingBridge$Lorry" "SwingBridge$Cart" "tollAct" "(I)I") ∈ wB := wB_in 584 (by decide +kernel) (by decide +kernel)
theorem tb_570 : (Jvm.Cond.selects "SwingBridge$Wheeled" ({ cls := "SwingBridge$Cart", name := "tollAct", desc := "(I)I" } : Jvm.MethodName) ({ cls := "SwingBridge$Cart", name := "tollAct", desc := "(I)I" } : Jvm.MethodName)) ∈ wB := wB_in 585 (by decide +kernel) (by decide +kernel)
theorem tb_571 : (Jvm.Cond.code ({ cls := "SwingBridge$Cart", name := "tollAct", desc := "(I)I" } : Jvm.MethodName) prog_6_method_3_code (2 : Nat) (Option.some Jvm.ClassFile.FieldType.int)) ∈ wB := wB_in 586 (by decide +kernel) (by decide +kernel)
theorem tb_572 : (Jvm.Cond.methodLink "SwingBridge$Cart" (89 : Nat) ({ cls := "SwingBridge$Cart", name := "rebateAct", desc := "()I" } : Jvm.MethodName)) ∈ wB := wB_in 587 (by decide +kernel) (by decide +kernel)
theorem tb_573 : (Jvm.Cond.methodLink "SwingBridgeLaw" (63 : Nat) ({ cls := "SwingBridge", name := "month", desc := "(II)I" } : Jvm.MethodName)) ∈ wB := wB_in 588 (by decide +kernel) (by decide +kernel)
theorem tb_574 : (Jvm.Cond.instanceMethod ({ cls := "SwingBridge", name := "month", desc := "(II)I" } : Jvm.MethodName)) ∈ wB := wB_in 589 (by decide +kernel) (by decide +kernel)
theorem tb_575 : (Jvm.Cond.selects "SwingBridge" ({ cls := "SwingBridge", name := "month", desc := "(II)I" } : Jvm.MethodName) ({ cls := "SwingBridge", name := "month", desc := "(II)I" } : Jvm.MethodName)) ∈ wB := wB_in 590 (by decide +kernel) (by decide +kernel)
theorem tb_576 : (Jvm.Cond.code ({ cls := "SwingBridge", name := "month", desc := "(II)I" } : Jvm.MethodName) prog_1_method_10_code (4 : Nat) (Option.some Jvm.ClassFile.FieldType.int)) ∈ wB := wB_in 591 (by decide +kernel) (by decide +kernel)
theorem tb_577 : (Jvm.Cond.methodLink "SwingBridge" (75 : Nat) ({ cls := "SwingBridge$Cart", name := "monthOf", desc := "(I)I" } : Jvm.MethodName)) ∈ wB := wB_in 592 (by decide +kernel) (by decide +kernel)
theorem tb_578 : (Jvm.Cond.instanceMethod ({ cls := "SwingBridge$Cart", name := "monthOf", desc := "(I)I" } : Jvm.MethodName)) ∈ wB := wB_in 593 (by decide +kernel) (by decide +kernel)
theorem tb_579 : (Jvm.Cond.selects "SwingBridge$Cart" ({ cls := "SwingBridge$Cart", name := "monthOf", desc := "(I)I" } : Jvm.MethodName) ({ cls := "SwingBridge$Cart", name := "monthOf", desc := "(I)I" } : Jvm.MethodName)) ∈ wB := wB_in 594 (by decide +kernel) (by decide +kernel)
theorem tb_580 : (Jvm.Cond.sameMethod "SwingBridge$Cart" "SwingBridge$Cart" "monthOf" "(I)I") ∈ wB := wB_in 595 (by decide +kernel) (by decide +kernel)
theorem tb_581 : (Jvm.Cond.selects "SwingBridge$Bus" ({ cls := "SwingBridge$Cart", name := "monthOf", desc := "(I)I" } : Jvm.MethodName) ({ cls := "SwingBridge$Cart", name := "monthOf", desc := "(I)I" } : Jvm.MethodName)) ∈ wB := wB_in 596 (by decide +kernel) (by decide +kernel)
theorem tb_582 : (Jvm.Cond.selects "SwingBridge$Cab" ({ cls := "SwingBridge$Cart", name := "monthOf", desc := "(I)I" } : Jvm.MethodName) ({ cls := "SwingBridge$Cart", name := "monthOf", desc := "(I)I" } : Jvm.MethodName)) ∈ wB := wB_in 597 (by decide +kernel) (by decide +kernel)
theorem tb_583 : (Jvm.Cond.selects "SwingBridge$Car" ({ cls := "SwingBridge$Cart", name := "monthOf", desc := "(I)I" } : Jvm.MethodName) ({ cls := "SwingBridge$Cart", name := "monthOf", desc := "(I)I" } : Jvm.MethodName)) ∈ wB := wB_in 598 (by decide +kernel) (by decide +kernel)
theorem tb_584 : (Jvm.Cond.selects "SwingBridge$Cycle" ({ cls := "SwingBridge$Cart", name := "monthOf", desc := "(I)I" } : Jvm.MethodName) ({ cls := "SwingBridge$Cart", name := "monthOf", desc := "(I)I" } : Jvm.MethodName)) ∈ wB := wB_in 599 (by decide +kernel) (by decide +kernel)
theorem tb_585 : (Jvm.Cond.selects "SwingBridge$LateBus" ({ cls := "SwingBridge$Cart", name := "monthOf", desc := "(I)I" } : Jvm.MethodName) ({ cls := "SwingBridge$LateBus", name := "monthOf", desc := "(I)I" } : Jvm.MethodName)) ∈ wB := wB_in 600 (by decide +kernel) (by decide +kernel)
theorem tb_586 : (Jvm.Cond.instanceMethod ({ cls := "SwingBridge$LateBus", name := "monthOf", desc := "(I)I" } : Jvm.MethodName)) ∈ wB := wB_in 601 (by decide +kernel) (by decide +kernel)
theorem tb_587 : (Jvm.Cond.code ({ cls := "SwingBridge$LateBus", name := "monthOf", desc := "(I)I" } : Jvm.MethodName) prog_8_method_6_code (2 : Nat) (Option.some Jvm.ClassFile.FieldType.int)) ∈ wB := wB_in 602 (by decide +kernel) (by decide +kernel)
theorem tb_588 : (Jvm.Cond.methodLink "SwingBridge$LateBus" (45 : Nat) ({ cls := "SwingBridge$LateBus", name := "billOf", desc := "(I)I" } : Jvm.MethodName)) ∈ wB := wB_in 603 (by decide +kernel) (by decide +kernel)
theorem tb_589 : (Jvm.Cond.sameMethod "SwingBridge$LateBus" "SwingBridge$Cart" "billOf" "(I)I") ∈ wB := wB_in 604 (by decide +kernel) (by decide +kernel)
theorem tb_591 : (Jvm.Cond.selects "SwingBridge$LateBus" ({ cls := "SwingBridge$LateBus", name := "billOf", desc := "(I)I" } : Jvm.MethodName) ({ cls := "SwingBridge$Cart", name := "billOf", desc := "(I)I" } : Jvm.MethodName)) ∈ wB := wB_in 606 (by decide +kernel) (by decide +kernel)
theorem tb_592 : (Jvm.Cond.selects "SwingBridge$Lorry" ({ cls := "SwingBridge$Cart", name := "monthOf", desc := "(I)I" } : Jvm.MethodName) ({ cls := "SwingBridge$Cart", name := "monthOf", desc := "(I)I" } : Jvm.MethodName)) ∈ wB := wB_in 607 (by decide +kernel) (by decide +kernel)
theorem tb_593 : (Jvm.Cond.selects "SwingBridge$Tanker" ({ cls := "SwingBridge$Cart", name := "monthOf", desc := "(I)I" } : Jvm.MethodName) ({ cls := "SwingBridge$Cart", name := "monthOf", desc := "(I)I" } : Jvm.MethodName)) ∈ wB := wB_in 608 (by decide +kernel) (by decide +kernel)
theorem tb_594 : (Jvm.Cond.selects "SwingBridge$Wheeled" ({ cls := "SwingBridge$Cart", name := "monthOf", desc := "(I)I" } : Jvm.MethodName) ({ cls := "SwingBridge$Cart", name := "monthOf", desc := "(I)I" } : Jvm.MethodName)) ∈ wB := wB_in 609 (by decide +kernel) (by decide +kernel)
theorem tb_595 : (Jvm.Cond.code ({ cls := "SwingBridge$Cart", name := "monthOf", desc := "(I)I" } : Jvm.MethodName) prog_6_method_10_code (2 : Nat) (Option.some Jvm.ClassFile.FieldType.int)) ∈ wB := wB_in 610 (by decide +kernel) (by decide +kernel)
theorem tb_596 : (Jvm.Cond.methodLink "SwingBridge$Cart" (92 : Nat) ({ cls := "SwingBridge$Cart", name := "billOf", desc := "(I)I" } : Jvm.MethodName)) ∈ wB := wB_in 611 (by decide +kernel) (by decide +kernel)
theorem tb_597 : (Jvm.Cond.methodLink "SwingBridgeLaw" (67 : Nat) ({ cls := "SwingBridge", name := "swing", desc := "(Z)I" } : Jvm.MethodName)) ∈ wB := wB_in 612 (by decide +kernel) (by decide +kernel)
theorem tb_598 : (Jvm.Cond.instanceMethod ({ cls := "SwingBridge", name := "swing", desc := "(Z)I" } : Jvm.MethodName)) ∈ wB := wB_in 613 (by decide +kernel) (by decide +kernel)
theorem tb_599 : (Jvm.Cond.selects "SwingBridge" ({ cls := "SwingBridge", name := "swing", desc := "(Z)I" } : Jvm.MethodName) ({ cls := "SwingBridge", name := "swing", desc := "(Z)I" } : Jvm.MethodName)) ∈ wB := wB_in 614 (by decide +kernel) (by decide +kernel)
theorem tb_600 : (Jvm.Cond.code ({ cls := "SwingBridge", name := "swing", desc := "(Z)I" } : Jvm.MethodName) prog_1_method_11_code (3 : Nat) (Option.some Jvm.ClassFile.FieldType.int)) ∈ wB := wB_in 615 (by decide +kernel) (by decide +kernel)
theorem tb_601 : (Jvm.Cond.methodLink "SwingBridgeLaw" (72 : Nat) ({ cls := "SwingBridge", name := "rush", desc := "(I)I" } : Jvm.MethodName)) ∈ wB := wB_in 616 (by decide +kernel) (by decide +kernel)
theorem tb_602 : (Jvm.Cond.instanceMethod ({ cls := "SwingBridge", name := "rush", desc := "(I)I" } : Jvm.MethodName)) ∈ wB := wB_in 617 (by decide +kernel) (by decide +kernel)
theorem tb_603 : (Jvm.Cond.selects "SwingBridge" ({ cls := "SwingBridge", name := "rush", desc := "(I)I" } : Jvm.MethodName) ({ cls := "SwingBridge", name := "rush", desc := "(I)I" } : Jvm.MethodName)) ∈ wB := wB_in 618 (by decide +kernel) (by decide +kernel)
theorem tb_604 : (Jvm.Cond.codeWith ({ cls := "SwingBridge", name := "rush", desc := "(I)I" } : Jvm.MethodName) prog_1_method_12_code (6 : Nat) (Option.some Jvm.ClassFile.FieldType.int) [((47 : Nat), (56 : Nat), (59 : Nat), (82 : Nat)), ((47 : Nat), (56 : Nat), (64 : Nat), (84 : Nat))]) ∈ wB := wB_in 619 (by decide +kernel) (by decide +kernel)
theorem tb_605 : (Jvm.Cond.classLink "SwingBridge" (82 : Nat) "java/lang/IllegalStateException") ∈ wB := wB_in 620 (by decide +kernel) (by decide +kernel)
theorem tb_606 : (Jvm.Cond.classLink "SwingBridge" (84 : Nat) "java/lang/ArithmeticException") ∈ wB := wB_in 621 (by decide +kernel) (by decide +kernel)
theorem tb_607 : (Jvm.Cond.methodLink "SwingBridge" (53 : Nat) ({ cls := "SwingBridge$Cart", name := "enterAct", desc := "(I)V" } : Jvm.MethodName)) ∈ wB := wB_in 622 (by decide +kernel) (by decide +kernel)
theorem tb_608 : (Jvm.Cond.instanceMethod ({ cls := "SwingBridge$Cart", name := "enterAct", desc := "(I)V" } : Jvm.MethodName)) ∈ wB := wB_in 623 (by decide +kernel) (by decide +kernel)
theorem tb_609 : (Jvm.Cond.selects "SwingBridge$Cart" ({ cls := "SwingBridge$Cart", name := "enterAct", desc := "(I)V" } : Jvm.MethodName) ({ cls := "SwingBridge$Cart", name := "enterAct", desc := "(I)V" } : Jvm.MethodName)) ∈ wB := wB_in 624 (by decide +kernel) (by decide +kernel)
theorem tb_610 : (Jvm.Cond.sameMethod "SwingBridge$Cart" "SwingBridge$Cart" "enterAct" "(I)V") ∈ wB := wB_in 625 (by decide +kernel) (by decide +kernel)
theorem tb_611 : (Jvm.Cond.selects "SwingBridge$Bus" ({ cls := "SwingBridge$Cart", name := "enterAct", desc := "(I)V" } : Jvm.MethodName) ({ cls := "SwingBridge$Bus", name := "enterAct", desc := "(I)V" } : Jvm.MethodName)) ∈ wB := wB_in 626 (by decide +kernel) (by decide +kernel)
theorem tb_612 : (Jvm.Cond.instanceMethod ({ cls := "SwingBridge$Bus", name := "enterAct", desc := "(I)V" } : Jvm.MethodName)) ∈ wB := wB_in 627 (by decide +kernel) (by decide +kernel)
theorem tb_613 : (Jvm.Cond.code ({ cls := "SwingBridge$Bus", name := "enterAct", desc := "(I)V" } : Jvm.MethodName) prog_3_method_2_code (2 : Nat) (Option.none : Option Jvm.ClassFile.FieldType)) ∈ wB := wB_in 628 (by decide +kernel) (by decide +kernel)
theorem tb_614 : (Jvm.Cond.methodLink "SwingBridge$Bus" (25 : Nat) ({ cls := "java/lang/Math", name := "min", desc := "(II)I" } : Jvm.MethodName)) ∈ wB := wB_in 629 (by decide +kernel) (by decide +kernel)
theorem tb_615 : (Jvm.Cond.methodLink "SwingBridge$Bus" (31 : Nat) ({ cls := "SwingBridge$Lorry", name := "enterAct", desc := "(I)V" } : Jvm.MethodName)) ∈ wB := wB_in 630 (by decide +kernel) (by decide +kernel)
theorem tb_616 : (Jvm.Cond.sameMethod "SwingBridge$Lorry" "SwingBridge$Cart" "enterAct" "(I)V") ∈ wB := wB_in 631 (by decide +kernel) (by decide +kernel)
theorem tb_618 : (Jvm.Cond.selects "SwingBridge$Cab" ({ cls := "SwingBridge$Cart", name := "enterAct", desc := "(I)V" } : Jvm.MethodName) ({ cls := "SwingBridge$Cab", name := "enterAct", desc := "(I)V" } : Jvm.MethodName)) ∈ wB := wB_in 633 (by decide +kernel) (by decide +kernel)
theorem tb_619 : (Jvm.Cond.instanceMethod ({ cls := "SwingBridge$Cab", name := "enterAct", desc := "(I)V" } : Jvm.MethodName)) ∈ wB := wB_in 634 (by decide +kernel) (by decide +kernel)
theorem tb_620 : (Jvm.Cond.code ({ cls := "SwingBridge$Cab", name := "enterAct", desc := "(I)V" } : Jvm.MethodName) prog_4_method_3_code (2 : Nat) (Option.none : Option Jvm.ClassFile.FieldType)) ∈ wB := wB_in 635 (by decide +kernel) (by decide +kernel)
theorem tb_621 : (Jvm.Cond.methodLink "SwingBridge$Cab" (29 : Nat) ({ cls := "SwingBridge$Car", name := "enterAct", desc := "(I)V" } : Jvm.MethodName)) ∈ wB := wB_in 636 (by decide +kernel) (by decide +kernel)
theorem tb_622 : (Jvm.Cond.sameMethod "SwingBridge$Car" "SwingBridge$Cart" "enterAct" "(I)V") ∈ wB := wB_in 637 (by decide +kernel) (by decide +kernel)
theorem tb_623 : (Jvm.Cond.selects "SwingBridge$Car" ({ cls := "SwingBridge$Cart", name := "enterAct", desc := "(I)V" } : Jvm.MethodName) ({ cls := "SwingBridge$Cart", name := "enterAct", desc := "(I)V" } : Jvm.MethodName)) ∈ wB := wB_in 638 (by decide +kernel) (by decide +kernel)
theorem tb_624 : (Jvm.Cond.selects "SwingBridge$Cycle" ({ cls := "SwingBridge$Cart", name := "enterAct", desc := "(I)V" } : Jvm.MethodName) ({ cls := "SwingBridge$Cycle", name := "enterAct", desc := "(I)V" } : Jvm.MethodName)) ∈ wB := wB_in 639 (by decide +kernel) (by decide +kernel)
theorem tb_625 : (Jvm.Cond.instanceMethod ({ cls := "SwingBridge$Cycle", name := "enterAct", desc := "(I)V" } : Jvm.MethodName)) ∈ wB := wB_in 640 (by decide +kernel) (by decide +kernel)
theorem tb_626 : (Jvm.Cond.codeWith ({ cls := "SwingBridge$Cycle", name := "enterAct", desc := "(I)V" } : Jvm.MethodName) prog_7_method_4_code (4 : Nat) (Option.none : Option Jvm.ClassFile.FieldType) [((16 : Nat), (21 : Nat), (24 : Nat), (43 : Nat))]) ∈ wB := wB_in 641 (by decide +kernel) (by decide +kernel)
theorem tb_627 : (Jvm.Cond.classLink "SwingBridge$Cycle" (43 : Nat) "java/lang/IllegalStateException") ∈ wB := wB_in 642 (by decide +kernel) (by decide +kernel)
theorem tb_628 : (Jvm.Cond.methodLink "SwingBridge$Cycle" (39 : Nat) ({ cls := "SwingBridge$Cart", name := "enterAct", desc := "(I)V" } : Jvm.MethodName)) ∈ wB := wB_in 643 (by decide +kernel) (by decide +kernel)
theorem tb_629 : (Jvm.Cond.selects "SwingBridge$LateBus" ({ cls := "SwingBridge$Cart", name := "enterAct", desc := "(I)V" } : Jvm.MethodName) ({ cls := "SwingBridge$Bus", name := "enterAct", desc := "(I)V" } : Jvm.MethodName)) ∈ wB := wB_in 644 (by decide +kernel) (by decide +kernel)
theorem tb_630 : (Jvm.Cond.selects "SwingBridge$Lorry" ({ cls := "SwingBridge$Cart", name := "enterAct", desc := "(I)V" } : Jvm.MethodName) ({ cls := "SwingBridge$Cart", name := "enterAct", desc := "(I)V" } : Jvm.MethodName)) ∈ wB := wB_in 645 (by decide +kernel) (by decide +kernel)
theorem tb_631 : (Jvm.Cond.selects "SwingBridge$Tanker" ({ cls := "SwingBridge$Cart", name := "enterAct", desc := "(I)V" } : Jvm.MethodName) ({ cls := "SwingBridge$Tanker", name := "enterAct", desc := "(I)V" } : Jvm.MethodName)) ∈ wB := wB_in 646 (by decide +kernel) (by decide +kernel)
theorem tb_632 : (Jvm.Cond.instanceMethod ({ cls := "SwingBridge$Tanker", name := "enterAct", desc := "(I)V" } : Jvm.MethodName)) ∈ wB := wB_in 647 (by decide +kernel) (by decide +kernel)
theorem tb_633 : (Jvm.Cond.code ({ cls := "SwingBridge$Tanker", name := "enterAct", desc := "(I)V" } : Jvm.MethodName) prog_10_method_5_code (2 : Nat) (Option.none : Option Jvm.ClassFile.FieldType)) ∈ wB := wB_in 648 (by decide +kernel) (by decide +kernel)
theorem tb_634 : (Jvm.Cond.methodLink "SwingBridge$Tanker" (40 : Nat) ({ cls := "SwingBridge$Lorry", name := "enterAct", desc := "(I)V" } : Jvm.MethodName)) ∈ wB := wB_in 649 (by decide +kernel) (by decide +kernel)
theorem tb_635 : (Jvm.Cond.methodLink "SwingBridge$Tanker" (47 : Nat) ({ cls := "java/lang/Math", name := "max", desc := "(II)I" } : Jvm.MethodName)) ∈ wB := wB_in 650 (by decide +kernel) (by decide +kernel)
theorem tb_636 : (Jvm.Cond.static ({ cls := "java/lang/Math", name := "max", desc := "(II)I" } : Jvm.MethodName)) ∈ wB := wB_in 651 (by decide +kernel) (by decide +kernel)
theorem tb_637 : (Jvm.Cond.code ({ cls := "java/lang/Math", name := "max", desc := "(II)I" } : Jvm.MethodName) prog_17_method_65_code (2 : Nat) (Option.some Jvm.ClassFile.FieldType.int)) ∈ wB := wB_in 652 (by decide +kernel) (by decide +kernel)
theorem tb_638 : (Jvm.Cond.selects "SwingBridge$Wheeled" ({ cls := "SwingBridge$Cart", name := "enterAct", desc := "(I)V" } : Jvm.MethodName) ({ cls := "SwingBridge$Cart", name := "enterAct", desc := "(I)V" } : Jvm.MethodName)) ∈ wB := wB_in 653 (by decide +kernel) (by decide +kernel)
theorem tb_639 : (Jvm.Cond.code ({ cls := "SwingBridge$Cart", name := "enterAct", desc := "(I)V" } : Jvm.MethodName) prog_6_method_5_code (2 : Nat) (Option.none : Option Jvm.ClassFile.FieldType)) ∈ wB := wB_in 654 (by decide +kernel) (by decide +kernel)
theorem tb_640 : (Jvm.Cond.methodLink "SwingBridge$Cart" (64 : Nat) ({ cls := "SwingBridge$Cart", name := "fitAct", desc := "()Z" } : Jvm.MethodName)) ∈ wB := wB_in 655 (by decide +kernel) (by decide +kernel)
theorem tb_641 : (Jvm.Cond.classLink "SwingBridge$Cart" (71 : Nat) "java/lang/IllegalStateException") ∈ wB := wB_in 656 (by decide +kernel) (by decide +kernel)
theorem tb_642 : (Jvm.Cond.instantiable "java/lang/IllegalStateException" (6 : Nat)) ∈ wB := wB_in 657 (by decide +kernel) (by decide +kernel)
theorem tb_644 : (Jvm.Cond.selects "java/lang/IllegalStateException" ({ cls := "java/lang/Throwable", name := "fillInStackTrace", desc := "(I)Ljava/lang/Throwable;" } : Jvm.MethodName) ({ cls := "java/lang/Throwable", name := "fillInStackTrace", desc := "(I)Ljava/lang/Throwable;" } : Jvm.MethodName)) ∈ wB := wB_in 659 (by decide +kernel) (by decide +kernel)
theorem tb_651 : (Jvm.Cond.methodLink "SwingBridge$Cart" (75 : Nat) ({ cls := "java/lang/IllegalStateException", name := "<init>", desc := "(Ljava/lang/String;)V" } : Jvm.MethodName)) ∈ wB := wB_in 666 (by decide +kernel) (by decide +kernel)
theorem tb_652 : (Jvm.Cond.instanceMethod ({ cls := "java/lang/IllegalStateException", name := "<init>", desc := "(Ljava/lang/String;)V" } : Jvm.MethodName)) ∈ wB := wB_in 667 (by decide +kernel) (by decide +kernel)
theorem tb_653 : (Jvm.Cond.code ({ cls := "java/lang/IllegalStateException", name := "<init>", desc := "(Ljava/lang/String;)V" } : Jvm.MethodName) prog_16_method_2_code (2 : Nat) (Option.none : Option Jvm.ClassFile.FieldType)) ∈ wB := wB_in 668 (by decide +kernel) (by decide +kernel)
theorem tb_654 : (Jvm.Cond.methodLink "java/lang/IllegalStateException" (7 : Nat) ({ cls := "java/lang/RuntimeException", name := "<init>", desc := "(Ljava/lang/String;)V" } : Jvm.MethodName)) ∈ wB := wB_in 669 (by decide +kernel) (by decide +kernel)
theorem tb_656 : (Jvm.Cond.superclass "java/lang/IllegalStateException" "java/lang/RuntimeException") ∈ wB := wB_in 671 (by decide +kernel) (by decide +kernel)
theorem tb_657 : (Jvm.Cond.methodLink "SwingBridge$Cart" (82 : Nat) ({ cls := "SwingBridge$Bridge", name := "takeOn", desc := "(LSwingBridge$Cart;)V" } : Jvm.MethodName)) ∈ wB := wB_in 672 (by decide +kernel) (by decide +kernel)
theorem tb_658 : (Jvm.Cond.instanceMethod ({ cls := "SwingBridge$Bridge", name := "takeOn", desc := "(LSwingBridge$Cart;)V" } : Jvm.MethodName)) ∈ wB := wB_in 673 (by decide +kernel) (by decide +kernel)
theorem tb_659 : (Jvm.Cond.selects "SwingBridge$Bridge" ({ cls := "SwingBridge$Bridge", name := "takeOn", desc := "(LSwingBridge$Cart;)V" } : Jvm.MethodName) ({ cls := "SwingBridge$Bridge", name := "takeOn", desc := "(LSwingBridge$Cart;)V" } : Jvm.MethodName)) ∈ wB := wB_in 674 (by decide +kernel) (by decide +kernel)
theorem tb_660 : (Jvm.Cond.code ({ cls := "SwingBridge$Bridge", name := "takeOn", desc := "(LSwingBridge$Cart;)V" } : Jvm.MethodName) prog_2_method_3_code (3 : Nat) (Option.none : Option Jvm.ClassFile.FieldType)) ∈ wB := wB_in 675 (by decide +kernel) (by decide +kernel)
theorem tb_661 : (Jvm.Cond.methodLink "SwingBridgeLaw" (76 : Nat) ({ cls := "SwingBridge", name := "clear", desc := "()I" } : Jvm.MethodName)) ∈ wB := wB_in 676 (by decide +kernel) (by decide +kernel)
theorem tb_662 : (Jvm.Cond.instanceMethod ({ cls := "SwingBridge", name := "clear", desc := "()I" } : Jvm.MethodName)) ∈ wB := wB_in 677 (by decide +kernel) (by decide +kernel)
theorem tb_663 : (Jvm.Cond.selects "SwingBridge" ({ cls := "SwingBridge", name := "clear", desc := "()I" } : Jvm.MethodName) ({ cls := "SwingBridge", name := "clear", desc := "()I" } : Jvm.MethodName)) ∈ wB := wB_in 678 (by decide +kernel) (by decide +kernel)
theorem tb_664 : (Jvm.Cond.code ({ cls := "SwingBridge", name := "clear", desc := "()I" } : Jvm.MethodName) prog_1_method_13_code (4 : Nat) (Option.some Jvm.ClassFile.FieldType.int)) ∈ wB := wB_in 679 (by decide +kernel) (by decide +kernel)
theorem tb_665 : (Jvm.Cond.methodLink "SwingBridge" (86 : Nat) ({ cls := "SwingBridge$Bridge", name := "at", desc := "(I)LSwingBridge$Cart;" } : Jvm.MethodName)) ∈ wB := wB_in 680 (by decide +kernel) (by decide +kernel)
theorem tb_666 : (Jvm.Cond.instanceMethod ({ cls := "SwingBridge$Bridge", name := "at", desc := "(I)LSwingBridge$Cart;" } : Jvm.MethodName)) ∈ wB := wB_in 681 (by decide +kernel) (by decide +kernel)
theorem tb_667 : (Jvm.Cond.selects "SwingBridge$Bridge" ({ cls := "SwingBridge$Bridge", name := "at", desc := "(I)LSwingBridge$Cart;" } : Jvm.MethodName) ({ cls := "SwingBridge$Bridge", name := "at", desc := "(I)LSwingBridge$Cart;" } : Jvm.MethodName)) ∈ wB := wB_in 682 (by decide +kernel) (by decide +kernel)
theorem tb_668 : (Jvm.Cond.code ({ cls := "SwingBridge$Bridge", name := "at", desc := "(I)LSwingBridge$Cart;" } : Jvm.MethodName) prog_2_method_2_code (2 : Nat) (Option.some (Jvm.ClassFile.FieldType.object "SwingBridge$Cart"))) ∈ wB := wB_in 683 (by decide +kernel) (by decide +kernel)
theorem tb_669 : (Jvm.Cond.methodLink "SwingBridgeLaw" (80 : Nat) ({ cls := "SwingBridge", name := "tell", desc := "(II)I" } : Jvm.MethodName)) ∈ wB := wB_in 684 (by decide +kernel) (by decide +kernel)
theorem tb_670 : (Jvm.Cond.instanceMethod ({ cls := "SwingBridge", name := "tell", desc := "(II)I" } : Jvm.MethodName)) ∈ wB := wB_in 685 (by decide +kernel) (by decide +kernel)
theorem tb_671 : (Jvm.Cond.selects "SwingBridge" ({ cls := "SwingBridge", name := "tell", desc := "(II)I" } : Jvm.MethodName) ({ cls := "SwingBridge", name := "tell", desc := "(II)I" } : Jvm.MethodName)) ∈ wB := wB_in 686 (by decide +kernel) (by decide +kernel)
theorem tb_672 : (Jvm.Cond.code ({ cls := "SwingBridge", name := "tell", desc := "(II)I" } : Jvm.MethodName) prog_1_method_14_code (4 : Nat) (Option.some Jvm.ClassFile.FieldType.int)) ∈ wB := wB_in 687 (by decide +kernel) (by decide +kernel)
theorem tb_673 : (Jvm.Cond.methodLink "SwingBridgeLaw" (84 : Nat) ({ cls := "SwingBridge", name := "deck", desc := "(I)I" } : Jvm.MethodName)) ∈ wB := wB_in 688 (by decide +kernel) (by decide +kernel)
theorem tb_674 : (Jvm.Cond.instanceMethod ({ cls := "SwingBridge", name := "deck", desc := "(I)I" } : Jvm.MethodName)) ∈ wB := wB_in 689 (by decide +kernel) (by decide +kernel)
theorem tb_675 : (Jvm.Cond.selects "SwingBridge" ({ cls := "SwingBridge", name := "deck", desc := "(I)I" } : Jvm.MethodName) ({ cls := "SwingBridge", name := "deck", desc := "(I)I" } : Jvm.MethodName)) ∈ wB := wB_in 690 (by decide +kernel) (by decide +kernel)
theorem tb_676 : (Jvm.Cond.code ({ cls := "SwingBridge", name := "deck", desc := "(I)I" } : Jvm.MethodName) prog_1_method_15_code (3 : Nat) (Option.some Jvm.ClassFile.FieldType.int)) ∈ wB := wB_in 691 (by decide +kernel) (by decide +kernel)
theorem tb_677 : (Jvm.Cond.methodLink "SwingBridgeLaw" (88 : Nat) ({ cls := "SwingBridge", name := "began", desc := "(I)I" } : Jvm.MethodName)) ∈ wB := wB_in 692 (by decide +kernel) (by decide +kernel)
theorem tb_678 : (Jvm.Cond.instanceMethod ({ cls := "SwingBridge", name := "began", desc := "(I)I" } : Jvm.MethodName)) ∈ wB := wB_in 693 (by decide +kernel) (by decide +kernel)
theorem tb_679 : (Jvm.Cond.selects "SwingBridge" ({ cls := "SwingBridge", name := "began", desc := "(I)I" } : Jvm.MethodName) ({ cls := "SwingBridge", name := "began", desc := "(I)I" } : Jvm.MethodName)) ∈ wB := wB_in 694 (by decide +kernel) (by decide +kernel)
theorem tb_680 : (Jvm.Cond.code ({ cls := "SwingBridge", name := "began", desc := "(I)I" } : Jvm.MethodName) prog_1_method_16_code (2 : Nat) (Option.some Jvm.ClassFile.FieldType.int)) ∈ wB := wB_in 695 (by decide +kernel) (by decide +kernel)
theorem tb_681 : (Jvm.Cond.methodLink "SwingBridgeLaw" (92 : Nat) ({ cls := "SwingBridge", name := "count", desc := "(I)I" } : Jvm.MethodName)) ∈ wB := wB_in 696 (by decide +kernel) (by decide +kernel)
theorem tb_682 : (Jvm.Cond.instanceMethod ({ cls := "SwingBridge", name := "count", desc := "(I)I" } : Jvm.MethodName)) ∈ wB := wB_in 697 (by decide +kernel) (by decide +kernel)
theorem tb_683 : (Jvm.Cond.selects "SwingBridge" ({ cls := "SwingBridge", name := "count", desc := "(I)I" } : Jvm.MethodName) ({ cls := "SwingBridge", name := "count", desc := "(I)I" } : Jvm.MethodName)) ∈ wB := wB_in 698 (by decide +kernel) (by decide +kernel)
theorem tb_684 : (Jvm.Cond.code ({ cls := "SwingBridge", name := "count", desc := "(I)I" } : Jvm.MethodName) prog_1_method_17_code (2 : Nat) (Option.some Jvm.ClassFile.FieldType.int)) ∈ wB := wB_in 699 (by decide +kernel) (by decide +kernel)
theorem tb_685 : (Jvm.Cond.methodLink "SwingBridgeLaw" (34 : Nat) ({ cls := "SwingBridgeLaw", name := "toll", desc := "(LSwingBridge;II[J)I" } : Jvm.MethodName)) ∈ wB := wB_in 700 (by decide +kernel) (by decide +kernel)
theorem tb_686 : (Jvm.Cond.static ({ cls := "SwingBridgeLaw", name := "toll", desc := "(LSwingBridge;II[J)I" } : Jvm.MethodName)) ∈ wB := wB_in 701 (by decide +kernel) (by decide +kernel)
theorem tb_687 : (Jvm.Cond.codeWith ({ cls := "SwingBridgeLaw", name := "toll", desc := "(LSwingBridge;II[J)I" } : Jvm.MethodName) method_3_code (5 : Nat) (Option.some Jvm.ClassFile.FieldType.int) [((0 : Nat), (10 : Nat), (13 : Nat), (13 : Nat))]) ∈ wB := wB_in 702 (by decide +kernel) (by decide +kernel)
theorem tb_688 : (Jvm.Cond.classLink "SwingBridgeLaw" (13 : Nat) "java/lang/ArithmeticException") ∈ wB := wB_in 703 (by decide +kernel) (by decide +kernel)
theorem tb_689 : (Jvm.Cond.methodLink "SwingBridgeLaw" (7 : Nat) ({ cls := "SwingBridge", name := "toll", desc := "(II)I" } : Jvm.MethodName)) ∈ wB := wB_in 704 (by decide +kernel) (by decide +kernel)
theorem tb_690 : (Jvm.Cond.instanceMethod ({ cls := "SwingBridge", name := "toll", desc := "(II)I" } : Jvm.MethodName)) ∈ wB := wB_in 705 (by decide +kernel) (by decide +kernel)
theorem tb_691 : (Jvm.Cond.selects "SwingBridge" ({ cls := "SwingBridge", name := "toll", desc := "(II)I" } : Jvm.MethodName) ({ cls := "SwingBridge", name := "toll", desc := "(II)I" } : Jvm.MethodName)) ∈ wB := wB_in 706 (by decide +kernel) (by decide +kernel)
theorem tb_692 : (Jvm.Cond.code ({ cls := "SwingBridge", name := "toll", desc := "(II)I" } : Jvm.MethodName) prog_1_method_4_code (4 : Nat) (Option.some Jvm.ClassFile.FieldType.int)) ∈ wB := wB_in 707 (by decide +kernel) (by decide +kernel)
theorem tb_693 : (Jvm.Cond.methodLink "SwingBridge" (42 : Nat) ({ cls := "SwingBridge$Cart", name := "tollAct", desc := "(I)I" } : Jvm.MethodName)) ∈ wB := wB_in 708 (by decide +kernel) (by decide +kernel)
theorem tb_694 : (Jvm.Cond.methodLink "SwingBridgeLaw" (48 : Nat) ({ cls := "SwingBridgeLaw", name := "enter", desc := "(LSwingBridge;II[J)I" } : Jvm.MethodName)) ∈ wB := wB_in 709 (by decide +kernel) (by decide +kernel)
theorem tb_695 : (Jvm.Cond.static ({ cls := "SwingBridgeLaw", name := "enter", desc := "(LSwingBridge;II[J)I" } : Jvm.MethodName)) ∈ wB := wB_in 710 (by decide +kernel) (by decide +kernel)
theorem tb_696 : (Jvm.Cond.codeWith ({ cls := "SwingBridgeLaw", name := "enter", desc := "(LSwingBridge;II[J)I" } : Jvm.MethodName) method_4_code (5 : Nat) (Option.some Jvm.ClassFile.FieldType.int) [((0 : Nat), (10 : Nat), (13 : Nat), (18 : Nat)), ((0 : Nat), (10 : Nat), (17 : Nat), (13 : Nat))]) ∈ wB := wB_in 711 (by decide +kernel) (by decide +kernel)
theorem tb_697 : (Jvm.Cond.classLink "SwingBridgeLaw" (18 : Nat) "java/lang/IllegalStateException") ∈ wB := wB_in 712 (by decide +kernel) (by decide +kernel)
theorem tb_698 : (Jvm.Cond.methodLink "SwingBridgeLaw" (15 : Nat) ({ cls := "SwingBridge", name := "enter", desc := "(II)I" } : Jvm.MethodName)) ∈ wB := wB_in 713 (by decide +kernel) (by decide +kernel)
theorem tb_699 : (Jvm.Cond.instanceMethod ({ cls := "SwingBridge", name := "enter", desc := "(II)I" } : Jvm.MethodName)) ∈ wB := wB_in 714 (by decide +kernel) (by decide +kernel)
theorem tb_700 : (Jvm.Cond.selects "SwingBridge" ({ cls := "SwingBridge", name := "enter", desc := "(II)I" } : Jvm.MethodName) ({ cls := "SwingBridge", name := "enter", desc := "(II)I" } : Jvm.MethodName)) ∈ wB := wB_in 715 (by decide +kernel) (by decide +kernel)
theorem tb_701 : (Jvm.Cond.code ({ cls := "SwingBridge", name := "enter", desc := "(II)I" } : Jvm.MethodName) prog_1_method_6_code (4 : Nat) (Option.some Jvm.ClassFile.FieldType.int)) ∈ wB := wB_in 716 (by decide +kernel) (by decide +kernel)
theorem tb_702 : (Jvm.Cond.classLink "SwingBridgeLaw" (21 : Nat) "SwingBridgeModel") ∈ wB := wB_in 717 (by decide +kernel) (by decide +kernel)
theorem tb_703 : (Jvm.Cond.instantiable "SwingBridgeModel" (18 : Nat)) ∈ wB := wB_in 718 (by decide +kernel) (by decide +kernel)
theorem tb_704 : (Jvm.Cond.methodLink "SwingBridgeLaw" (23 : Nat) ({ cls := "SwingBridgeModel", name := "<init>", desc := "()V" } : Jvm.MethodName)) ∈ wB := wB_in 719 (by decide +kernel) (by decide +kernel)
theorem tb_705 : (Jvm.Cond.instanceMethod ({ cls := "SwingBridgeModel", name := "<init>", desc := "()V" } : Jvm.MethodName)) ∈ wB := wB_in 720 (by decide +kernel) (by decide +kernel)
theorem tb_706 : (Jvm.Cond.code ({ cls := "SwingBridgeModel", name := "<init>", desc := "()V" } : Jvm.MethodName) prog_13_method_1_code (1 : Nat) (Option.none : Option Jvm.ClassFile.FieldType)) ∈ wB := wB_in 721 (by decide +kernel) (by decide +kernel)
theorem tb_707 : (Jvm.Cond.methodLink "SwingBridgeModel" (1 : Nat) ({ cls := "java/lang/Object", name := "<init>", desc := "()V" } : Jvm.MethodName)) ∈ wB := wB_in 722 (by decide +kernel) (by decide +kernel)
theorem tb_708 : (Jvm.Cond.fieldLink "SwingBridgeModel" (44 : Nat) "SwingBridgeModel" "thrown" "I") ∈ wB := wB_in 723 (by decide +kernel) (by decide +kernel)
theorem tb_709 : (Jvm.Cond.fieldLink "SwingBridgeModel" (47 : Nat) "SwingBridgeModel" "many" "I") ∈ wB := wB_in 724 (by decide +kernel) (by decide +kernel)
theorem tb_710 : (Jvm.Cond.fieldLink "SwingBridgeModel" (7 : Nat) "SwingBridgeModel" "kind" "[I") ∈ wB := wB_in 725 (by decide +kernel) (by decide +kernel)
theorem tb_711 : (Jvm.Cond.fieldLink "SwingBridgeModel" (13 : Nat) "SwingBridgeModel" "mass" "[I") ∈ wB := wB_in 726 (by decide +kernel) (by decide +kernel)
theorem tb_712 : (Jvm.Cond.fieldLink "SwingBridgeModel" (16 : Nat) "SwingBridgeModel" "load" "[I") ∈ wB := wB_in 727 (by decide +kernel) (by decide +kernel)
theorem tb_713 : (Jvm.Cond.fieldLink "SwingBridgeModel" (19 : Nat) "SwingBridgeModel" "share" "[I") ∈ wB := wB_in 728 (by decide +kernel) (by decide +kernel)
theorem tb_714 : (Jvm.Cond.fieldLink "SwingBridgeModel" (22 : Nat) "SwingBridgeModel" "place" "[I") ∈ wB := wB_in 729 (by decide +kernel) (by decide +kernel)
theorem tb_715 : (Jvm.Cond.fieldLink "SwingBridgeModel" (25 : Nat) "SwingBridgeModel" "paid" "[I") ∈ wB := wB_in 730 (by decide +kernel) (by decide +kernel)
theorem tb_716 : (Jvm.Cond.fieldLink "SwingBridgeModel" (28 : Nat) "SwingBridgeModel" "times" "[I") ∈ wB := wB_in 731 (by decide +kernel) (by decide +kernel)
theorem tb_717 : (Jvm.Cond.fieldLink "SwingBridgeModel" (31 : Nat) "SwingBridgeModel" "meter" "[I") ∈ wB := wB_in 732 (by decide +kernel) (by decide +kernel)
theorem tb_718 : (Jvm.Cond.fieldLink "SwingBridgeModel" (34 : Nat) "SwingBridgeModel" "row" "[I") ∈ wB := wB_in 733 (by decide +kernel) (by decide +kernel)
theorem tb_719 : (Jvm.Cond.fieldLink "SwingBridgeModel" (68 : Nat) "SwingBridgeModel" "rowMany" "I") ∈ wB := wB_in 734 (by decide +kernel) (by decide +kernel)
theorem tb_720 : (Jvm.Cond.fieldLink "SwingBridgeModel" (37 : Nat) "SwingBridgeModel" "begun" "[I") ∈ wB := wB_in 735 (by decide +kernel) (by decide +kernel)
theorem tb_721 : (Jvm.Cond.fieldLink "SwingBridgeModel" (40 : Nat) "SwingBridgeModel" "limit" "I") ∈ wB := wB_in 736 (by decide +kernel) (by decide +kernel)
theorem tb_722 : (Jvm.Cond.fieldLink "SwingBridgeModel" (71 : Nat) "SwingBridgeModel" "isOpen" "Z") ∈ wB := wB_in 737 (by decide +kernel) (by decide +kernel)
theorem tb_723 : (Jvm.Cond.fieldLink "SwingBridgeModel" (81 : Nat) "SwingBridgeModel" "stopped" "I") ∈ wB := wB_in 738 (by decide +kernel) (by decide +kernel)
theorem tb_724 : (Jvm.Cond.fieldLink "SwingBridgeModel" (65 : Nat) "SwingBridgeModel" "divided" "I") ∈ wB := wB_in 739 (by decide +kernel) (by decide +kernel)
theorem tb_725 : (Jvm.Cond.fieldLink "SwingBridgeModel" (58 : Nat) "SwingBridgeModel" "isDivided" "Z") ∈ wB := wB_in 740 (by decide +kernel) (by decide +kernel)
theorem tb_762 : (Jvm.Cond.superclass "SwingBridgeModel" "java/lang/Object") ∈ wB := wB_in 777 (by decide +kernel) (by decide +kernel)
theorem tb_763 : (Jvm.Cond.methodLink "SwingBridgeLaw" (40 : Nat) ({ cls := "SwingBridgeModel", name := "thrown", desc := "()I" } : Jvm.MethodName)) ∈ wB := wB_in 778 (by decide +kernel) (by decide +kernel)
theorem tb_764 : (Jvm.Cond.instanceMethod ({ cls := "SwingBridgeModel", name := "thrown", desc := "()I" } : Jvm.MethodName)) ∈ wB := wB_in 779 (by decide +kernel) (by decide +kernel)
theorem tb_765 : (Jvm.Cond.selects "SwingBridgeModel" ({ cls := "SwingBridgeModel", name := "thrown", desc := "()I" } : Jvm.MethodName) ({ cls := "SwingBridgeModel", name := "thrown", desc := "()I" } : Jvm.MethodName)) ∈ wB := wB_in 780 (by decide +kernel) (by decide +kernel)
theorem tb_766 : (Jvm.Cond.code ({ cls := "SwingBridgeModel", name := "thrown", desc := "()I" } : Jvm.MethodName) prog_13_method_2_code (1 : Nat) (Option.some Jvm.ClassFile.FieldType.int)) ∈ wB := wB_in 781 (by decide +kernel) (by decide +kernel)
theorem tb_767 : (Jvm.Cond.methodLink "SwingBridgeLaw" (28 : Nat) ({ cls := "SwingBridgeModel", name := "add", desc := "(IIII)I" } : Jvm.MethodName)) ∈ wB := wB_in 782 (by decide +kernel) (by decide +kernel)
theorem tb_768 : (Jvm.Cond.instanceMethod ({ cls := "SwingBridgeModel", name := "add", desc := "(IIII)I" } : Jvm.MethodName)) ∈ wB := wB_in 783 (by decide +kernel) (by decide +kernel)
theorem tb_769 : (Jvm.Cond.selects "SwingBridgeModel" ({ cls := "SwingBridgeModel", name := "add", desc := "(IIII)I" } : Jvm.MethodName) ({ cls := "SwingBridgeModel", name := "add", desc := "(IIII)I" } : Jvm.MethodName)) ∈ wB := wB_in 784 (by decide +kernel) (by decide +kernel)
theorem tb_770 : (Jvm.Cond.code ({ cls := "SwingBridgeModel", name := "add", desc := "(IIII)I" } : Jvm.MethodName) prog_13_method_6_code (5 : Nat) (Option.some Jvm.ClassFile.FieldType.int)) ∈ wB := wB_in 785 (by decide +kernel) (by decide +kernel)
theorem tb_771 : (Jvm.Cond.methodLink "SwingBridgeModel" (50 : Nat) ({ cls := "SwingBridgeModel", name := "within", desc := "(III)Z" } : Jvm.MethodName)) ∈ wB := wB_in 786 (by decide +kernel) (by decide +kernel)
theorem tb_772 : (Jvm.Cond.static ({ cls := "SwingBridgeModel", name := "within", desc := "(III)Z" } : Jvm.MethodName)) ∈ wB := wB_in 787 (by decide +kernel) (by decide +kernel)
theorem tb_773 : (Jvm.Cond.code ({ cls := "SwingBridgeModel", name := "within", desc := "(III)Z" } : Jvm.MethodName) prog_13_method_3_code (3 : Nat) (Option.some Jvm.ClassFile.FieldType.boolean)) ∈ wB := wB_in 788 (by decide +kernel) (by decide +kernel)
theorem tb_774 : (Jvm.Cond.methodLink "SwingBridgeLaw" (33 : Nat) ({ cls := "SwingBridgeModel", name := "weight", desc := "(I)I" } : Jvm.MethodName)) ∈ wB := wB_in 789 (by decide +kernel) (by decide +kernel)
theorem tb_775 : (Jvm.Cond.instanceMethod ({ cls := "SwingBridgeModel", name := "weight", desc := "(I)I" } : Jvm.MethodName)) ∈ wB := wB_in 790 (by decide +kernel) (by decide +kernel)
theorem tb_776 : (Jvm.Cond.selects "SwingBridgeModel" ({ cls := "SwingBridgeModel", name := "weight", desc := "(I)I" } : Jvm.MethodName) ({ cls := "SwingBridgeModel", name := "weight", desc := "(I)I" } : Jvm.MethodName)) ∈ wB := wB_in 791 (by decide +kernel) (by decide +kernel)
theorem tb_777 : (Jvm.Cond.code ({ cls := "SwingBridgeModel", name := "weight", desc := "(I)I" } : Jvm.MethodName) prog_13_method_18_code (2 : Nat) (Option.some Jvm.ClassFile.FieldType.int)) ∈ wB := wB_in 792 (by decide +kernel) (by decide +kernel)
theorem tb_778 : (Jvm.Cond.methodLink "SwingBridgeModel" (94 : Nat) ({ cls := "SwingBridgeModel", name := "isVehicle", desc := "(I)Z" } : Jvm.MethodName)) ∈ wB := wB_in 793 (by decide +kernel) (by decide +kernel)
theorem tb_780 : (Jvm.Cond.instanceMethod ({ cls := "SwingBridgeModel", name := "isVehicle", desc := "(I)Z" } : Jvm.MethodName)) ∈ wB := wB_in 795 (by decide +kernel) (by decide +kernel)
theorem tb_781 : (Jvm.Cond.code ({ cls := "SwingBridgeModel", name := "isVehicle", desc := "(I)Z" } : Jvm.MethodName) prog_13_method_4_code (2 : Nat) (Option.some Jvm.ClassFile.FieldType.boolean)) ∈ wB := wB_in 796 (by decide +kernel) (by decide +kernel)
theorem tb_782 : (Jvm.Cond.methodLink "SwingBridgeModel" (54 : Nat) ({ cls := "SwingBridgeModel", name := "weightOf", desc := "(I)I" } : Jvm.MethodName)) ∈ wB := wB_in 797 (by decide +kernel) (by decide +kernel)
theorem tb_784 : (Jvm.Cond.instanceMethod ({ cls := "SwingBridgeModel", name := "weightOf", desc := "(I)I" } : Jvm.MethodName)) ∈ wB := wB_in 799 (by decide +kernel) (by decide +kernel)
theorem tb_785 : (Jvm.Cond.code ({ cls := "SwingBridgeModel", name := "weightOf", desc := "(I)I" } : Jvm.MethodName) prog_13_method_7_code (4 : Nat) (Option.some Jvm.ClassFile.FieldType.int)) ∈ wB := wB_in 800 (by decide +kernel) (by decide +kernel)
theorem tb_786 : (Jvm.Cond.methodLink "SwingBridgeLaw" (39 : Nat) ({ cls := "SwingBridgeModel", name := "toll", desc := "(II)I" } : Jvm.MethodName)) ∈ wB := wB_in 801 (by decide +kernel) (by decide +kernel)
theorem tb_787 : (Jvm.Cond.instanceMethod ({ cls := "SwingBridgeModel", name := "toll", desc := "(II)I" } : Jvm.MethodName)) ∈ wB := wB_in 802 (by decide +kernel) (by decide +kernel)
theorem tb_788 : (Jvm.Cond.selects "SwingBridgeModel" ({ cls := "SwingBridgeModel", name := "toll", desc := "(II)I" } : Jvm.MethodName) ({ cls := "SwingBridgeModel", name := "toll", desc := "(II)I" } : Jvm.MethodName)) ∈ wB := wB_in 803 (by decide +kernel) (by decide +kernel)
theorem tb_789 : (Jvm.Cond.code ({ cls := "SwingBridgeModel", name := "toll", desc := "(II)I" } : Jvm.MethodName) prog_13_method_19_code (4 : Nat) (Option.some Jvm.ClassFile.FieldType.int)) ∈ wB := wB_in 804 (by decide +kernel) (by decide +kernel)
theorem tb_790 : (Jvm.Cond.methodLink "SwingBridgeModel" (97 : Nat) ({ cls := "SwingBridgeModel", name := "isHour", desc := "(I)Z" } : Jvm.MethodName)) ∈ wB := wB_in 805 (by decide +kernel) (by decide +kernel)
theorem tb_791 : (Jvm.Cond.static ({ cls := "SwingBridgeModel", name := "isHour", desc := "(I)Z" } : Jvm.MethodName)) ∈ wB := wB_in 806 (by decide +kernel) (by decide +kernel)
theorem tb_792 : (Jvm.Cond.code ({ cls := "SwingBridgeModel", name := "isHour", desc := "(I)Z" } : Jvm.MethodName) prog_13_method_5_code (1 : Nat) (Option.some Jvm.ClassFile.FieldType.boolean)) ∈ wB := wB_in 807 (by decide +kernel) (by decide +kernel)
theorem tb_793 : (Jvm.Cond.methodLink "SwingBridgeModel" (84 : Nat) ({ cls := "SwingBridgeModel", name := "tollOf", desc := "(II)I" } : Jvm.MethodName)) ∈ wB := wB_in 808 (by decide +kernel) (by decide +kernel)
theorem tb_795 : (Jvm.Cond.instanceMethod ({ cls := "SwingBridgeModel", name := "tollOf", desc := "(II)I" } : Jvm.MethodName)) ∈ wB := wB_in 810 (by decide +kernel) (by decide +kernel)
theorem tb_796 : (Jvm.Cond.code ({ cls := "SwingBridgeModel", name := "tollOf", desc := "(II)I" } : Jvm.MethodName) prog_13_method_9_code (4 : Nat) (Option.some Jvm.ClassFile.FieldType.int)) ∈ wB := wB_in 811 (by decide +kernel) (by decide +kernel)
theorem tb_797 : (Jvm.Cond.methodLink "SwingBridgeModel" (62 : Nat) ({ cls := "SwingBridgeModel", name := "plainToll", desc := "(I)I" } : Jvm.MethodName)) ∈ wB := wB_in 812 (by decide +kernel) (by decide +kernel)
theorem tb_799 : (Jvm.Cond.instanceMethod ({ cls := "SwingBridgeModel", name := "plainToll", desc := "(I)I" } : Jvm.MethodName)) ∈ wB := wB_in 814 (by decide +kernel) (by decide +kernel)
theorem tb_800 : (Jvm.Cond.code ({ cls := "SwingBridgeModel", name := "plainToll", desc := "(I)I" } : Jvm.MethodName) prog_13_method_8_code (2 : Nat) (Option.some Jvm.ClassFile.FieldType.int)) ∈ wB := wB_in 815 (by decide +kernel) (by decide +kernel)
theorem tb_801 : (Jvm.Cond.methodLink "SwingBridgeLaw" (47 : Nat) ({ cls := "SwingBridgeModel", name := "fits", desc := "(I)I" } : Jvm.MethodName)) ∈ wB := wB_in 816 (by decide +kernel) (by decide +kernel)
theorem tb_802 : (Jvm.Cond.instanceMethod ({ cls := "SwingBridgeModel", name := "fits", desc := "(I)I" } : Jvm.MethodName)) ∈ wB := wB_in 817 (by decide +kernel) (by decide +kernel)
theorem tb_803 : (Jvm.Cond.selects "SwingBridgeModel" ({ cls := "SwingBridgeModel", name := "fits", desc := "(I)I" } : Jvm.MethodName) ({ cls := "SwingBridgeModel", name := "fits", desc := "(I)I" } : Jvm.MethodName)) ∈ wB := wB_in 818 (by decide +kernel) (by decide +kernel)
theorem tb_804 : (Jvm.Cond.code ({ cls := "SwingBridgeModel", name := "fits", desc := "(I)I" } : Jvm.MethodName) prog_13_method_20_code (2 : Nat) (Option.some Jvm.ClassFile.FieldType.int)) ∈ wB := wB_in 819 (by decide +kernel) (by decide +kernel)
theorem tb_805 : (Jvm.Cond.methodLink "SwingBridgeModel" (78 : Nat) ({ cls := "SwingBridgeModel", name := "isFit", desc := "(I)Z" } : Jvm.MethodName)) ∈ wB := wB_in 820 (by decide +kernel) (by decide +kernel)
theorem tb_807 : (Jvm.Cond.instanceMethod ({ cls := "SwingBridgeModel", name := "isFit", desc := "(I)Z" } : Jvm.MethodName)) ∈ wB := wB_in 822 (by decide +kernel) (by decide +kernel)
theorem tb_808 : (Jvm.Cond.code ({ cls := "SwingBridgeModel", name := "isFit", desc := "(I)Z" } : Jvm.MethodName) prog_13_method_11_code (5 : Nat) (Option.some Jvm.ClassFile.FieldType.boolean)) ∈ wB := wB_in 823 (by decide +kernel) (by decide +kernel)
theorem tb_809 : (Jvm.Cond.methodLink "SwingBridgeModel" (74 : Nat) ({ cls := "SwingBridgeModel", name := "isPlainFit", desc := "(I)Z" } : Jvm.MethodName)) ∈ wB := wB_in 824 (by decide +kernel) (by decide +kernel)
theorem tb_811 : (Jvm.Cond.instanceMethod ({ cls := "SwingBridgeModel", name := "isPlainFit", desc := "(I)Z" } : Jvm.MethodName)) ∈ wB := wB_in 826 (by decide +kernel) (by decide +kernel)
theorem tb_812 : (Jvm.Cond.code ({ cls := "SwingBridgeModel", name := "isPlainFit", desc := "(I)Z" } : Jvm.MethodName) prog_13_method_10_code (4 : Nat) (Option.some Jvm.ClassFile.FieldType.boolean)) ∈ wB := wB_in 827 (by decide +kernel) (by decide +kernel)
theorem tb_813 : (Jvm.Cond.methodLink "SwingBridgeLaw" (50 : Nat) ({ cls := "SwingBridgeModel", name := "enter", desc := "(II)I" } : Jvm.MethodName)) ∈ wB := wB_in 828 (by decide +kernel) (by decide +kernel)
theorem tb_814 : (Jvm.Cond.instanceMethod ({ cls := "SwingBridgeModel", name := "enter", desc := "(II)I" } : Jvm.MethodName)) ∈ wB := wB_in 829 (by decide +kernel) (by decide +kernel)
theorem tb_815 : (Jvm.Cond.selects "SwingBridgeModel" ({ cls := "SwingBridgeModel", name := "enter", desc := "(II)I" } : Jvm.MethodName) ({ cls := "SwingBridgeModel", name := "enter", desc := "(II)I" } : Jvm.MethodName)) ∈ wB := wB_in 830 (by decide +kernel) (by decide +kernel)
theorem tb_816 : (Jvm.Cond.code ({ cls := "SwingBridgeModel", name := "enter", desc := "(II)I" } : Jvm.MethodName) prog_13_method_21_code (3 : Nat) (Option.some Jvm.ClassFile.FieldType.int)) ∈ wB := wB_in 831 (by decide +kernel) (by decide +kernel)
theorem tb_817 : (Jvm.Cond.methodLink "SwingBridgeModel" (100 : Nat) ({ cls := "SwingBridgeModel", name := "enters", desc := "(II)I" } : Jvm.MethodName)) ∈ wB := wB_in 832 (by decide +kernel) (by decide +kernel)
theorem tb_819 : (Jvm.Cond.instanceMethod ({ cls := "SwingBridgeModel", name := "enters", desc := "(II)I" } : Jvm.MethodName)) ∈ wB := wB_in 834 (by decide +kernel) (by decide +kernel)
theorem tb_820 : (Jvm.Cond.code ({ cls := "SwingBridgeModel", name := "enters", desc := "(II)I" } : Jvm.MethodName) prog_13_method_13_code (4 : Nat) (Option.some Jvm.ClassFile.FieldType.int)) ∈ wB := wB_in 835 (by decide +kernel) (by decide +kernel)
theorem tb_821 : (Jvm.Cond.methodLink "SwingBridgeModel" (88 : Nat) ({ cls := "SwingBridgeModel", name := "plainEnter", desc := "(II)I" } : Jvm.MethodName)) ∈ wB := wB_in 836 (by decide +kernel) (by decide +kernel)
theorem tb_823 : (Jvm.Cond.instanceMethod ({ cls := "SwingBridgeModel", name := "plainEnter", desc := "(II)I" } : Jvm.MethodName)) ∈ wB := wB_in 838 (by decide +kernel) (by decide +kernel)
theorem tb_824 : (Jvm.Cond.code ({ cls := "SwingBridgeModel", name := "plainEnter", desc := "(II)I" } : Jvm.MethodName) prog_13_method_12_code (4 : Nat) (Option.some Jvm.ClassFile.FieldType.int)) ∈ wB := wB_in 839 (by decide +kernel) (by decide +kernel)
theorem tb_825 : (Jvm.Cond.methodLink "SwingBridgeLaw" (54 : Nat) ({ cls := "SwingBridgeModel", name := "leave", desc := "(I)I" } : Jvm.MethodName)) ∈ wB := wB_in 840 (by decide +kernel) (by decide +kernel)
theorem tb_826 : (Jvm.Cond.instanceMethod ({ cls := "SwingBridgeModel", name := "leave", desc := "(I)I" } : Jvm.MethodName)) ∈ wB := wB_in 841 (by decide +kernel) (by decide +kernel)
theorem tb_827 : (Jvm.Cond.selects "SwingBridgeModel" ({ cls := "SwingBridgeModel", name := "leave", desc := "(I)I" } : Jvm.MethodName) ({ cls := "SwingBridgeModel", name := "leave", desc := "(I)I" } : Jvm.MethodName)) ∈ wB := wB_in 842 (by decide +kernel) (by decide +kernel)
theorem tb_828 : (Jvm.Cond.code ({ cls := "SwingBridgeModel", name := "leave", desc := "(I)I" } : Jvm.MethodName) prog_13_method_22_code (2 : Nat) (Option.some Jvm.ClassFile.FieldType.int)) ∈ wB := wB_in 843 (by decide +kernel) (by decide +kernel)
theorem tb_829 : (Jvm.Cond.methodLink "SwingBridgeModel" (103 : Nat) ({ cls := "SwingBridgeModel", name := "leaves", desc := "(I)V" } : Jvm.MethodName)) ∈ wB := wB_in 844 (by decide +kernel) (by decide +kernel)
theorem tb_831 : (Jvm.Cond.instanceMethod ({ cls := "SwingBridgeModel", name := "leaves", desc := "(I)V" } : Jvm.MethodName)) ∈ wB := wB_in 846 (by decide +kernel) (by decide +kernel)
theorem tb_832 : (Jvm.Cond.code ({ cls := "SwingBridgeModel", name := "leaves", desc := "(I)V" } : Jvm.MethodName) prog_13_method_14_code (4 : Nat) (Option.none : Option Jvm.ClassFile.FieldType)) ∈ wB := wB_in 847 (by decide +kernel) (by decide +kernel)
theorem tb_833 : (Jvm.Cond.methodLink "SwingBridgeLaw" (58 : Nat) ({ cls := "SwingBridgeModel", name := "rebate", desc := "(I)I" } : Jvm.MethodName)) ∈ wB := wB_in 848 (by decide +kernel) (by decide +kernel)
theorem tb_834 : (Jvm.Cond.instanceMethod ({ cls := "SwingBridgeModel", name := "rebate", desc := "(I)I" } : Jvm.MethodName)) ∈ wB := wB_in 849 (by decide +kernel) (by decide +kernel)
theorem tb_835 : (Jvm.Cond.selects "SwingBridgeModel" ({ cls := "SwingBridgeModel", name := "rebate", desc := "(I)I" } : Jvm.MethodName) ({ cls := "SwingBridgeModel", name := "rebate", desc := "(I)I" } : Jvm.MethodName)) ∈ wB := wB_in 850 (by decide +kernel) (by decide +kernel)
theorem tb_836 : (Jvm.Cond.code ({ cls := "SwingBridgeModel", name := "rebate", desc := "(I)I" } : Jvm.MethodName) prog_13_method_23_code (2 : Nat) (Option.some Jvm.ClassFile.FieldType.int)) ∈ wB := wB_in 851 (by decide +kernel) (by decide +kernel)
theorem tb_837 : (Jvm.Cond.methodLink "SwingBridgeModel" (91 : Nat) ({ cls := "SwingBridgeModel", name := "rebateOf", desc := "(I)I" } : Jvm.MethodName)) ∈ wB := wB_in 852 (by decide +kernel) (by decide +kernel)
theorem tb_839 : (Jvm.Cond.instanceMethod ({ cls := "SwingBridgeModel", name := "rebateOf", desc := "(I)I" } : Jvm.MethodName)) ∈ wB := wB_in 854 (by decide +kernel) (by decide +kernel)
theorem tb_840 : (Jvm.Cond.code ({ cls := "SwingBridgeModel", name := "rebateOf", desc := "(I)I" } : Jvm.MethodName) prog_13_method_15_code (3 : Nat) (Option.some Jvm.ClassFile.FieldType.int)) ∈ wB := wB_in 855 (by decide +kernel) (by decide +kernel)
theorem tb_841 : (Jvm.Cond.methodLink "SwingBridgeLaw" (62 : Nat) ({ cls := "SwingBridgeModel", name := "bill", desc := "(II)I" } : Jvm.MethodName)) ∈ wB := wB_in 856 (by decide +kernel) (by decide +kernel)
theorem tb_842 : (Jvm.Cond.instanceMethod ({ cls := "SwingBridgeModel", name := "bill", desc := "(II)I" } : Jvm.MethodName)) ∈ wB := wB_in 857 (by decide +kernel) (by decide +kernel)
theorem tb_843 : (Jvm.Cond.selects "SwingBridgeModel" ({ cls := "SwingBridgeModel", name := "bill", desc := "(II)I" } : Jvm.MethodName) ({ cls := "SwingBridgeModel", name := "bill", desc := "(II)I" } : Jvm.MethodName)) ∈ wB := wB_in 858 (by decide +kernel) (by decide +kernel)
theorem tb_844 : (Jvm.Cond.code ({ cls := "SwingBridgeModel", name := "bill", desc := "(II)I" } : Jvm.MethodName) prog_13_method_24_code (3 : Nat) (Option.some Jvm.ClassFile.FieldType.int)) ∈ wB := wB_in 859 (by decide +kernel) (by decide +kernel)
theorem tb_845 : (Jvm.Cond.methodLink "SwingBridgeModel" (107 : Nat) ({ cls := "SwingBridgeModel", name := "hasAccount", desc := "(I)Z" } : Jvm.MethodName)) ∈ wB := wB_in 860 (by decide +kernel) (by decide +kernel)
theorem tb_847 : (Jvm.Cond.instanceMethod ({ cls := "SwingBridgeModel", name := "hasAccount", desc := "(I)Z" } : Jvm.MethodName)) ∈ wB := wB_in 862 (by decide +kernel) (by decide +kernel)
theorem tb_848 : (Jvm.Cond.code ({ cls := "SwingBridgeModel", name := "hasAccount", desc := "(I)Z" } : Jvm.MethodName) prog_13_method_16_code (2 : Nat) (Option.some Jvm.ClassFile.FieldType.boolean)) ∈ wB := wB_in 863 (by decide +kernel) (by decide +kernel)
theorem tb_849 : (Jvm.Cond.methodLink "SwingBridgeModel" (110 : Nat) ({ cls := "SwingBridgeModel", name := "billOf", desc := "(II)I" } : Jvm.MethodName)) ∈ wB := wB_in 864 (by decide +kernel) (by decide +kernel)
theorem tb_851 : (Jvm.Cond.instanceMethod ({ cls := "SwingBridgeModel", name := "billOf", desc := "(II)I" } : Jvm.MethodName)) ∈ wB := wB_in 866 (by decide +kernel) (by decide +kernel)
theorem tb_852 : (Jvm.Cond.code ({ cls := "SwingBridgeModel", name := "billOf", desc := "(II)I" } : Jvm.MethodName) prog_13_method_17_code (4 : Nat) (Option.some Jvm.ClassFile.FieldType.int)) ∈ wB := wB_in 867 (by decide +kernel) (by decide +kernel)
theorem tb_853 : (Jvm.Cond.methodLink "SwingBridgeLaw" (66 : Nat) ({ cls := "SwingBridgeModel", name := "month", desc := "(II)I" } : Jvm.MethodName)) ∈ wB := wB_in 868 (by decide +kernel) (by decide +kernel)
theorem tb_854 : (Jvm.Cond.instanceMethod ({ cls := "SwingBridgeModel", name := "month", desc := "(II)I" } : Jvm.MethodName)) ∈ wB := wB_in 869 (by decide +kernel) (by decide +kernel)
theorem tb_855 : (Jvm.Cond.selects "SwingBridgeModel" ({ cls := "SwingBridgeModel", name := "month", desc := "(II)I" } : Jvm.MethodName) ({ cls := "SwingBridgeModel", name := "month", desc := "(II)I" } : Jvm.MethodName)) ∈ wB := wB_in 870 (by decide +kernel) (by decide +kernel)
theorem tb_856 : (Jvm.Cond.code ({ cls := "SwingBridgeModel", name := "month", desc := "(II)I" } : Jvm.MethodName) prog_13_method_25_code (3 : Nat) (Option.some Jvm.ClassFile.FieldType.int)) ∈ wB := wB_in 871 (by decide +kernel) (by decide +kernel)
theorem tb_857 : (Jvm.Cond.methodLink "SwingBridgeLaw" (71 : Nat) ({ cls := "SwingBridgeModel", name := "swing", desc := "(Z)I" } : Jvm.MethodName)) ∈ wB := wB_in 872 (by decide +kernel) (by decide +kernel)
theorem tb_858 : (Jvm.Cond.instanceMethod ({ cls := "SwingBridgeModel", name := "swing", desc := "(Z)I" } : Jvm.MethodName)) ∈ wB := wB_in 873 (by decide +kernel) (by decide +kernel)
theorem tb_859 : (Jvm.Cond.selects "SwingBridgeModel" ({ cls := "SwingBridgeModel", name := "swing", desc := "(Z)I" } : Jvm.MethodName) ({ cls := "SwingBridgeModel", name := "swing", desc := "(Z)I" } : Jvm.MethodName)) ∈ wB := wB_in 874 (by decide +kernel) (by decide +kernel)
theorem tb_860 : (Jvm.Cond.code ({ cls := "SwingBridgeModel", name := "swing", desc := "(Z)I" } : Jvm.MethodName) prog_13_method_26_code (2 : Nat) (Option.some Jvm.ClassFile.FieldType.int)) ∈ wB := wB_in 875 (by decide +kernel) (by decide +kernel)
theorem tb_861 : (Jvm.Cond.methodLink "SwingBridgeLaw" (75 : Nat) ({ cls := "SwingBridgeModel", name := "rush", desc := "(I)I" } : Jvm.MethodName)) ∈ wB := wB_in 876 (by decide +kernel) (by decide +kernel)
theorem tb_862 : (Jvm.Cond.instanceMethod ({ cls := "SwingBridgeModel", name := "rush", desc := "(I)I" } : Jvm.MethodName)) ∈ wB := wB_in 877 (by decide +kernel) (by decide +kernel)
theorem tb_863 : (Jvm.Cond.selects "SwingBridgeModel" ({ cls := "SwingBridgeModel", name := "rush", desc := "(I)I" } : Jvm.MethodName) ({ cls := "SwingBridgeModel", name := "rush", desc := "(I)I" } : Jvm.MethodName)) ∈ wB := wB_in 878 (by decide +kernel) (by decide +kernel)
theorem tb_864 : (Jvm.Cond.code ({ cls := "SwingBridgeModel", name := "rush", desc := "(I)I" } : Jvm.MethodName) prog_13_method_27_code (4 : Nat) (Option.some Jvm.ClassFile.FieldType.int)) ∈ wB := wB_in 879 (by decide +kernel) (by decide +kernel)
theorem tb_865 : (Jvm.Cond.methodLink "SwingBridgeLaw" (79 : Nat) ({ cls := "SwingBridgeModel", name := "clear", desc := "()I" } : Jvm.MethodName)) ∈ wB := wB_in 880 (by decide +kernel) (by decide +kernel)
theorem tb_866 : (Jvm.Cond.instanceMethod ({ cls := "SwingBridgeModel", name := "clear", desc := "()I" } : Jvm.MethodName)) ∈ wB := wB_in 881 (by decide +kernel) (by decide +kernel)
theorem tb_867 : (Jvm.Cond.selects "SwingBridgeModel" ({ cls := "SwingBridgeModel", name := "clear", desc := "()I" } : Jvm.MethodName) ({ cls := "SwingBridgeModel", name := "clear", desc := "()I" } : Jvm.MethodName)) ∈ wB := wB_in 882 (by decide +kernel) (by decide +kernel)
theorem tb_868 : (Jvm.Cond.code ({ cls := "SwingBridgeModel", name := "clear", desc := "()I" } : Jvm.MethodName) prog_13_method_28_code (2 : Nat) (Option.some Jvm.ClassFile.FieldType.int)) ∈ wB := wB_in 883 (by decide +kernel) (by decide +kernel)
theorem tb_869 : (Jvm.Cond.methodLink "SwingBridgeLaw" (83 : Nat) ({ cls := "SwingBridgeModel", name := "tell", desc := "(II)I" } : Jvm.MethodName)) ∈ wB := wB_in 884 (by decide +kernel) (by decide +kernel)
theorem tb_870 : (Jvm.Cond.instanceMethod ({ cls := "SwingBridgeModel", name := "tell", desc := "(II)I" } : Jvm.MethodName)) ∈ wB := wB_in 885 (by decide +kernel) (by decide +kernel)
theorem tb_871 : (Jvm.Cond.selects "SwingBridgeModel" ({ cls := "SwingBridgeModel", name := "tell", desc := "(II)I" } : Jvm.MethodName) ({ cls := "SwingBridgeModel", name := "tell", desc := "(II)I" } : Jvm.MethodName)) ∈ wB := wB_in 886 (by decide +kernel) (by decide +kernel)
theorem tb_872 : (Jvm.Cond.code ({ cls := "SwingBridgeModel", name := "tell", desc := "(II)I" } : Jvm.MethodName) prog_13_method_29_code (3 : Nat) (Option.some Jvm.ClassFile.FieldType.int)) ∈ wB := wB_in 887 (by decide +kernel) (by decide +kernel)
theorem tb_873 : (Jvm.Cond.methodLink "SwingBridgeLaw" (87 : Nat) ({ cls := "SwingBridgeModel", name := "deck", desc := "(I)I" } : Jvm.MethodName)) ∈ wB := wB_in 888 (by decide +kernel) (by decide +kernel)
theorem tb_874 : (Jvm.Cond.instanceMethod ({ cls := "SwingBridgeModel", name := "deck", desc := "(I)I" } : Jvm.MethodName)) ∈ wB := wB_in 889 (by decide +kernel) (by decide +kernel)
theorem tb_875 : (Jvm.Cond.selects "SwingBridgeModel" ({ cls := "SwingBridgeModel", name := "deck", desc := "(I)I" } : Jvm.MethodName) ({ cls := "SwingBridgeModel", name := "deck", desc := "(I)I" } : Jvm.MethodName)) ∈ wB := wB_in 890 (by decide +kernel) (by decide +kernel)
theorem tb_876 : (Jvm.Cond.code ({ cls := "SwingBridgeModel", name := "deck", desc := "(I)I" } : Jvm.MethodName) prog_13_method_30_code (2 : Nat) (Option.some Jvm.ClassFile.FieldType.int)) ∈ wB := wB_in 891 (by decide +kernel) (by decide +kernel)
theorem tb_877 : (Jvm.Cond.methodLink "SwingBridgeLaw" (91 : Nat) ({ cls := "SwingBridgeModel", name := "began", desc := "(I)I" } : Jvm.MethodName)) ∈ wB := wB_in 892 (by decide +kernel) (by decide +kernel)
theorem tb_878 : (Jvm.Cond.instanceMethod ({ cls := "SwingBridgeModel", name := "began", desc := "(I)I" } : Jvm.MethodName)) ∈ wB := wB_in 893 (by decide +kernel) (by decide +kernel)
theorem tb_879 : (Jvm.Cond.selects "SwingBridgeModel" ({ cls := "SwingBridgeModel", name := "began", desc := "(I)I" } : Jvm.MethodName) ({ cls := "SwingBridgeModel", name := "began", desc := "(I)I" } : Jvm.MethodName)) ∈ wB := wB_in 894 (by decide +kernel) (by decide +kernel)
theorem tb_880 : (Jvm.Cond.code ({ cls := "SwingBridgeModel", name := "began", desc := "(I)I" } : Jvm.MethodName) prog_13_method_31_code (2 : Nat) (Option.some Jvm.ClassFile.FieldType.int)) ∈ wB := wB_in 895 (by decide +kernel) (by decide +kernel)
theorem tb_881 : (Jvm.Cond.methodLink "SwingBridgeLaw" (95 : Nat) ({ cls := "SwingBridgeModel", name := "count", desc := "(I)I" } : Jvm.MethodName)) ∈ wB := wB_in 896 (by decide +kernel) (by decide +kernel)
theorem tb_882 : (Jvm.Cond.instanceMethod ({ cls := "SwingBridgeModel", name := "count", desc := "(I)I" } : Jvm.MethodName)) ∈ wB := wB_in 897 (by decide +kernel) (by decide +kernel)
theorem tb_883 : (Jvm.Cond.selects "SwingBridgeModel" ({ cls := "SwingBridgeModel", name := "count", desc := "(I)I" } : Jvm.MethodName) ({ cls := "SwingBridgeModel", name := "count", desc := "(I)I" } : Jvm.MethodName)) ∈ wB := wB_in 898 (by decide +kernel) (by decide +kernel)
theorem tb_884 : (Jvm.Cond.code ({ cls := "SwingBridgeModel", name := "count", desc := "(I)I" } : Jvm.MethodName) prog_13_method_32_code (2 : Nat) (Option.some Jvm.ClassFile.FieldType.int)) ∈ wB := wB_in 899 (by decide +kernel) (by decide +kernel)
theorem tb_885 : (Jvm.Cond.arrayClass Jvm.ClassFile.FieldType.long) ∈ wB := wB_in 900 (by decide +kernel) (by decide +kernel)
theorem tb_886 : (Jvm.Cond.sameMethod "SwingBridge$Lorry" "SwingBridge$Lorry" "weightAct" "()I") ∈ wB := wB_in 901 (by decide +kernel) (by decide +kernel)
theorem tb_887 : (Jvm.Cond.sameMethod "SwingBridge$Lorry" "SwingBridge$Lorry" "leaveAct" "()V") ∈ wB := wB_in 902 (by decide +kernel) (by decide +kernel)
theorem tb_888 : (Jvm.Cond.sameMethod "SwingBridge$Car" "SwingBridge$Car" "tollAct" "(I)I") ∈ wB := wB_in 903 (by decide +kernel) (by decide +kernel)
theorem tb_889 : (Jvm.Cond.sameMethod "java/lang/Throwable" "java/lang/Throwable" "fillInStackTrace" "(I)Ljava/lang/Throwable;") ∈ wB := wB_in 904 (by decide +kernel) (by decide +kernel)
end
section
def RX0 : String := "SwingBridge$Bridge"
def TX0 : u_T := fun k => match k with
  | 0 => ("SwingBridge$Bridge", "deck", "[LSwingBridge$Cart;", true)
  | 1 => ("SwingBridge$Bridge", "begun", "[I", true)
  | 2 => ("SwingBridge$Bridge", "onDeck", "I", false)
  | 3 => ("SwingBridge$Bridge", "limit", "I", false)
  | 4 => ("SwingBridge$Bridge", "shut", "Z", false)
  | 5 => ("SwingBridge$Bridge", "stops", "I", false)
  | _ => ("SwingBridge$Bridge", "failures", "I", false)
def tyX0 : Nat → FieldType := fun k => match k with
  | 0 => .array (.object "SwingBridge$Cart")
  | 1 => .array .int
  | 2 => .int
  | 3 => .int
  | 4 => .boolean
  | 5 => .int
  | _ => .int
theorem nmX0 : ∀ a, a < 7 → ∀ b, b < 7 → a ≠ b → (TX0 a).2.1 ≠ (TX0 b).2.1 := by decide +kernel
theorem tyX0_ok : ∀ k, k < 7 → parseFieldDescriptor (TX0 k).2.2.1 = some (tyX0 k) := by decide +kernel
abbrev cX0_init : ByteArray := prog_2_method_1_code
def yX0_init : MethodName := ⟨RX0, "<init>", "()V"⟩
abbrev cX0_at : ByteArray := prog_2_method_2_code
def yX0_at : MethodName := ⟨RX0, "at", "(I)LSwingBridge$Cart;"⟩
abbrev cX0_takeOn : ByteArray := prog_2_method_3_code
def yX0_takeOn : MethodName := ⟨RX0, "takeOn", "(LSwingBridge$Cart;)V"⟩
abbrev cX0_letOff : ByteArray := prog_2_method_4_code
def yX0_letOff : MethodName := ⟨RX0, "letOff", "(LSwingBridge$Cart;)V"⟩
abbrev cX0_bearsBus : ByteArray := prog_2_method_5_code
def yX0_bearsBus : MethodName := ⟨RX0, "bearsBus", "()Z"⟩
def RX1 : String := "SwingBridge$Bus"
def TX1 : u_T := fun k => match k with
  | 0 => ("SwingBridge$Cart", "bridge", "LSwingBridge$Bridge;", true)
  | 1 => ("SwingBridge$Cart", "number", "I", true)
  | 2 => ("SwingBridge$Cart", "kind", "I", true)
  | 3 => ("SwingBridge$Cart", "mass", "I", true)
  | 4 => ("SwingBridge$Cart", "share", "I", true)
  | 5 => ("SwingBridge$Cart", "load", "I", false)
  | 6 => ("SwingBridge$Cart", "place", "I", false)
  | 7 => ("SwingBridge$Cart", "paid", "I", false)
  | 8 => ("SwingBridge$Cart", "times", "I", false)
  | _ => ("SwingBridge$Cart", "meter", "I", false)
def tyX1 : Nat → FieldType := fun k => match k with
  | 0 => .object "SwingBridge$Bridge"
  | 1 => .int
  | 2 => .int
  | 3 => .int
  | 4 => .int
  | 5 => .int
  | 6 => .int
  | 7 => .int
  | 8 => .int
  | _ => .int
theorem nmX1 : ∀ a, a < 10 → ∀ b, b < 10 → a ≠ b → (TX1 a).2.1 ≠ (TX1 b).2.1 := by decide +kernel
theorem tyX1_ok : ∀ k, k < 10 → parseFieldDescriptor (TX1 k).2.2.1 = some (tyX1 k) := by decide +kernel
abbrev cX1_init : ByteArray := prog_3_method_1_code
def yX1_init : MethodName := ⟨RX1, "<init>", "(LSwingBridge$Bridge;IIIII)V"⟩
abbrev cX1_enterAct : ByteArray := prog_3_method_2_code
def yX1_enterAct : MethodName := ⟨RX1, "enterAct", "(I)V"⟩
abbrev cX1_hasAccount : ByteArray := prog_3_method_3_code
def yX1_hasAccount : MethodName := ⟨RX1, "hasAccount", "()Z"⟩
def RX2 : String := "SwingBridge$Cab"
def TX2 : u_T := fun k => match k with
  | 0 => ("SwingBridge$Cart", "bridge", "LSwingBridge$Bridge;", true)
  | 1 => ("SwingBridge$Cart", "number", "I", true)
  | 2 => ("SwingBridge$Cart", "kind", "I", true)
  | 3 => ("SwingBridge$Cart", "mass", "I", true)
  | 4 => ("SwingBridge$Cart", "share", "I", true)
  | 5 => ("SwingBridge$Cart", "load", "I", false)
  | 6 => ("SwingBridge$Cart", "place", "I", false)
  | 7 => ("SwingBridge$Cart", "paid", "I", false)
  | 8 => ("SwingBridge$Cart", "times", "I", false)
  | _ => ("SwingBridge$Cart", "meter", "I", false)
def tyX2 : Nat → FieldType := fun k => match k with
  | 0 => .object "SwingBridge$Bridge"
  | 1 => .int
  | 2 => .int
  | 3 => .int
  | 4 => .int
  | 5 => .int
  | 6 => .int
  | 7 => .int
  | 8 => .int
  | _ => .int
theorem nmX2 : ∀ a, a < 10 → ∀ b, b < 10 → a ≠ b → (TX2 a).2.1 ≠ (TX2 b).2.1 := by decide +kernel
theorem tyX2_ok : ∀ k, k < 10 → parseFieldDescriptor (TX2 k).2.2.1 = some (tyX2 k) := by decide +kernel
abbrev cX2_init : ByteArray := prog_4_method_1_code
def yX2_init : MethodName := ⟨RX2, "<init>", "(LSwingBridge$Bridge;IIIII)V"⟩
abbrev cX2_tollAct : ByteArray := prog_4_method_2_code
def yX2_tollAct : MethodName := ⟨RX2, "tollAct", "(I)I"⟩
abbrev cX2_enterAct : ByteArray := prog_4_method_3_code
def yX2_enterAct : MethodName := ⟨RX2, "enterAct", "(I)V"⟩
abbrev cX2_leaveAct : ByteArray := prog_4_method_4_code
def yX2_leaveAct : MethodName := ⟨RX2, "leaveAct", "()V"⟩
abbrev cX2_hasAccount : ByteArray := prog_4_method_5_code
def yX2_hasAccount : MethodName := ⟨RX2, "hasAccount", "()Z"⟩
def RX3 : String := "SwingBridge$Car"
def TX3 : u_T := fun k => match k with
  | 0 => ("SwingBridge$Cart", "bridge", "LSwingBridge$Bridge;", true)
  | 1 => ("SwingBridge$Cart", "number", "I", true)
  | 2 => ("SwingBridge$Cart", "kind", "I", true)
  | 3 => ("SwingBridge$Cart", "mass", "I", true)
  | 4 => ("SwingBridge$Cart", "share", "I", true)
  | 5 => ("SwingBridge$Cart", "load", "I", false)
  | 6 => ("SwingBridge$Cart", "place", "I", false)
  | 7 => ("SwingBridge$Cart", "paid", "I", false)
  | 8 => ("SwingBridge$Cart", "times", "I", false)
  | _ => ("SwingBridge$Cart", "meter", "I", false)
def tyX3 : Nat → FieldType := fun k => match k with
  | 0 => .object "SwingBridge$Bridge"
  | 1 => .int
  | 2 => .int
  | 3 => .int
  | 4 => .int
  | 5 => .int
  | 6 => .int
  | 7 => .int
  | 8 => .int
  | _ => .int
theorem nmX3 : ∀ a, a < 10 → ∀ b, b < 10 → a ≠ b → (TX3 a).2.1 ≠ (TX3 b).2.1 := by decide +kernel
theorem tyX3_ok : ∀ k, k < 10 → parseFieldDescriptor (TX3 k).2.2.1 = some (tyX3 k) := by decide +kernel
abbrev cX3_init : ByteArray := prog_5_method_1_code
def yX3_init : MethodName := ⟨RX3, "<init>", "(LSwingBridge$Bridge;IIIII)V"⟩
abbrev cX3_tollAct : ByteArray := prog_5_method_2_code
def yX3_tollAct : MethodName := ⟨RX3, "tollAct", "(I)I"⟩
abbrev cX3_rebateAct : ByteArray := prog_5_method_3_code
def yX3_rebateAct : MethodName := ⟨RX3, "rebateAct", "()I"⟩
def RX4 : String := "SwingBridge$Cart"
def TX4 : u_T := fun k => match k with
  | 0 => ("SwingBridge$Cart", "bridge", "LSwingBridge$Bridge;", true)
  | 1 => ("SwingBridge$Cart", "number", "I", true)
  | 2 => ("SwingBridge$Cart", "kind", "I", true)
  | 3 => ("SwingBridge$Cart", "mass", "I", true)
  | 4 => ("SwingBridge$Cart", "share", "I", true)
  | 5 => ("SwingBridge$Cart", "load", "I", false)
  | 6 => ("SwingBridge$Cart", "place", "I", false)
  | 7 => ("SwingBridge$Cart", "paid", "I", false)
  | 8 => ("SwingBridge$Cart", "times", "I", false)
  | _ => ("SwingBridge$Cart", "meter", "I", false)
def tyX4 : Nat → FieldType := fun k => match k with
  | 0 => .object "SwingBridge$Bridge"
  | 1 => .int
  | 2 => .int
  | 3 => .int
  | 4 => .int
  | 5 => .int
  | 6 => .int
  | 7 => .int
  | 8 => .int
  | _ => .int
theorem nmX4 : ∀ a, a < 10 → ∀ b, b < 10 → a ≠ b → (TX4 a).2.1 ≠ (TX4 b).2.1 := by decide +kernel
theorem tyX4_ok : ∀ k, k < 10 → parseFieldDescriptor (TX4 k).2.2.1 = some (tyX4 k) := by decide +kernel
abbrev cX4_init : ByteArray := prog_6_method_1_code
def yX4_init : MethodName := ⟨RX4, "<init>", "(LSwingBridge$Bridge;IIIII)V"⟩
abbrev cX4_weightAct : ByteArray := prog_6_method_2_code
def yX4_weightAct : MethodName := ⟨RX4, "weightAct", "()I"⟩
abbrev cX4_tollAct : ByteArray := prog_6_method_3_code
def yX4_tollAct : MethodName := ⟨RX4, "tollAct", "(I)I"⟩
abbrev cX4_fitAct : ByteArray := prog_6_method_4_code
def yX4_fitAct : MethodName := ⟨RX4, "fitAct", "()Z"⟩
abbrev cX4_enterAct : ByteArray := prog_6_method_5_code
def yX4_enterAct : MethodName := ⟨RX4, "enterAct", "(I)V"⟩
abbrev cX4_leaveAct : ByteArray := prog_6_method_6_code
def yX4_leaveAct : MethodName := ⟨RX4, "leaveAct", "()V"⟩
abbrev cX4_rebateAct : ByteArray := prog_6_method_7_code
def yX4_rebateAct : MethodName := ⟨RX4, "rebateAct", "()I"⟩
abbrev cX4_hasAccount : ByteArray := prog_6_method_8_code
def yX4_hasAccount : MethodName := ⟨RX4, "hasAccount", "()Z"⟩
abbrev cX4_billOf : ByteArray := prog_6_method_9_code
def yX4_billOf : MethodName := ⟨RX4, "billOf", "(I)I"⟩
abbrev cX4_monthOf : ByteArray := prog_6_method_10_code
def yX4_monthOf : MethodName := ⟨RX4, "monthOf", "(I)I"⟩
def RX5 : String := "SwingBridge$Cycle"
def TX5 : u_T := fun k => match k with
  | 0 => ("SwingBridge$Cart", "bridge", "LSwingBridge$Bridge;", true)
  | 1 => ("SwingBridge$Cart", "number", "I", true)
  | 2 => ("SwingBridge$Cart", "kind", "I", true)
  | 3 => ("SwingBridge$Cart", "mass", "I", true)
  | 4 => ("SwingBridge$Cart", "share", "I", true)
  | 5 => ("SwingBridge$Cart", "load", "I", false)
  | 6 => ("SwingBridge$Cart", "place", "I", false)
  | 7 => ("SwingBridge$Cart", "paid", "I", false)
  | 8 => ("SwingBridge$Cart", "times", "I", false)
  | _ => ("SwingBridge$Cart", "meter", "I", false)
def tyX5 : Nat → FieldType := fun k => match k with
  | 0 => .object "SwingBridge$Bridge"
  | 1 => .int
  | 2 => .int
  | 3 => .int
  | 4 => .int
  | 5 => .int
  | 6 => .int
  | 7 => .int
  | 8 => .int
  | _ => .int
theorem nmX5 : ∀ a, a < 10 → ∀ b, b < 10 → a ≠ b → (TX5 a).2.1 ≠ (TX5 b).2.1 := by decide +kernel
theorem tyX5_ok : ∀ k, k < 10 → parseFieldDescriptor (TX5 k).2.2.1 = some (tyX5 k) := by decide +kernel
abbrev cX5_init : ByteArray := prog_7_method_1_code
def yX5_init : MethodName := ⟨RX5, "<init>", "(LSwingBridge$Bridge;IIIII)V"⟩
abbrev cX5_tollAct : ByteArray := prog_7_method_2_code
def yX5_tollAct : MethodName := ⟨RX5, "tollAct", "(I)I"⟩
abbrev cX5_fitAct : ByteArray := prog_7_method_3_code
def yX5_fitAct : MethodName := ⟨RX5, "fitAct", "()Z"⟩
abbrev cX5_enterAct : ByteArray := prog_7_method_4_code
def yX5_enterAct : MethodName := ⟨RX5, "enterAct", "(I)V"⟩
def RX6 : String := "SwingBridge$LateBus"
def TX6 : u_T := fun k => match k with
  | 0 => ("SwingBridge$Cart", "bridge", "LSwingBridge$Bridge;", true)
  | 1 => ("SwingBridge$Cart", "number", "I", true)
  | 2 => ("SwingBridge$Cart", "kind", "I", true)
  | 3 => ("SwingBridge$Cart", "mass", "I", true)
  | 4 => ("SwingBridge$Cart", "share", "I", true)
  | 5 => ("SwingBridge$Cart", "load", "I", false)
  | 6 => ("SwingBridge$Cart", "place", "I", false)
  | 7 => ("SwingBridge$Cart", "paid", "I", false)
  | 8 => ("SwingBridge$Cart", "times", "I", false)
  | _ => ("SwingBridge$Cart", "meter", "I", false)
def tyX6 : Nat → FieldType := fun k => match k with
  | 0 => .object "SwingBridge$Bridge"
  | 1 => .int
  | 2 => .int
  | 3 => .int
  | 4 => .int
  | 5 => .int
  | 6 => .int
  | 7 => .int
  | 8 => .int
  | _ => .int
theorem nmX6 : ∀ a, a < 10 → ∀ b, b < 10 → a ≠ b → (TX6 a).2.1 ≠ (TX6 b).2.1 := by decide +kernel
theorem tyX6_ok : ∀ k, k < 10 → parseFieldDescriptor (TX6 k).2.2.1 = some (tyX6 k) := by decide +kernel
abbrev cX6_init : ByteArray := prog_8_method_1_code
def yX6_init : MethodName := ⟨RX6, "<init>", "(LSwingBridge$Bridge;IIIII)V"⟩
abbrev cX6_weightAct : ByteArray := prog_8_method_2_code
def yX6_weightAct : MethodName := ⟨RX6, "weightAct", "()I"⟩
abbrev cX6_tollAct : ByteArray := prog_8_method_3_code
def yX6_tollAct : MethodName := ⟨RX6, "tollAct", "(I)I"⟩
abbrev cX6_fitAct : ByteArray := prog_8_method_4_code
def yX6_fitAct : MethodName := ⟨RX6, "fitAct", "()Z"⟩
abbrev cX6_rebateAct : ByteArray := prog_8_method_5_code
def yX6_rebateAct : MethodName := ⟨RX6, "rebateAct", "()I"⟩
abbrev cX6_monthOf : ByteArray := prog_8_method_6_code
def yX6_monthOf : MethodName := ⟨RX6, "monthOf", "(I)I"⟩
def RX7 : String := "SwingBridge$Lorry"
def TX7 : u_T := fun k => match k with
  | 0 => ("SwingBridge$Cart", "bridge", "LSwingBridge$Bridge;", true)
  | 1 => ("SwingBridge$Cart", "number", "I", true)
  | 2 => ("SwingBridge$Cart", "kind", "I", true)
  | 3 => ("SwingBridge$Cart", "mass", "I", true)
  | 4 => ("SwingBridge$Cart", "share", "I", true)
  | 5 => ("SwingBridge$Cart", "load", "I", false)
  | 6 => ("SwingBridge$Cart", "place", "I", false)
  | 7 => ("SwingBridge$Cart", "paid", "I", false)
  | 8 => ("SwingBridge$Cart", "times", "I", false)
  | _ => ("SwingBridge$Cart", "meter", "I", false)
def tyX7 : Nat → FieldType := fun k => match k with
  | 0 => .object "SwingBridge$Bridge"
  | 1 => .int
  | 2 => .int
  | 3 => .int
  | 4 => .int
  | 5 => .int
  | 6 => .int
  | 7 => .int
  | 8 => .int
  | _ => .int
theorem nmX7 : ∀ a, a < 10 → ∀ b, b < 10 → a ≠ b → (TX7 a).2.1 ≠ (TX7 b).2.1 := by decide +kernel
theorem tyX7_ok : ∀ k, k < 10 → parseFieldDescriptor (TX7 k).2.2.1 = some (tyX7 k) := by decide +kernel
abbrev cX7_init : ByteArray := prog_9_method_1_code
def yX7_init : MethodName := ⟨RX7, "<init>", "(LSwingBridge$Bridge;IIIII)V"⟩
abbrev cX7_weightAct : ByteArray := prog_9_method_2_code
def yX7_weightAct : MethodName := ⟨RX7, "weightAct", "()I"⟩
abbrev cX7_leaveAct : ByteArray := prog_9_method_3_code
def yX7_leaveAct : MethodName := ⟨RX7, "leaveAct", "()V"⟩
def RX8 : String := "SwingBridge$Tanker"
def TX8 : u_T := fun k => match k with
  | 0 => ("SwingBridge$Cart", "bridge", "LSwingBridge$Bridge;", true)
  | 1 => ("SwingBridge$Cart", "number", "I", true)
  | 2 => ("SwingBridge$Cart", "kind", "I", true)
  | 3 => ("SwingBridge$Cart", "mass", "I", true)
  | 4 => ("SwingBridge$Cart", "share", "I", true)
  | 5 => ("SwingBridge$Cart", "load", "I", false)
  | 6 => ("SwingBridge$Cart", "place", "I", false)
  | 7 => ("SwingBridge$Cart", "paid", "I", false)
  | 8 => ("SwingBridge$Cart", "times", "I", false)
  | _ => ("SwingBridge$Cart", "meter", "I", false)
def tyX8 : Nat → FieldType := fun k => match k with
  | 0 => .object "SwingBridge$Bridge"
  | 1 => .int
  | 2 => .int
  | 3 => .int
  | 4 => .int
  | 5 => .int
  | 6 => .int
  | 7 => .int
  | 8 => .int
  | _ => .int
theorem nmX8 : ∀ a, a < 10 → ∀ b, b < 10 → a ≠ b → (TX8 a).2.1 ≠ (TX8 b).2.1 := by decide +kernel
theorem tyX8_ok : ∀ k, k < 10 → parseFieldDescriptor (TX8 k).2.2.1 = some (tyX8 k) := by decide +kernel
abbrev cX8_init : ByteArray := prog_10_method_1_code
def yX8_init : MethodName := ⟨RX8, "<init>", "(LSwingBridge$Bridge;IIIII)V"⟩
abbrev cX8_weightAct : ByteArray := prog_10_method_2_code
def yX8_weightAct : MethodName := ⟨RX8, "weightAct", "()I"⟩
abbrev cX8_tollAct : ByteArray := prog_10_method_3_code
def yX8_tollAct : MethodName := ⟨RX8, "tollAct", "(I)I"⟩
abbrev cX8_fitAct : ByteArray := prog_10_method_4_code
def yX8_fitAct : MethodName := ⟨RX8, "fitAct", "()Z"⟩
abbrev cX8_enterAct : ByteArray := prog_10_method_5_code
def yX8_enterAct : MethodName := ⟨RX8, "enterAct", "(I)V"⟩
abbrev cX8_leaveAct : ByteArray := prog_10_method_6_code
def yX8_leaveAct : MethodName := ⟨RX8, "leaveAct", "()V"⟩
def RX9 : String := "SwingBridge$Wheeled"
def TX9 : u_T := fun k => match k with
  | 0 => ("SwingBridge$Cart", "bridge", "LSwingBridge$Bridge;", true)
  | 1 => ("SwingBridge$Cart", "number", "I", true)
  | 2 => ("SwingBridge$Cart", "kind", "I", true)
  | 3 => ("SwingBridge$Cart", "mass", "I", true)
  | 4 => ("SwingBridge$Cart", "share", "I", true)
  | 5 => ("SwingBridge$Cart", "load", "I", false)
  | 6 => ("SwingBridge$Cart", "place", "I", false)
  | 7 => ("SwingBridge$Cart", "paid", "I", false)
  | 8 => ("SwingBridge$Cart", "times", "I", false)
  | _ => ("SwingBridge$Cart", "meter", "I", false)
def tyX9 : Nat → FieldType := fun k => match k with
  | 0 => .object "SwingBridge$Bridge"
  | 1 => .int
  | 2 => .int
  | 3 => .int
  | 4 => .int
  | 5 => .int
  | 6 => .int
  | 7 => .int
  | 8 => .int
  | _ => .int
theorem nmX9 : ∀ a, a < 10 → ∀ b, b < 10 → a ≠ b → (TX9 a).2.1 ≠ (TX9 b).2.1 := by decide +kernel
theorem tyX9_ok : ∀ k, k < 10 → parseFieldDescriptor (TX9 k).2.2.1 = some (tyX9 k) := by decide +kernel
abbrev cX9_init : ByteArray := prog_11_method_1_code
def yX9_init : MethodName := ⟨RX9, "<init>", "(LSwingBridge$Bridge;IIIII)V"⟩
def RX10 : String := "SwingBridge"
def TX10 : u_T := fun k => match k with
  | 0 => ("SwingBridge", "bridge", "LSwingBridge$Bridge;", true)
  | 1 => ("SwingBridge", "vehicles", "[LSwingBridge$Cart;", true)
  | _ => ("SwingBridge", "known", "I", false)
def tyX10 : Nat → FieldType := fun k => match k with
  | 0 => .object "SwingBridge$Bridge"
  | 1 => .array (.object "SwingBridge$Cart")
  | _ => .int
theorem nmX10 : ∀ a, a < 3 → ∀ b, b < 3 → a ≠ b → (TX10 a).2.1 ≠ (TX10 b).2.1 := by decide +kernel
theorem tyX10_ok : ∀ k, k < 3 → parseFieldDescriptor (TX10 k).2.2.1 = some (tyX10 k) := by decide +kernel
abbrev cX10_init : ByteArray := prog_1_method_1_code
def yX10_init : MethodName := ⟨RX10, "<init>", "()V"⟩
abbrev cX10_add : ByteArray := prog_1_method_2_code
def yX10_add : MethodName := ⟨RX10, "add", "(IIII)I"⟩
abbrev cX10_weight : ByteArray := prog_1_method_3_code
def yX10_weight : MethodName := ⟨RX10, "weight", "(I)I"⟩
abbrev cX10_toll : ByteArray := prog_1_method_4_code
def yX10_toll : MethodName := ⟨RX10, "toll", "(II)I"⟩
abbrev cX10_fits : ByteArray := prog_1_method_5_code
def yX10_fits : MethodName := ⟨RX10, "fits", "(I)I"⟩
abbrev cX10_enter : ByteArray := prog_1_method_6_code
def yX10_enter : MethodName := ⟨RX10, "enter", "(II)I"⟩
abbrev cX10_leave : ByteArray := prog_1_method_7_code
def yX10_leave : MethodName := ⟨RX10, "leave", "(I)I"⟩
abbrev cX10_rebate : ByteArray := prog_1_method_8_code
def yX10_rebate : MethodName := ⟨RX10, "rebate", "(I)I"⟩
abbrev cX10_bill : ByteArray := prog_1_method_9_code
def yX10_bill : MethodName := ⟨RX10, "bill", "(II)I"⟩
abbrev cX10_month : ByteArray := prog_1_method_10_code
def yX10_month : MethodName := ⟨RX10, "month", "(II)I"⟩
abbrev cX10_swing : ByteArray := prog_1_method_11_code
def yX10_swing : MethodName := ⟨RX10, "swing", "(Z)I"⟩
abbrev cX10_rush : ByteArray := prog_1_method_12_code
def yX10_rush : MethodName := ⟨RX10, "rush", "(I)I"⟩
abbrev cX10_clear : ByteArray := prog_1_method_13_code
def yX10_clear : MethodName := ⟨RX10, "clear", "()I"⟩
abbrev cX10_tell : ByteArray := prog_1_method_14_code
def yX10_tell : MethodName := ⟨RX10, "tell", "(II)I"⟩
abbrev cX10_deck : ByteArray := prog_1_method_15_code
def yX10_deck : MethodName := ⟨RX10, "deck", "(I)I"⟩
abbrev cX10_began : ByteArray := prog_1_method_16_code
def yX10_began : MethodName := ⟨RX10, "began", "(I)I"⟩
abbrev cX10_count : ByteArray := prog_1_method_17_code
def yX10_count : MethodName := ⟨RX10, "count", "(I)I"⟩
abbrev cX10_isOutside : ByteArray := prog_1_method_18_code
def yX10_isOutside : MethodName := ⟨RX10, "isOutside", "(III)Z"⟩
abbrev cX10_find : ByteArray := prog_1_method_19_code
def yX10_find : MethodName := ⟨RX10, "find", "(I)LSwingBridge$Cart;"⟩
abbrev cX10_make : ByteArray := prog_1_method_20_code
def yX10_make : MethodName := ⟨RX10, "make", "(IIIII)LSwingBridge$Cart;"⟩
def RX11 : String := "SwingBridgeModel"
def TX11 : u_T := fun k => match k with
  | 0 => ("SwingBridgeModel", "thrown", "I", false)
  | 1 => ("SwingBridgeModel", "many", "I", false)
  | 2 => ("SwingBridgeModel", "kind", "[I", true)
  | 3 => ("SwingBridgeModel", "mass", "[I", true)
  | 4 => ("SwingBridgeModel", "load", "[I", true)
  | 5 => ("SwingBridgeModel", "share", "[I", true)
  | 6 => ("SwingBridgeModel", "place", "[I", true)
  | 7 => ("SwingBridgeModel", "paid", "[I", true)
  | 8 => ("SwingBridgeModel", "times", "[I", true)
  | 9 => ("SwingBridgeModel", "meter", "[I", true)
  | 10 => ("SwingBridgeModel", "row", "[I", true)
  | 11 => ("SwingBridgeModel", "rowMany", "I", false)
  | 12 => ("SwingBridgeModel", "begun", "[I", true)
  | 13 => ("SwingBridgeModel", "limit", "I", false)
  | 14 => ("SwingBridgeModel", "isOpen", "Z", false)
  | 15 => ("SwingBridgeModel", "stopped", "I", false)
  | 16 => ("SwingBridgeModel", "divided", "I", false)
  | _ => ("SwingBridgeModel", "isDivided", "Z", false)
def tyX11 : Nat → FieldType := fun k => match k with
  | 0 => .int
  | 1 => .int
  | 2 => .array .int
  | 3 => .array .int
  | 4 => .array .int
  | 5 => .array .int
  | 6 => .array .int
  | 7 => .array .int
  | 8 => .array .int
  | 9 => .array .int
  | 10 => .array .int
  | 11 => .int
  | 12 => .array .int
  | 13 => .int
  | 14 => .boolean
  | 15 => .int
  | 16 => .int
  | _ => .boolean
theorem nmX11 : ∀ a, a < 18 → ∀ b, b < 18 → a ≠ b → (TX11 a).2.1 ≠ (TX11 b).2.1 := by decide +kernel
theorem tyX11_ok : ∀ k, k < 18 → parseFieldDescriptor (TX11 k).2.2.1 = some (tyX11 k) := by decide +kernel
abbrev cX11_init : ByteArray := prog_13_method_1_code
def yX11_init : MethodName := ⟨RX11, "<init>", "()V"⟩
abbrev cX11_thrown : ByteArray := prog_13_method_2_code
def yX11_thrown : MethodName := ⟨RX11, "thrown", "()I"⟩
abbrev cX11_within : ByteArray := prog_13_method_3_code
def yX11_within : MethodName := ⟨RX11, "within", "(III)Z"⟩
abbrev cX11_isVehicle : ByteArray := prog_13_method_4_code
def yX11_isVehicle : MethodName := ⟨RX11, "isVehicle", "(I)Z"⟩
abbrev cX11_isHour : ByteArray := prog_13_method_5_code
def yX11_isHour : MethodName := ⟨RX11, "isHour", "(I)Z"⟩
abbrev cX11_add : ByteArray := prog_13_method_6_code
def yX11_add : MethodName := ⟨RX11, "add", "(IIII)I"⟩
abbrev cX11_weightOf : ByteArray := prog_13_method_7_code
def yX11_weightOf : MethodName := ⟨RX11, "weightOf", "(I)I"⟩
abbrev cX11_plainToll : ByteArray := prog_13_method_8_code
def yX11_plainToll : MethodName := ⟨RX11, "plainToll", "(I)I"⟩
abbrev cX11_tollOf : ByteArray := prog_13_method_9_code
def yX11_tollOf : MethodName := ⟨RX11, "tollOf", "(II)I"⟩
abbrev cX11_isPlainFit : ByteArray := prog_13_method_10_code
def yX11_isPlainFit : MethodName := ⟨RX11, "isPlainFit", "(I)Z"⟩
abbrev cX11_isFit : ByteArray := prog_13_method_11_code
def yX11_isFit : MethodName := ⟨RX11, "isFit", "(I)Z"⟩
abbrev cX11_plainEnter : ByteArray := prog_13_method_12_code
def yX11_plainEnter : MethodName := ⟨RX11, "plainEnter", "(II)I"⟩
abbrev cX11_enters : ByteArray := prog_13_method_13_code
def yX11_enters : MethodName := ⟨RX11, "enters", "(II)I"⟩
abbrev cX11_leaves : ByteArray := prog_13_method_14_code
def yX11_leaves : MethodName := ⟨RX11, "leaves", "(I)V"⟩
abbrev cX11_rebateOf : ByteArray := prog_13_method_15_code
def yX11_rebateOf : MethodName := ⟨RX11, "rebateOf", "(I)I"⟩
abbrev cX11_hasAccount : ByteArray := prog_13_method_16_code
def yX11_hasAccount : MethodName := ⟨RX11, "hasAccount", "(I)Z"⟩
abbrev cX11_billOf : ByteArray := prog_13_method_17_code
def yX11_billOf : MethodName := ⟨RX11, "billOf", "(II)I"⟩
abbrev cX11_weight : ByteArray := prog_13_method_18_code
def yX11_weight : MethodName := ⟨RX11, "weight", "(I)I"⟩
abbrev cX11_toll : ByteArray := prog_13_method_19_code
def yX11_toll : MethodName := ⟨RX11, "toll", "(II)I"⟩
abbrev cX11_fits : ByteArray := prog_13_method_20_code
def yX11_fits : MethodName := ⟨RX11, "fits", "(I)I"⟩
abbrev cX11_enter : ByteArray := prog_13_method_21_code
def yX11_enter : MethodName := ⟨RX11, "enter", "(II)I"⟩
abbrev cX11_leave : ByteArray := prog_13_method_22_code
def yX11_leave : MethodName := ⟨RX11, "leave", "(I)I"⟩
abbrev cX11_rebate : ByteArray := prog_13_method_23_code
def yX11_rebate : MethodName := ⟨RX11, "rebate", "(I)I"⟩
abbrev cX11_bill : ByteArray := prog_13_method_24_code
def yX11_bill : MethodName := ⟨RX11, "bill", "(II)I"⟩
abbrev cX11_month : ByteArray := prog_13_method_25_code
def yX11_month : MethodName := ⟨RX11, "month", "(II)I"⟩
abbrev cX11_swing : ByteArray := prog_13_method_26_code
def yX11_swing : MethodName := ⟨RX11, "swing", "(Z)I"⟩
abbrev cX11_rush : ByteArray := prog_13_method_27_code
def yX11_rush : MethodName := ⟨RX11, "rush", "(I)I"⟩
abbrev cX11_clear : ByteArray := prog_13_method_28_code
def yX11_clear : MethodName := ⟨RX11, "clear", "()I"⟩
abbrev cX11_tell : ByteArray := prog_13_method_29_code
def yX11_tell : MethodName := ⟨RX11, "tell", "(II)I"⟩
abbrev cX11_deck : ByteArray := prog_13_method_30_code
def yX11_deck : MethodName := ⟨RX11, "deck", "(I)I"⟩
abbrev cX11_began : ByteArray := prog_13_method_31_code
def yX11_began : MethodName := ⟨RX11, "began", "(I)I"⟩
abbrev cX11_count : ByteArray := prog_13_method_32_code
def yX11_count : MethodName := ⟨RX11, "count", "(I)I"⟩
def RJ9 : String := "java/lang/Math"
def TJ9 : u_T := fun k => match k with
  | _ => ("", "", "", false)
def tyJ9 : Nat → FieldType := fun k => match k with
  | _ => .int
theorem nmJ9 : ∀ a, a < 0 → ∀ b, b < 0 → a ≠ b → (TJ9 a).2.1 ≠ (TJ9 b).2.1 := by decide +kernel
theorem tyJ9_ok : ∀ k, k < 0 → parseFieldDescriptor (TJ9 k).2.2.1 = some (tyJ9 k) := by decide +kernel
abbrev cJ9_max_7cf53 : ByteArray := prog_17_method_65_code
def yJ9_max_7cf53 : MethodName := ⟨RJ9, "max", "(II)I"⟩
abbrev cJ9_min_7cf53 : ByteArray := prog_17_method_69_code
def yJ9_min_7cf53 : MethodName := ⟨RJ9, "min", "(II)I"⟩
def RJ0 : String := "java/lang/String"
def TJ0 : u_T := fun k => match k with
  | _ => ("", "", "", false)
def tyJ0 : Nat → FieldType := fun k => match k with
  | _ => .int
theorem nmJ0 : ∀ a, a < 0 → ∀ b, b < 0 → a ≠ b → (TJ0 a).2.1 ≠ (TJ0 b).2.1 := by decide +kernel
theorem tyJ0_ok : ∀ k, k < 0 → parseFieldDescriptor (TJ0 k).2.2.1 = some (tyJ0 k) := by decide +kernel
def RL : String := "SwingBridgeLaw"
abbrev cL_toll : ByteArray := method_3_code
def yL_toll : MethodName := ⟨RL, "toll", "(LSwingBridge;II[J)I"⟩
abbrev cL_enter : ByteArray := method_4_code
def yL_enter : MethodName := ⟨RL, "enter", "(LSwingBridge;II[J)I"⟩
abbrev cL_law : ByteArray := code
def yL_law : MethodName := ⟨RL, "law", "([I)Z"⟩
end
section
theorem dX0_init_0 : decode cX0_init 0 = .ok (.aload_n 0, 1) := by decide +kernel
theorem dX0_init_1 : decode cX0_init 1 = .ok (.invokespecial 3, 3) := by decide +kernel
theorem dX0_init_4 : decode cX0_init 4 = .ok (.aload_n 0, 1) := by decide +kernel
theorem dX0_init_5 : decode cX0_init 5 = .ok (.bipush 24, 2) := by decide +kernel
theorem dX0_init_7 : decode cX0_init 7 = .ok (.anewarray 9, 3) := by decide +kernel
theorem dX0_init_10 : decode cX0_init 10 = .ok (.putfield 11, 3) := by decide +kernel
theorem dX0_init_13 : decode cX0_init 13 = .ok (.aload_n 0, 1) := by decide +kernel
theorem dX0_init_14 : decode cX0_init 14 = .ok (.bipush 9, 2) := by decide +kernel
theorem dX0_init_16 : decode cX0_init 16 = .ok (.newarray .int, 2) := by decide +kernel
theorem dX0_init_18 : decode cX0_init 18 = .ok (.putfield 17, 3) := by decide +kernel
theorem dX0_init_21 : decode cX0_init 21 = .ok (.aload_n 0, 1) := by decide +kernel
theorem dX0_init_22 : decode cX0_init 22 = .ok (.iconst 0, 1) := by decide +kernel
theorem dX0_init_23 : decode cX0_init 23 = .ok (.putfield 21, 3) := by decide +kernel
theorem dX0_init_26 : decode cX0_init 26 = .ok (.aload_n 0, 1) := by decide +kernel
theorem dX0_init_27 : decode cX0_init 27 = .ok (.sipush 9000, 3) := by decide +kernel
theorem dX0_init_30 : decode cX0_init 30 = .ok (.putfield 25, 3) := by decide +kernel
theorem dX0_init_33 : decode cX0_init 33 = .ok (.aload_n 0, 1) := by decide +kernel
theorem dX0_init_34 : decode cX0_init 34 = .ok (.iconst 1, 1) := by decide +kernel
theorem dX0_init_35 : decode cX0_init 35 = .ok (.putfield 28, 3) := by decide +kernel
theorem dX0_init_38 : decode cX0_init 38 = .ok (.aload_n 0, 1) := by decide +kernel
theorem dX0_init_39 : decode cX0_init 39 = .ok (.iconst 0, 1) := by decide +kernel
theorem dX0_init_40 : decode cX0_init 40 = .ok (.putfield 32, 3) := by decide +kernel
theorem dX0_init_43 : decode cX0_init 43 = .ok (.aload_n 0, 1) := by decide +kernel
theorem dX0_init_44 : decode cX0_init 44 = .ok (.iconst 0, 1) := by decide +kernel
theorem dX0_init_45 : decode cX0_init 45 = .ok (.putfield 35, 3) := by decide +kernel
theorem dX0_init_48 : decode cX0_init 48 = .ok (.return_, 1) := by decide +kernel
theorem dX0_at_0 : decode cX0_at 0 = .ok (.iload_n 1, 1) := by decide +kernel
theorem dX0_at_1 : decode cX0_at 1 = .ok (.ifCond .lt 20, 3) := by decide +kernel
theorem dX0_at_4 : decode cX0_at 4 = .ok (.iload_n 1, 1) := by decide +kernel
theorem dX0_at_5 : decode cX0_at 5 = .ok (.aload_n 0, 1) := by decide +kernel
theorem dX0_at_6 : decode cX0_at 6 = .ok (.getfield 21, 3) := by decide +kernel
theorem dX0_at_9 : decode cX0_at 9 = .ok (.if_icmp .ge 12, 3) := by decide +kernel
theorem dX0_at_12 : decode cX0_at 12 = .ok (.iload_n 1, 1) := by decide +kernel
theorem dX0_at_13 : decode cX0_at 13 = .ok (.aload_n 0, 1) := by decide +kernel
theorem dX0_at_14 : decode cX0_at 14 = .ok (.getfield 11, 3) := by decide +kernel
theorem dX0_at_17 : decode cX0_at 17 = .ok (.arraylength, 1) := by decide +kernel
theorem dX0_at_18 : decode cX0_at 18 = .ok (.if_icmp .lt 5, 3) := by decide +kernel
theorem dX0_at_21 : decode cX0_at 21 = .ok (.aconst_null, 1) := by decide +kernel
theorem dX0_at_22 : decode cX0_at 22 = .ok (.areturn, 1) := by decide +kernel
theorem dX0_at_23 : decode cX0_at 23 = .ok (.aload_n 0, 1) := by decide +kernel
theorem dX0_at_24 : decode cX0_at 24 = .ok (.getfield 11, 3) := by decide +kernel
theorem dX0_at_27 : decode cX0_at 27 = .ok (.iload_n 1, 1) := by decide +kernel
theorem dX0_at_28 : decode cX0_at 28 = .ok (.aaload, 1) := by decide +kernel
theorem dX0_at_29 : decode cX0_at 29 = .ok (.areturn, 1) := by decide +kernel
theorem dX0_takeOn_0 : decode cX0_takeOn 0 = .ok (.aload_n 0, 1) := by decide +kernel
theorem dX0_takeOn_1 : decode cX0_takeOn 1 = .ok (.getfield 21, 3) := by decide +kernel
theorem dX0_takeOn_4 : decode cX0_takeOn 4 = .ok (.istore_n 2, 1) := by decide +kernel
theorem dX0_takeOn_5 : decode cX0_takeOn 5 = .ok (.iload_n 2, 1) := by decide +kernel
theorem dX0_takeOn_6 : decode cX0_takeOn 6 = .ok (.ifCond .lt 26, 3) := by decide +kernel
theorem dX0_takeOn_9 : decode cX0_takeOn 9 = .ok (.iload_n 2, 1) := by decide +kernel
theorem dX0_takeOn_10 : decode cX0_takeOn 10 = .ok (.aload_n 0, 1) := by decide +kernel
theorem dX0_takeOn_11 : decode cX0_takeOn 11 = .ok (.getfield 11, 3) := by decide +kernel
theorem dX0_takeOn_14 : decode cX0_takeOn 14 = .ok (.arraylength, 1) := by decide +kernel
theorem dX0_takeOn_15 : decode cX0_takeOn 15 = .ok (.if_icmp .ge 17, 3) := by decide +kernel
theorem dX0_takeOn_18 : decode cX0_takeOn 18 = .ok (.aload_n 0, 1) := by decide +kernel
theorem dX0_takeOn_19 : decode cX0_takeOn 19 = .ok (.getfield 11, 3) := by decide +kernel
theorem dX0_takeOn_22 : decode cX0_takeOn 22 = .ok (.iload_n 2, 1) := by decide +kernel
theorem dX0_takeOn_23 : decode cX0_takeOn 23 = .ok (.aload_n 1, 1) := by decide +kernel
theorem dX0_takeOn_24 : decode cX0_takeOn 24 = .ok (.aastore, 1) := by decide +kernel
theorem dX0_takeOn_25 : decode cX0_takeOn 25 = .ok (.aload_n 0, 1) := by decide +kernel
theorem dX0_takeOn_26 : decode cX0_takeOn 26 = .ok (.iload_n 2, 1) := by decide +kernel
theorem dX0_takeOn_27 : decode cX0_takeOn 27 = .ok (.iconst 1, 1) := by decide +kernel
theorem dX0_takeOn_28 : decode cX0_takeOn 28 = .ok (.iadd, 1) := by decide +kernel
theorem dX0_takeOn_29 : decode cX0_takeOn 29 = .ok (.putfield 21, 3) := by decide +kernel
theorem dX0_takeOn_32 : decode cX0_takeOn 32 = .ok (.return_, 1) := by decide +kernel
theorem dX0_letOff_0 : decode cX0_letOff 0 = .ok (.iconst 0, 1) := by decide +kernel
theorem dX0_letOff_1 : decode cX0_letOff 1 = .ok (.istore_n 2, 1) := by decide +kernel
theorem dX0_letOff_2 : decode cX0_letOff 2 = .ok (.iconst 0, 1) := by decide +kernel
theorem dX0_letOff_3 : decode cX0_letOff 3 = .ok (.istore_n 3, 1) := by decide +kernel
theorem dX0_letOff_4 : decode cX0_letOff 4 = .ok (.iload_n 3, 1) := by decide +kernel
theorem dX0_letOff_5 : decode cX0_letOff 5 = .ok (.aload_n 0, 1) := by decide +kernel
theorem dX0_letOff_6 : decode cX0_letOff 6 = .ok (.getfield 11, 3) := by decide +kernel
theorem dX0_letOff_9 : decode cX0_letOff 9 = .ok (.arraylength, 1) := by decide +kernel
theorem dX0_letOff_10 : decode cX0_letOff 10 = .ok (.if_icmp .ge 52, 3) := by decide +kernel
theorem dX0_letOff_13 : decode cX0_letOff 13 = .ok (.aload_n 0, 1) := by decide +kernel
theorem dX0_letOff_14 : decode cX0_letOff 14 = .ok (.getfield 11, 3) := by decide +kernel
theorem dX0_letOff_17 : decode cX0_letOff 17 = .ok (.iload_n 3, 1) := by decide +kernel
theorem dX0_letOff_18 : decode cX0_letOff 18 = .ok (.aaload, 1) := by decide +kernel
theorem dX0_letOff_19 : decode cX0_letOff 19 = .ok (.astore 4, 2) := by decide +kernel
theorem dX0_letOff_21 : decode cX0_letOff 21 = .ok (.aload_n 0, 1) := by decide +kernel
theorem dX0_letOff_22 : decode cX0_letOff 22 = .ok (.getfield 11, 3) := by decide +kernel
theorem dX0_letOff_25 : decode cX0_letOff 25 = .ok (.iload_n 3, 1) := by decide +kernel
theorem dX0_letOff_26 : decode cX0_letOff 26 = .ok (.aconst_null, 1) := by decide +kernel
theorem dX0_letOff_27 : decode cX0_letOff 27 = .ok (.aastore, 1) := by decide +kernel
theorem dX0_letOff_28 : decode cX0_letOff 28 = .ok (.aload 4, 2) := by decide +kernel
theorem dX0_letOff_30 : decode cX0_letOff 30 = .ok (.ifnull 26, 3) := by decide +kernel
theorem dX0_letOff_33 : decode cX0_letOff 33 = .ok (.aload 4, 2) := by decide +kernel
theorem dX0_letOff_35 : decode cX0_letOff 35 = .ok (.getfield 38, 3) := by decide +kernel
theorem dX0_letOff_38 : decode cX0_letOff 38 = .ok (.aload_n 1, 1) := by decide +kernel
theorem dX0_letOff_39 : decode cX0_letOff 39 = .ok (.getfield 38, 3) := by decide +kernel
theorem dX0_letOff_42 : decode cX0_letOff 42 = .ok (.if_icmp .eq 14, 3) := by decide +kernel
theorem dX0_letOff_45 : decode cX0_letOff 45 = .ok (.aload_n 0, 1) := by decide +kernel
theorem dX0_letOff_46 : decode cX0_letOff 46 = .ok (.getfield 11, 3) := by decide +kernel
theorem dX0_letOff_49 : decode cX0_letOff 49 = .ok (.iload_n 2, 1) := by decide +kernel
theorem dX0_letOff_50 : decode cX0_letOff 50 = .ok (.aload 4, 2) := by decide +kernel
theorem dX0_letOff_52 : decode cX0_letOff 52 = .ok (.aastore, 1) := by decide +kernel
theorem dX0_letOff_53 : decode cX0_letOff 53 = .ok (.iinc 2 1, 3) := by decide +kernel
theorem dX0_letOff_56 : decode cX0_letOff 56 = .ok (.iinc 3 1, 3) := by decide +kernel
theorem dX0_letOff_59 : decode cX0_letOff 59 = .ok (.goto (-55), 3) := by decide +kernel
theorem dX0_letOff_62 : decode cX0_letOff 62 = .ok (.aload_n 0, 1) := by decide +kernel
theorem dX0_letOff_63 : decode cX0_letOff 63 = .ok (.iload_n 2, 1) := by decide +kernel
theorem dX0_letOff_64 : decode cX0_letOff 64 = .ok (.putfield 21, 3) := by decide +kernel
theorem dX0_letOff_67 : decode cX0_letOff 67 = .ok (.return_, 1) := by decide +kernel
theorem dX0_bearsBus_0 : decode cX0_bearsBus 0 = .ok (.iconst 0, 1) := by decide +kernel
theorem dX0_bearsBus_1 : decode cX0_bearsBus 1 = .ok (.istore_n 1, 1) := by decide +kernel
theorem dX0_bearsBus_2 : decode cX0_bearsBus 2 = .ok (.iload_n 1, 1) := by decide +kernel
theorem dX0_bearsBus_3 : decode cX0_bearsBus 3 = .ok (.aload_n 0, 1) := by decide +kernel
theorem dX0_bearsBus_4 : decode cX0_bearsBus 4 = .ok (.getfield 11, 3) := by decide +kernel
theorem dX0_bearsBus_7 : decode cX0_bearsBus 7 = .ok (.arraylength, 1) := by decide +kernel
theorem dX0_bearsBus_8 : decode cX0_bearsBus 8 = .ok (.if_icmp .ge 40, 3) := by decide +kernel
theorem dX0_bearsBus_11 : decode cX0_bearsBus 11 = .ok (.aload_n 0, 1) := by decide +kernel
theorem dX0_bearsBus_12 : decode cX0_bearsBus 12 = .ok (.getfield 11, 3) := by decide +kernel
theorem dX0_bearsBus_15 : decode cX0_bearsBus 15 = .ok (.iload_n 1, 1) := by decide +kernel
theorem dX0_bearsBus_16 : decode cX0_bearsBus 16 = .ok (.aaload, 1) := by decide +kernel
theorem dX0_bearsBus_17 : decode cX0_bearsBus 17 = .ok (.astore_n 2, 1) := by decide +kernel
theorem dX0_bearsBus_18 : decode cX0_bearsBus 18 = .ok (.aload_n 2, 1) := by decide +kernel
theorem dX0_bearsBus_19 : decode cX0_bearsBus 19 = .ok (.ifnull 23, 3) := by decide +kernel
theorem dX0_bearsBus_22 : decode cX0_bearsBus 22 = .ok (.aload_n 2, 1) := by decide +kernel
theorem dX0_bearsBus_23 : decode cX0_bearsBus 23 = .ok (.getfield 41, 3) := by decide +kernel
theorem dX0_bearsBus_26 : decode cX0_bearsBus 26 = .ok (.bipush 6, 2) := by decide +kernel
theorem dX0_bearsBus_28 : decode cX0_bearsBus 28 = .ok (.if_icmp .eq 12, 3) := by decide +kernel
theorem dX0_bearsBus_31 : decode cX0_bearsBus 31 = .ok (.aload_n 2, 1) := by decide +kernel
theorem dX0_bearsBus_32 : decode cX0_bearsBus 32 = .ok (.getfield 41, 3) := by decide +kernel
theorem dX0_bearsBus_35 : decode cX0_bearsBus 35 = .ok (.bipush 7, 2) := by decide +kernel
theorem dX0_bearsBus_37 : decode cX0_bearsBus 37 = .ok (.if_icmp .ne 5, 3) := by decide +kernel
theorem dX0_bearsBus_40 : decode cX0_bearsBus 40 = .ok (.iconst 1, 1) := by decide +kernel
theorem dX0_bearsBus_41 : decode cX0_bearsBus 41 = .ok (.ireturn, 1) := by decide +kernel
theorem dX0_bearsBus_42 : decode cX0_bearsBus 42 = .ok (.iinc 1 1, 3) := by decide +kernel
theorem dX0_bearsBus_45 : decode cX0_bearsBus 45 = .ok (.goto (-43), 3) := by decide +kernel
theorem dX0_bearsBus_48 : decode cX0_bearsBus 48 = .ok (.iconst 0, 1) := by decide +kernel
theorem dX0_bearsBus_49 : decode cX0_bearsBus 49 = .ok (.ireturn, 1) := by decide +kernel
theorem dX1_init_0 : decode cX1_init 0 = .ok (.aload_n 0, 1) := by decide +kernel
theorem dX1_init_1 : decode cX1_init 1 = .ok (.aload_n 1, 1) := by decide +kernel
theorem dX1_init_2 : decode cX1_init 2 = .ok (.iload_n 2, 1) := by decide +kernel
theorem dX1_init_3 : decode cX1_init 3 = .ok (.iload_n 3, 1) := by decide +kernel
theorem dX1_init_4 : decode cX1_init 4 = .ok (.iload 4, 2) := by decide +kernel
theorem dX1_init_6 : decode cX1_init 6 = .ok (.iload 5, 2) := by decide +kernel
theorem dX1_init_8 : decode cX1_init 8 = .ok (.iload 6, 2) := by decide +kernel
theorem dX1_init_10 : decode cX1_init 10 = .ok (.invokespecial 3, 3) := by decide +kernel
theorem dX1_init_13 : decode cX1_init 13 = .ok (.return_, 1) := by decide +kernel
theorem dX1_enterAct_0 : decode cX1_enterAct 0 = .ok (.aload_n 0, 1) := by decide +kernel
theorem dX1_enterAct_1 : decode cX1_enterAct 1 = .ok (.getfield 9, 3) := by decide +kernel
theorem dX1_enterAct_4 : decode cX1_enterAct 4 = .ok (.getfield 15, 3) := by decide +kernel
theorem dX1_enterAct_7 : decode cX1_enterAct 7 = .ok (.bipush 6, 2) := by decide +kernel
theorem dX1_enterAct_9 : decode cX1_enterAct 9 = .ok (.dup2, 1) := by decide +kernel
theorem dX1_enterAct_10 : decode cX1_enterAct 10 = .ok (.iaload, 1) := by decide +kernel
theorem dX1_enterAct_11 : decode cX1_enterAct 11 = .ok (.iconst 1, 1) := by decide +kernel
theorem dX1_enterAct_12 : decode cX1_enterAct 12 = .ok (.iadd, 1) := by decide +kernel
theorem dX1_enterAct_13 : decode cX1_enterAct 13 = .ok (.iastore, 1) := by decide +kernel
theorem dX1_enterAct_14 : decode cX1_enterAct 14 = .ok (.aload_n 0, 1) := by decide +kernel
theorem dX1_enterAct_15 : decode cX1_enterAct 15 = .ok (.aload_n 0, 1) := by decide +kernel
theorem dX1_enterAct_16 : decode cX1_enterAct 16 = .ok (.getfield 21, 3) := by decide +kernel
theorem dX1_enterAct_19 : decode cX1_enterAct 19 = .ok (.bipush 40, 2) := by decide +kernel
theorem dX1_enterAct_21 : decode cX1_enterAct 21 = .ok (.iadd, 1) := by decide +kernel
theorem dX1_enterAct_22 : decode cX1_enterAct 22 = .ok (.sipush 5000, 3) := by decide +kernel
theorem dX1_enterAct_25 : decode cX1_enterAct 25 = .ok (.invokestatic 25, 3) := by decide +kernel
theorem dX1_enterAct_28 : decode cX1_enterAct 28 = .ok (.putfield 21, 3) := by decide +kernel
theorem dX1_enterAct_31 : decode cX1_enterAct 31 = .ok (.aload_n 0, 1) := by decide +kernel
theorem dX1_enterAct_32 : decode cX1_enterAct 32 = .ok (.iload_n 1, 1) := by decide +kernel
theorem dX1_enterAct_33 : decode cX1_enterAct 33 = .ok (.invokespecial 31, 3) := by decide +kernel
theorem dX1_enterAct_36 : decode cX1_enterAct 36 = .ok (.return_, 1) := by decide +kernel
theorem dX1_hasAccount_0 : decode cX1_hasAccount 0 = .ok (.iconst 1, 1) := by decide +kernel
theorem dX1_hasAccount_1 : decode cX1_hasAccount 1 = .ok (.ireturn, 1) := by decide +kernel
theorem dX2_init_0 : decode cX2_init 0 = .ok (.aload_n 0, 1) := by decide +kernel
theorem dX2_init_1 : decode cX2_init 1 = .ok (.aload_n 1, 1) := by decide +kernel
theorem dX2_init_2 : decode cX2_init 2 = .ok (.iload_n 2, 1) := by decide +kernel
theorem dX2_init_3 : decode cX2_init 3 = .ok (.iload_n 3, 1) := by decide +kernel
theorem dX2_init_4 : decode cX2_init 4 = .ok (.iload 4, 2) := by decide +kernel
theorem dX2_init_6 : decode cX2_init 6 = .ok (.iload 5, 2) := by decide +kernel
theorem dX2_init_8 : decode cX2_init 8 = .ok (.iload 6, 2) := by decide +kernel
theorem dX2_init_10 : decode cX2_init 10 = .ok (.invokespecial 3, 3) := by decide +kernel
theorem dX2_init_13 : decode cX2_init 13 = .ok (.return_, 1) := by decide +kernel
theorem dX2_tollAct_0 : decode cX2_tollAct 0 = .ok (.aload_n 0, 1) := by decide +kernel
theorem dX2_tollAct_1 : decode cX2_tollAct 1 = .ok (.getfield 9, 3) := by decide +kernel
theorem dX2_tollAct_4 : decode cX2_tollAct 4 = .ok (.getfield 15, 3) := by decide +kernel
theorem dX2_tollAct_7 : decode cX2_tollAct 7 = .ok (.iconst 3, 1) := by decide +kernel
theorem dX2_tollAct_8 : decode cX2_tollAct 8 = .ok (.dup2, 1) := by decide +kernel
theorem dX2_tollAct_9 : decode cX2_tollAct 9 = .ok (.iaload, 1) := by decide +kernel
theorem dX2_tollAct_10 : decode cX2_tollAct 10 = .ok (.iconst 1, 1) := by decide +kernel
theorem dX2_tollAct_11 : decode cX2_tollAct 11 = .ok (.iadd, 1) := by decide +kernel
theorem dX2_tollAct_12 : decode cX2_tollAct 12 = .ok (.iastore, 1) := by decide +kernel
theorem dX2_tollAct_13 : decode cX2_tollAct 13 = .ok (.aload_n 0, 1) := by decide +kernel
theorem dX2_tollAct_14 : decode cX2_tollAct 14 = .ok (.iload_n 1, 1) := by decide +kernel
theorem dX2_tollAct_15 : decode cX2_tollAct 15 = .ok (.invokespecial 21, 3) := by decide +kernel
theorem dX2_tollAct_18 : decode cX2_tollAct 18 = .ok (.istore_n 2, 1) := by decide +kernel
theorem dX2_tollAct_19 : decode cX2_tollAct 19 = .ok (.iload_n 1, 1) := by decide +kernel
theorem dX2_tollAct_20 : decode cX2_tollAct 20 = .ok (.bipush 20, 2) := by decide +kernel
theorem dX2_tollAct_22 : decode cX2_tollAct 22 = .ok (.if_icmp .ge 9, 3) := by decide +kernel
theorem dX2_tollAct_25 : decode cX2_tollAct 25 = .ok (.iload_n 1, 1) := by decide +kernel
theorem dX2_tollAct_26 : decode cX2_tollAct 26 = .ok (.bipush 6, 2) := by decide +kernel
theorem dX2_tollAct_28 : decode cX2_tollAct 28 = .ok (.if_icmp .ge 7, 3) := by decide +kernel
theorem dX2_tollAct_31 : decode cX2_tollAct 31 = .ok (.iconst 2, 1) := by decide +kernel
theorem dX2_tollAct_32 : decode cX2_tollAct 32 = .ok (.iload_n 2, 1) := by decide +kernel
theorem dX2_tollAct_33 : decode cX2_tollAct 33 = .ok (.imul, 1) := by decide +kernel
theorem dX2_tollAct_34 : decode cX2_tollAct 34 = .ok (.ireturn, 1) := by decide +kernel
theorem dX2_tollAct_35 : decode cX2_tollAct 35 = .ok (.iload_n 2, 1) := by decide +kernel
theorem dX2_tollAct_36 : decode cX2_tollAct 36 = .ok (.aload_n 0, 1) := by decide +kernel
theorem dX2_tollAct_37 : decode cX2_tollAct 37 = .ok (.getfield 25, 3) := by decide +kernel
theorem dX2_tollAct_40 : decode cX2_tollAct 40 = .ok (.iadd, 1) := by decide +kernel
theorem dX2_tollAct_41 : decode cX2_tollAct 41 = .ok (.ireturn, 1) := by decide +kernel
theorem dX2_enterAct_0 : decode cX2_enterAct 0 = .ok (.aload_n 0, 1) := by decide +kernel
theorem dX2_enterAct_1 : decode cX2_enterAct 1 = .ok (.getfield 9, 3) := by decide +kernel
theorem dX2_enterAct_4 : decode cX2_enterAct 4 = .ok (.getfield 15, 3) := by decide +kernel
theorem dX2_enterAct_7 : decode cX2_enterAct 7 = .ok (.iconst 3, 1) := by decide +kernel
theorem dX2_enterAct_8 : decode cX2_enterAct 8 = .ok (.dup2, 1) := by decide +kernel
theorem dX2_enterAct_9 : decode cX2_enterAct 9 = .ok (.iaload, 1) := by decide +kernel
theorem dX2_enterAct_10 : decode cX2_enterAct 10 = .ok (.iconst 1, 1) := by decide +kernel
theorem dX2_enterAct_11 : decode cX2_enterAct 11 = .ok (.iadd, 1) := by decide +kernel
theorem dX2_enterAct_12 : decode cX2_enterAct 12 = .ok (.iastore, 1) := by decide +kernel
theorem dX2_enterAct_13 : decode cX2_enterAct 13 = .ok (.aload_n 0, 1) := by decide +kernel
theorem dX2_enterAct_14 : decode cX2_enterAct 14 = .ok (.dup, 1) := by decide +kernel
theorem dX2_enterAct_15 : decode cX2_enterAct 15 = .ok (.getfield 25, 3) := by decide +kernel
theorem dX2_enterAct_18 : decode cX2_enterAct 18 = .ok (.iconst 1, 1) := by decide +kernel
theorem dX2_enterAct_19 : decode cX2_enterAct 19 = .ok (.iadd, 1) := by decide +kernel
theorem dX2_enterAct_20 : decode cX2_enterAct 20 = .ok (.putfield 25, 3) := by decide +kernel
theorem dX2_enterAct_23 : decode cX2_enterAct 23 = .ok (.aload_n 0, 1) := by decide +kernel
theorem dX2_enterAct_24 : decode cX2_enterAct 24 = .ok (.iload_n 1, 1) := by decide +kernel
theorem dX2_enterAct_25 : decode cX2_enterAct 25 = .ok (.invokespecial 29, 3) := by decide +kernel
theorem dX2_enterAct_28 : decode cX2_enterAct 28 = .ok (.return_, 1) := by decide +kernel
theorem dX2_leaveAct_0 : decode cX2_leaveAct 0 = .ok (.aload_n 0, 1) := by decide +kernel
theorem dX2_leaveAct_1 : decode cX2_leaveAct 1 = .ok (.getfield 9, 3) := by decide +kernel
theorem dX2_leaveAct_4 : decode cX2_leaveAct 4 = .ok (.getfield 15, 3) := by decide +kernel
theorem dX2_leaveAct_7 : decode cX2_leaveAct 7 = .ok (.iconst 3, 1) := by decide +kernel
theorem dX2_leaveAct_8 : decode cX2_leaveAct 8 = .ok (.dup2, 1) := by decide +kernel
theorem dX2_leaveAct_9 : decode cX2_leaveAct 9 = .ok (.iaload, 1) := by decide +kernel
theorem dX2_leaveAct_10 : decode cX2_leaveAct 10 = .ok (.iconst 1, 1) := by decide +kernel
theorem dX2_leaveAct_11 : decode cX2_leaveAct 11 = .ok (.iadd, 1) := by decide +kernel
theorem dX2_leaveAct_12 : decode cX2_leaveAct 12 = .ok (.iastore, 1) := by decide +kernel
theorem dX2_leaveAct_13 : decode cX2_leaveAct 13 = .ok (.aload_n 0, 1) := by decide +kernel
theorem dX2_leaveAct_14 : decode cX2_leaveAct 14 = .ok (.invokespecial 33, 3) := by decide +kernel
theorem dX2_leaveAct_17 : decode cX2_leaveAct 17 = .ok (.aload_n 0, 1) := by decide +kernel
theorem dX2_leaveAct_18 : decode cX2_leaveAct 18 = .ok (.iconst 0, 1) := by decide +kernel
theorem dX2_leaveAct_19 : decode cX2_leaveAct 19 = .ok (.putfield 25, 3) := by decide +kernel
theorem dX2_leaveAct_22 : decode cX2_leaveAct 22 = .ok (.return_, 1) := by decide +kernel
theorem dX2_hasAccount_0 : decode cX2_hasAccount 0 = .ok (.iconst 1, 1) := by decide +kernel
theorem dX2_hasAccount_1 : decode cX2_hasAccount 1 = .ok (.ireturn, 1) := by decide +kernel
theorem dX3_init_0 : decode cX3_init 0 = .ok (.aload_n 0, 1) := by decide +kernel
theorem dX3_init_1 : decode cX3_init 1 = .ok (.aload_n 1, 1) := by decide +kernel
theorem dX3_init_2 : decode cX3_init 2 = .ok (.iload_n 2, 1) := by decide +kernel
theorem dX3_init_3 : decode cX3_init 3 = .ok (.iload_n 3, 1) := by decide +kernel
theorem dX3_init_4 : decode cX3_init 4 = .ok (.iload 4, 2) := by decide +kernel
theorem dX3_init_6 : decode cX3_init 6 = .ok (.iload 5, 2) := by decide +kernel
theorem dX3_init_8 : decode cX3_init 8 = .ok (.iload 6, 2) := by decide +kernel
theorem dX3_init_10 : decode cX3_init 10 = .ok (.invokespecial 3, 3) := by decide +kernel
theorem dX3_init_13 : decode cX3_init 13 = .ok (.return_, 1) := by decide +kernel
theorem dX3_tollAct_0 : decode cX3_tollAct 0 = .ok (.aload_n 0, 1) := by decide +kernel
theorem dX3_tollAct_1 : decode cX3_tollAct 1 = .ok (.getfield 9, 3) := by decide +kernel
theorem dX3_tollAct_4 : decode cX3_tollAct 4 = .ok (.getfield 15, 3) := by decide +kernel
theorem dX3_tollAct_7 : decode cX3_tollAct 7 = .ok (.iconst 2, 1) := by decide +kernel
theorem dX3_tollAct_8 : decode cX3_tollAct 8 = .ok (.dup2, 1) := by decide +kernel
theorem dX3_tollAct_9 : decode cX3_tollAct 9 = .ok (.iaload, 1) := by decide +kernel
theorem dX3_tollAct_10 : decode cX3_tollAct 10 = .ok (.iconst 1, 1) := by decide +kernel
theorem dX3_tollAct_11 : decode cX3_tollAct 11 = .ok (.iadd, 1) := by decide +kernel
theorem dX3_tollAct_12 : decode cX3_tollAct 12 = .ok (.iastore, 1) := by decide +kernel
theorem dX3_tollAct_13 : decode cX3_tollAct 13 = .ok (.aload_n 0, 1) := by decide +kernel
theorem dX3_tollAct_14 : decode cX3_tollAct 14 = .ok (.iload_n 1, 1) := by decide +kernel
theorem dX3_tollAct_15 : decode cX3_tollAct 15 = .ok (.invokespecial 21, 3) := by decide +kernel
theorem dX3_tollAct_18 : decode cX3_tollAct 18 = .ok (.bipush 10, 2) := by decide +kernel
theorem dX3_tollAct_20 : decode cX3_tollAct 20 = .ok (.iadd, 1) := by decide +kernel
theorem dX3_tollAct_21 : decode cX3_tollAct 21 = .ok (.ireturn, 1) := by decide +kernel
theorem dX3_rebateAct_0 : decode cX3_rebateAct 0 = .ok (.aload_n 0, 1) := by decide +kernel
theorem dX3_rebateAct_1 : decode cX3_rebateAct 1 = .ok (.getfield 9, 3) := by decide +kernel
theorem dX3_rebateAct_4 : decode cX3_rebateAct 4 = .ok (.getfield 15, 3) := by decide +kernel
theorem dX3_rebateAct_7 : decode cX3_rebateAct 7 = .ok (.iconst 2, 1) := by decide +kernel
theorem dX3_rebateAct_8 : decode cX3_rebateAct 8 = .ok (.dup2, 1) := by decide +kernel
theorem dX3_rebateAct_9 : decode cX3_rebateAct 9 = .ok (.iaload, 1) := by decide +kernel
theorem dX3_rebateAct_10 : decode cX3_rebateAct 10 = .ok (.iconst 1, 1) := by decide +kernel
theorem dX3_rebateAct_11 : decode cX3_rebateAct 11 = .ok (.iadd, 1) := by decide +kernel
theorem dX3_rebateAct_12 : decode cX3_rebateAct 12 = .ok (.iastore, 1) := by decide +kernel
theorem dX3_rebateAct_13 : decode cX3_rebateAct 13 = .ok (.aload_n 0, 1) := by decide +kernel
theorem dX3_rebateAct_14 : decode cX3_rebateAct 14 = .ok (.invokespecial 25, 3) := by decide +kernel
theorem dX3_rebateAct_17 : decode cX3_rebateAct 17 = .ok (.iconst 5, 1) := by decide +kernel
theorem dX3_rebateAct_18 : decode cX3_rebateAct 18 = .ok (.iadd, 1) := by decide +kernel
theorem dX3_rebateAct_19 : decode cX3_rebateAct 19 = .ok (.bipush 100, 2) := by decide +kernel
theorem dX3_rebateAct_21 : decode cX3_rebateAct 21 = .ok (.invokestatic 29, 3) := by decide +kernel
theorem dX3_rebateAct_24 : decode cX3_rebateAct 24 = .ok (.ireturn, 1) := by decide +kernel
theorem dX4_init_0 : decode cX4_init 0 = .ok (.aload_n 0, 1) := by decide +kernel
theorem dX4_init_1 : decode cX4_init 1 = .ok (.invokespecial 3, 3) := by decide +kernel
theorem dX4_init_4 : decode cX4_init 4 = .ok (.aload_n 0, 1) := by decide +kernel
theorem dX4_init_5 : decode cX4_init 5 = .ok (.aload_n 1, 1) := by decide +kernel
theorem dX4_init_6 : decode cX4_init 6 = .ok (.putfield 9, 3) := by decide +kernel
theorem dX4_init_9 : decode cX4_init 9 = .ok (.aload_n 0, 1) := by decide +kernel
theorem dX4_init_10 : decode cX4_init 10 = .ok (.iload_n 2, 1) := by decide +kernel
theorem dX4_init_11 : decode cX4_init 11 = .ok (.putfield 15, 3) := by decide +kernel
theorem dX4_init_14 : decode cX4_init 14 = .ok (.aload_n 0, 1) := by decide +kernel
theorem dX4_init_15 : decode cX4_init 15 = .ok (.iload_n 3, 1) := by decide +kernel
theorem dX4_init_16 : decode cX4_init 16 = .ok (.putfield 19, 3) := by decide +kernel
theorem dX4_init_19 : decode cX4_init 19 = .ok (.aload_n 0, 1) := by decide +kernel
theorem dX4_init_20 : decode cX4_init 20 = .ok (.iload 4, 2) := by decide +kernel
theorem dX4_init_22 : decode cX4_init 22 = .ok (.putfield 22, 3) := by decide +kernel
theorem dX4_init_25 : decode cX4_init 25 = .ok (.aload_n 0, 1) := by decide +kernel
theorem dX4_init_26 : decode cX4_init 26 = .ok (.iload 6, 2) := by decide +kernel
theorem dX4_init_28 : decode cX4_init 28 = .ok (.putfield 25, 3) := by decide +kernel
theorem dX4_init_31 : decode cX4_init 31 = .ok (.aload_n 0, 1) := by decide +kernel
theorem dX4_init_32 : decode cX4_init 32 = .ok (.iload 5, 2) := by decide +kernel
theorem dX4_init_34 : decode cX4_init 34 = .ok (.putfield 28, 3) := by decide +kernel
theorem dX4_init_37 : decode cX4_init 37 = .ok (.aload_n 0, 1) := by decide +kernel
theorem dX4_init_38 : decode cX4_init 38 = .ok (.iconst 0, 1) := by decide +kernel
theorem dX4_init_39 : decode cX4_init 39 = .ok (.putfield 31, 3) := by decide +kernel
theorem dX4_init_42 : decode cX4_init 42 = .ok (.aload_n 0, 1) := by decide +kernel
theorem dX4_init_43 : decode cX4_init 43 = .ok (.iconst 0, 1) := by decide +kernel
theorem dX4_init_44 : decode cX4_init 44 = .ok (.putfield 34, 3) := by decide +kernel
theorem dX4_init_47 : decode cX4_init 47 = .ok (.aload_n 0, 1) := by decide +kernel
theorem dX4_init_48 : decode cX4_init 48 = .ok (.iconst 0, 1) := by decide +kernel
theorem dX4_init_49 : decode cX4_init 49 = .ok (.putfield 37, 3) := by decide +kernel
theorem dX4_init_52 : decode cX4_init 52 = .ok (.aload_n 0, 1) := by decide +kernel
theorem dX4_init_53 : decode cX4_init 53 = .ok (.iconst 0, 1) := by decide +kernel
theorem dX4_init_54 : decode cX4_init 54 = .ok (.putfield 40, 3) := by decide +kernel
theorem dX4_init_57 : decode cX4_init 57 = .ok (.return_, 1) := by decide +kernel
theorem dX4_weightAct_0 : decode cX4_weightAct 0 = .ok (.aload_n 0, 1) := by decide +kernel
theorem dX4_weightAct_1 : decode cX4_weightAct 1 = .ok (.getfield 9, 3) := by decide +kernel
theorem dX4_weightAct_4 : decode cX4_weightAct 4 = .ok (.getfield 43, 3) := by decide +kernel
theorem dX4_weightAct_7 : decode cX4_weightAct 7 = .ok (.iconst 0, 1) := by decide +kernel
theorem dX4_weightAct_8 : decode cX4_weightAct 8 = .ok (.dup2, 1) := by decide +kernel
theorem dX4_weightAct_9 : decode cX4_weightAct 9 = .ok (.iaload, 1) := by decide +kernel
theorem dX4_weightAct_10 : decode cX4_weightAct 10 = .ok (.iconst 1, 1) := by decide +kernel
theorem dX4_weightAct_11 : decode cX4_weightAct 11 = .ok (.iadd, 1) := by decide +kernel
theorem dX4_weightAct_12 : decode cX4_weightAct 12 = .ok (.iastore, 1) := by decide +kernel
theorem dX4_weightAct_13 : decode cX4_weightAct 13 = .ok (.aload_n 0, 1) := by decide +kernel
theorem dX4_weightAct_14 : decode cX4_weightAct 14 = .ok (.getfield 22, 3) := by decide +kernel
theorem dX4_weightAct_17 : decode cX4_weightAct 17 = .ok (.ireturn, 1) := by decide +kernel
theorem dX4_tollAct_0 : decode cX4_tollAct 0 = .ok (.aload_n 0, 1) := by decide +kernel
theorem dX4_tollAct_1 : decode cX4_tollAct 1 = .ok (.getfield 9, 3) := by decide +kernel
theorem dX4_tollAct_4 : decode cX4_tollAct 4 = .ok (.getfield 43, 3) := by decide +kernel
theorem dX4_tollAct_7 : decode cX4_tollAct 7 = .ok (.iconst 0, 1) := by decide +kernel
theorem dX4_tollAct_8 : decode cX4_tollAct 8 = .ok (.dup2, 1) := by decide +kernel
theorem dX4_tollAct_9 : decode cX4_tollAct 9 = .ok (.iaload, 1) := by decide +kernel
theorem dX4_tollAct_10 : decode cX4_tollAct 10 = .ok (.iconst 1, 1) := by decide +kernel
theorem dX4_tollAct_11 : decode cX4_tollAct 11 = .ok (.iadd, 1) := by decide +kernel
theorem dX4_tollAct_12 : decode cX4_tollAct 12 = .ok (.iastore, 1) := by decide +kernel
theorem dX4_tollAct_13 : decode cX4_tollAct 13 = .ok (.iconst 5, 1) := by decide +kernel
theorem dX4_tollAct_14 : decode cX4_tollAct 14 = .ok (.aload_n 0, 1) := by decide +kernel
theorem dX4_tollAct_15 : decode cX4_tollAct 15 = .ok (.invokevirtual 49, 3) := by decide +kernel
theorem dX4_tollAct_18 : decode cX4_tollAct 18 = .ok (.bipush 100, 2) := by decide +kernel
theorem dX4_tollAct_20 : decode cX4_tollAct 20 = .ok (.idiv, 1) := by decide +kernel
theorem dX4_tollAct_21 : decode cX4_tollAct 21 = .ok (.iadd, 1) := by decide +kernel
theorem dX4_tollAct_22 : decode cX4_tollAct 22 = .ok (.ireturn, 1) := by decide +kernel
theorem dX4_fitAct_0 : decode cX4_fitAct 0 = .ok (.aload_n 0, 1) := by decide +kernel
theorem dX4_fitAct_1 : decode cX4_fitAct 1 = .ok (.getfield 9, 3) := by decide +kernel
theorem dX4_fitAct_4 : decode cX4_fitAct 4 = .ok (.getfield 43, 3) := by decide +kernel
theorem dX4_fitAct_7 : decode cX4_fitAct 7 = .ok (.iconst 0, 1) := by decide +kernel
theorem dX4_fitAct_8 : decode cX4_fitAct 8 = .ok (.dup2, 1) := by decide +kernel
theorem dX4_fitAct_9 : decode cX4_fitAct 9 = .ok (.iaload, 1) := by decide +kernel
theorem dX4_fitAct_10 : decode cX4_fitAct 10 = .ok (.iconst 1, 1) := by decide +kernel
theorem dX4_fitAct_11 : decode cX4_fitAct 11 = .ok (.iadd, 1) := by decide +kernel
theorem dX4_fitAct_12 : decode cX4_fitAct 12 = .ok (.iastore, 1) := by decide +kernel
theorem dX4_fitAct_13 : decode cX4_fitAct 13 = .ok (.iconst 0, 1) := by decide +kernel
theorem dX4_fitAct_14 : decode cX4_fitAct 14 = .ok (.istore_n 1, 1) := by decide +kernel
theorem dX4_fitAct_15 : decode cX4_fitAct 15 = .ok (.iconst 0, 1) := by decide +kernel
theorem dX4_fitAct_16 : decode cX4_fitAct 16 = .ok (.istore_n 2, 1) := by decide +kernel
theorem dX4_fitAct_17 : decode cX4_fitAct 17 = .ok (.iload_n 2, 1) := by decide +kernel
theorem dX4_fitAct_18 : decode cX4_fitAct 18 = .ok (.aload_n 0, 1) := by decide +kernel
theorem dX4_fitAct_19 : decode cX4_fitAct 19 = .ok (.getfield 9, 3) := by decide +kernel
theorem dX4_fitAct_22 : decode cX4_fitAct 22 = .ok (.getfield 53, 3) := by decide +kernel
theorem dX4_fitAct_25 : decode cX4_fitAct 25 = .ok (.arraylength, 1) := by decide +kernel
theorem dX4_fitAct_26 : decode cX4_fitAct 26 = .ok (.if_icmp .ge 30, 3) := by decide +kernel
theorem dX4_fitAct_29 : decode cX4_fitAct 29 = .ok (.aload_n 0, 1) := by decide +kernel
theorem dX4_fitAct_30 : decode cX4_fitAct 30 = .ok (.getfield 9, 3) := by decide +kernel
theorem dX4_fitAct_33 : decode cX4_fitAct 33 = .ok (.getfield 53, 3) := by decide +kernel
theorem dX4_fitAct_36 : decode cX4_fitAct 36 = .ok (.iload_n 2, 1) := by decide +kernel
theorem dX4_fitAct_37 : decode cX4_fitAct 37 = .ok (.aaload, 1) := by decide +kernel
theorem dX4_fitAct_38 : decode cX4_fitAct 38 = .ok (.astore_n 3, 1) := by decide +kernel
theorem dX4_fitAct_39 : decode cX4_fitAct 39 = .ok (.aload_n 3, 1) := by decide +kernel
theorem dX4_fitAct_40 : decode cX4_fitAct 40 = .ok (.ifnull 10, 3) := by decide +kernel
theorem dX4_fitAct_43 : decode cX4_fitAct 43 = .ok (.iload_n 1, 1) := by decide +kernel
theorem dX4_fitAct_44 : decode cX4_fitAct 44 = .ok (.aload_n 3, 1) := by decide +kernel
theorem dX4_fitAct_45 : decode cX4_fitAct 45 = .ok (.invokevirtual 49, 3) := by decide +kernel
theorem dX4_fitAct_48 : decode cX4_fitAct 48 = .ok (.iadd, 1) := by decide +kernel
theorem dX4_fitAct_49 : decode cX4_fitAct 49 = .ok (.istore_n 1, 1) := by decide +kernel
theorem dX4_fitAct_50 : decode cX4_fitAct 50 = .ok (.iinc 2 1, 3) := by decide +kernel
theorem dX4_fitAct_53 : decode cX4_fitAct 53 = .ok (.goto (-36), 3) := by decide +kernel
theorem dX4_fitAct_56 : decode cX4_fitAct 56 = .ok (.iload_n 1, 1) := by decide +kernel
theorem dX4_fitAct_57 : decode cX4_fitAct 57 = .ok (.aload_n 0, 1) := by decide +kernel
theorem dX4_fitAct_58 : decode cX4_fitAct 58 = .ok (.invokevirtual 49, 3) := by decide +kernel
theorem dX4_fitAct_61 : decode cX4_fitAct 61 = .ok (.iadd, 1) := by decide +kernel
theorem dX4_fitAct_62 : decode cX4_fitAct 62 = .ok (.istore_n 1, 1) := by decide +kernel
theorem dX4_fitAct_63 : decode cX4_fitAct 63 = .ok (.aload_n 0, 1) := by decide +kernel
theorem dX4_fitAct_64 : decode cX4_fitAct 64 = .ok (.getfield 9, 3) := by decide +kernel
theorem dX4_fitAct_67 : decode cX4_fitAct 67 = .ok (.getfield 57, 3) := by decide +kernel
theorem dX4_fitAct_70 : decode cX4_fitAct 70 = .ok (.ifCond .eq 18, 3) := by decide +kernel
theorem dX4_fitAct_73 : decode cX4_fitAct 73 = .ok (.iload_n 1, 1) := by decide +kernel
theorem dX4_fitAct_74 : decode cX4_fitAct 74 = .ok (.aload_n 0, 1) := by decide +kernel
theorem dX4_fitAct_75 : decode cX4_fitAct 75 = .ok (.getfield 9, 3) := by decide +kernel
theorem dX4_fitAct_78 : decode cX4_fitAct 78 = .ok (.getfield 61, 3) := by decide +kernel
theorem dX4_fitAct_81 : decode cX4_fitAct 81 = .ok (.if_icmp .gt 7, 3) := by decide +kernel
theorem dX4_fitAct_84 : decode cX4_fitAct 84 = .ok (.iconst 1, 1) := by decide +kernel
theorem dX4_fitAct_85 : decode cX4_fitAct 85 = .ok (.goto 4, 3) := by decide +kernel
theorem dX4_fitAct_88 : decode cX4_fitAct 88 = .ok (.iconst 0, 1) := by decide +kernel
theorem dX4_fitAct_89 : decode cX4_fitAct 89 = .ok (.ireturn, 1) := by decide +kernel
theorem dX4_enterAct_0 : decode cX4_enterAct 0 = .ok (.aload_n 0, 1) := by decide +kernel
theorem dX4_enterAct_1 : decode cX4_enterAct 1 = .ok (.getfield 9, 3) := by decide +kernel
theorem dX4_enterAct_4 : decode cX4_enterAct 4 = .ok (.getfield 43, 3) := by decide +kernel
theorem dX4_enterAct_7 : decode cX4_enterAct 7 = .ok (.iconst 0, 1) := by decide +kernel
theorem dX4_enterAct_8 : decode cX4_enterAct 8 = .ok (.dup2, 1) := by decide +kernel
theorem dX4_enterAct_9 : decode cX4_enterAct 9 = .ok (.iaload, 1) := by decide +kernel
theorem dX4_enterAct_10 : decode cX4_enterAct 10 = .ok (.iconst 1, 1) := by decide +kernel
theorem dX4_enterAct_11 : decode cX4_enterAct 11 = .ok (.iadd, 1) := by decide +kernel
theorem dX4_enterAct_12 : decode cX4_enterAct 12 = .ok (.iastore, 1) := by decide +kernel
theorem dX4_enterAct_13 : decode cX4_enterAct 13 = .ok (.aload_n 0, 1) := by decide +kernel
theorem dX4_enterAct_14 : decode cX4_enterAct 14 = .ok (.invokevirtual 64, 3) := by decide +kernel
theorem dX4_enterAct_17 : decode cX4_enterAct 17 = .ok (.ifCond .ne 26, 3) := by decide +kernel
theorem dX4_enterAct_20 : decode cX4_enterAct 20 = .ok (.aload_n 0, 1) := by decide +kernel
theorem dX4_enterAct_21 : decode cX4_enterAct 21 = .ok (.getfield 9, 3) := by decide +kernel
theorem dX4_enterAct_24 : decode cX4_enterAct 24 = .ok (.dup, 1) := by decide +kernel
theorem dX4_enterAct_25 : decode cX4_enterAct 25 = .ok (.getfield 68, 3) := by decide +kernel
theorem dX4_enterAct_28 : decode cX4_enterAct 28 = .ok (.iconst 1, 1) := by decide +kernel
theorem dX4_enterAct_29 : decode cX4_enterAct 29 = .ok (.iadd, 1) := by decide +kernel
theorem dX4_enterAct_30 : decode cX4_enterAct 30 = .ok (.putfield 68, 3) := by decide +kernel
theorem dX4_enterAct_33 : decode cX4_enterAct 33 = .ok (.new 71, 3) := by decide +kernel
theorem dX4_enterAct_36 : decode cX4_enterAct 36 = .ok (.dup, 1) := by decide +kernel
theorem dX4_enterAct_37 : decode cX4_enterAct 37 = .ok (.ldc 73, 2) := by decide +kernel
theorem dX4_enterAct_39 : decode cX4_enterAct 39 = .ok (.invokespecial 75, 3) := by decide +kernel
theorem dX4_enterAct_42 : decode cX4_enterAct 42 = .ok (.athrow, 1) := by decide +kernel
theorem dX4_enterAct_43 : decode cX4_enterAct 43 = .ok (.aload_n 0, 1) := by decide +kernel
theorem dX4_enterAct_44 : decode cX4_enterAct 44 = .ok (.dup, 1) := by decide +kernel
theorem dX4_enterAct_45 : decode cX4_enterAct 45 = .ok (.getfield 34, 3) := by decide +kernel
theorem dX4_enterAct_48 : decode cX4_enterAct 48 = .ok (.aload_n 0, 1) := by decide +kernel
theorem dX4_enterAct_49 : decode cX4_enterAct 49 = .ok (.iload_n 1, 1) := by decide +kernel
theorem dX4_enterAct_50 : decode cX4_enterAct 50 = .ok (.invokevirtual 78, 3) := by decide +kernel
theorem dX4_enterAct_53 : decode cX4_enterAct 53 = .ok (.iadd, 1) := by decide +kernel
theorem dX4_enterAct_54 : decode cX4_enterAct 54 = .ok (.putfield 34, 3) := by decide +kernel
theorem dX4_enterAct_57 : decode cX4_enterAct 57 = .ok (.aload_n 0, 1) := by decide +kernel
theorem dX4_enterAct_58 : decode cX4_enterAct 58 = .ok (.dup, 1) := by decide +kernel
theorem dX4_enterAct_59 : decode cX4_enterAct 59 = .ok (.getfield 37, 3) := by decide +kernel
theorem dX4_enterAct_62 : decode cX4_enterAct 62 = .ok (.iconst 1, 1) := by decide +kernel
theorem dX4_enterAct_63 : decode cX4_enterAct 63 = .ok (.iadd, 1) := by decide +kernel
theorem dX4_enterAct_64 : decode cX4_enterAct 64 = .ok (.putfield 37, 3) := by decide +kernel
theorem dX4_enterAct_67 : decode cX4_enterAct 67 = .ok (.aload_n 0, 1) := by decide +kernel
theorem dX4_enterAct_68 : decode cX4_enterAct 68 = .ok (.iconst 1, 1) := by decide +kernel
theorem dX4_enterAct_69 : decode cX4_enterAct 69 = .ok (.putfield 31, 3) := by decide +kernel
theorem dX4_enterAct_72 : decode cX4_enterAct 72 = .ok (.aload_n 0, 1) := by decide +kernel
theorem dX4_enterAct_73 : decode cX4_enterAct 73 = .ok (.getfield 9, 3) := by decide +kernel
theorem dX4_enterAct_76 : decode cX4_enterAct 76 = .ok (.aload_n 0, 1) := by decide +kernel
theorem dX4_enterAct_77 : decode cX4_enterAct 77 = .ok (.invokevirtual 82, 3) := by decide +kernel
theorem dX4_enterAct_80 : decode cX4_enterAct 80 = .ok (.return_, 1) := by decide +kernel
theorem dX4_leaveAct_0 : decode cX4_leaveAct 0 = .ok (.aload_n 0, 1) := by decide +kernel
theorem dX4_leaveAct_1 : decode cX4_leaveAct 1 = .ok (.getfield 9, 3) := by decide +kernel
theorem dX4_leaveAct_4 : decode cX4_leaveAct 4 = .ok (.getfield 43, 3) := by decide +kernel
theorem dX4_leaveAct_7 : decode cX4_leaveAct 7 = .ok (.iconst 0, 1) := by decide +kernel
theorem dX4_leaveAct_8 : decode cX4_leaveAct 8 = .ok (.dup2, 1) := by decide +kernel
theorem dX4_leaveAct_9 : decode cX4_leaveAct 9 = .ok (.iaload, 1) := by decide +kernel
theorem dX4_leaveAct_10 : decode cX4_leaveAct 10 = .ok (.iconst 1, 1) := by decide +kernel
theorem dX4_leaveAct_11 : decode cX4_leaveAct 11 = .ok (.iadd, 1) := by decide +kernel
theorem dX4_leaveAct_12 : decode cX4_leaveAct 12 = .ok (.iastore, 1) := by decide +kernel
theorem dX4_leaveAct_13 : decode cX4_leaveAct 13 = .ok (.aload_n 0, 1) := by decide +kernel
theorem dX4_leaveAct_14 : decode cX4_leaveAct 14 = .ok (.iconst 0, 1) := by decide +kernel
theorem dX4_leaveAct_15 : decode cX4_leaveAct 15 = .ok (.putfield 31, 3) := by decide +kernel
theorem dX4_leaveAct_18 : decode cX4_leaveAct 18 = .ok (.aload_n 0, 1) := by decide +kernel
theorem dX4_leaveAct_19 : decode cX4_leaveAct 19 = .ok (.getfield 9, 3) := by decide +kernel
theorem dX4_leaveAct_22 : decode cX4_leaveAct 22 = .ok (.aload_n 0, 1) := by decide +kernel
theorem dX4_leaveAct_23 : decode cX4_leaveAct 23 = .ok (.invokevirtual 86, 3) := by decide +kernel
theorem dX4_leaveAct_26 : decode cX4_leaveAct 26 = .ok (.return_, 1) := by decide +kernel
theorem dX4_rebateAct_0 : decode cX4_rebateAct 0 = .ok (.aload_n 0, 1) := by decide +kernel
theorem dX4_rebateAct_1 : decode cX4_rebateAct 1 = .ok (.getfield 9, 3) := by decide +kernel
theorem dX4_rebateAct_4 : decode cX4_rebateAct 4 = .ok (.getfield 43, 3) := by decide +kernel
theorem dX4_rebateAct_7 : decode cX4_rebateAct 7 = .ok (.iconst 0, 1) := by decide +kernel
theorem dX4_rebateAct_8 : decode cX4_rebateAct 8 = .ok (.dup2, 1) := by decide +kernel
theorem dX4_rebateAct_9 : decode cX4_rebateAct 9 = .ok (.iaload, 1) := by decide +kernel
theorem dX4_rebateAct_10 : decode cX4_rebateAct 10 = .ok (.iconst 1, 1) := by decide +kernel
theorem dX4_rebateAct_11 : decode cX4_rebateAct 11 = .ok (.iadd, 1) := by decide +kernel
theorem dX4_rebateAct_12 : decode cX4_rebateAct 12 = .ok (.iastore, 1) := by decide +kernel
theorem dX4_rebateAct_13 : decode cX4_rebateAct 13 = .ok (.aload_n 0, 1) := by decide +kernel
theorem dX4_rebateAct_14 : decode cX4_rebateAct 14 = .ok (.getfield 25, 3) := by decide +kernel
theorem dX4_rebateAct_17 : decode cX4_rebateAct 17 = .ok (.ireturn, 1) := by decide +kernel
theorem dX4_hasAccount_0 : decode cX4_hasAccount 0 = .ok (.iconst 0, 1) := by decide +kernel
theorem dX4_hasAccount_1 : decode cX4_hasAccount 1 = .ok (.ireturn, 1) := by decide +kernel
theorem dX4_billOf_0 : decode cX4_billOf 0 = .ok (.aload_n 0, 1) := by decide +kernel
theorem dX4_billOf_1 : decode cX4_billOf 1 = .ok (.iload_n 1, 1) := by decide +kernel
theorem dX4_billOf_2 : decode cX4_billOf 2 = .ok (.invokevirtual 78, 3) := by decide +kernel
theorem dX4_billOf_5 : decode cX4_billOf 5 = .ok (.istore_n 2, 1) := by decide +kernel
theorem dX4_billOf_6 : decode cX4_billOf 6 = .ok (.iload_n 2, 1) := by decide +kernel
theorem dX4_billOf_7 : decode cX4_billOf 7 = .ok (.iload_n 2, 1) := by decide +kernel
theorem dX4_billOf_8 : decode cX4_billOf 8 = .ok (.aload_n 0, 1) := by decide +kernel
theorem dX4_billOf_9 : decode cX4_billOf 9 = .ok (.invokevirtual 89, 3) := by decide +kernel
theorem dX4_billOf_12 : decode cX4_billOf 12 = .ok (.imul, 1) := by decide +kernel
theorem dX4_billOf_13 : decode cX4_billOf 13 = .ok (.bipush 100, 2) := by decide +kernel
theorem dX4_billOf_15 : decode cX4_billOf 15 = .ok (.idiv, 1) := by decide +kernel
theorem dX4_billOf_16 : decode cX4_billOf 16 = .ok (.isub, 1) := by decide +kernel
theorem dX4_billOf_17 : decode cX4_billOf 17 = .ok (.ireturn, 1) := by decide +kernel
theorem dX4_monthOf_0 : decode cX4_monthOf 0 = .ok (.bipush 20, 2) := by decide +kernel
theorem dX4_monthOf_2 : decode cX4_monthOf 2 = .ok (.iload_n 1, 1) := by decide +kernel
theorem dX4_monthOf_3 : decode cX4_monthOf 3 = .ok (.imul, 1) := by decide +kernel
theorem dX4_monthOf_4 : decode cX4_monthOf 4 = .ok (.aload_n 0, 1) := by decide +kernel
theorem dX4_monthOf_5 : decode cX4_monthOf 5 = .ok (.bipush 12, 2) := by decide +kernel
theorem dX4_monthOf_7 : decode cX4_monthOf 7 = .ok (.invokevirtual 92, 3) := by decide +kernel
theorem dX4_monthOf_10 : decode cX4_monthOf 10 = .ok (.iadd, 1) := by decide +kernel
theorem dX4_monthOf_11 : decode cX4_monthOf 11 = .ok (.ireturn, 1) := by decide +kernel
theorem dX5_init_0 : decode cX5_init 0 = .ok (.aload_n 0, 1) := by decide +kernel
theorem dX5_init_1 : decode cX5_init 1 = .ok (.aload_n 1, 1) := by decide +kernel
theorem dX5_init_2 : decode cX5_init 2 = .ok (.iload_n 2, 1) := by decide +kernel
theorem dX5_init_3 : decode cX5_init 3 = .ok (.iload_n 3, 1) := by decide +kernel
theorem dX5_init_4 : decode cX5_init 4 = .ok (.iload 4, 2) := by decide +kernel
theorem dX5_init_6 : decode cX5_init 6 = .ok (.iload 5, 2) := by decide +kernel
theorem dX5_init_8 : decode cX5_init 8 = .ok (.iload 6, 2) := by decide +kernel
theorem dX5_init_10 : decode cX5_init 10 = .ok (.invokespecial 3, 3) := by decide +kernel
theorem dX5_init_13 : decode cX5_init 13 = .ok (.return_, 1) := by decide +kernel
theorem dX5_tollAct_0 : decode cX5_tollAct 0 = .ok (.aload_n 0, 1) := by decide +kernel
theorem dX5_tollAct_1 : decode cX5_tollAct 1 = .ok (.getfield 9, 3) := by decide +kernel
theorem dX5_tollAct_4 : decode cX5_tollAct 4 = .ok (.getfield 15, 3) := by decide +kernel
theorem dX5_tollAct_7 : decode cX5_tollAct 7 = .ok (.bipush 8, 2) := by decide +kernel
theorem dX5_tollAct_9 : decode cX5_tollAct 9 = .ok (.dup2, 1) := by decide +kernel
theorem dX5_tollAct_10 : decode cX5_tollAct 10 = .ok (.iaload, 1) := by decide +kernel
theorem dX5_tollAct_11 : decode cX5_tollAct 11 = .ok (.iconst 1, 1) := by decide +kernel
theorem dX5_tollAct_12 : decode cX5_tollAct 12 = .ok (.iadd, 1) := by decide +kernel
theorem dX5_tollAct_13 : decode cX5_tollAct 13 = .ok (.iastore, 1) := by decide +kernel
theorem dX5_tollAct_14 : decode cX5_tollAct 14 = .ok (.aload_n 0, 1) := by decide +kernel
theorem dX5_tollAct_15 : decode cX5_tollAct 15 = .ok (.getfield 21, 3) := by decide +kernel
theorem dX5_tollAct_18 : decode cX5_tollAct 18 = .ok (.ifCond .ne 26, 3) := by decide +kernel
theorem dX5_tollAct_21 : decode cX5_tollAct 21 = .ok (.aload_n 0, 1) := by decide +kernel
theorem dX5_tollAct_22 : decode cX5_tollAct 22 = .ok (.getfield 9, 3) := by decide +kernel
theorem dX5_tollAct_25 : decode cX5_tollAct 25 = .ok (.dup, 1) := by decide +kernel
theorem dX5_tollAct_26 : decode cX5_tollAct 26 = .ok (.getfield 25, 3) := by decide +kernel
theorem dX5_tollAct_29 : decode cX5_tollAct 29 = .ok (.iconst 1, 1) := by decide +kernel
theorem dX5_tollAct_30 : decode cX5_tollAct 30 = .ok (.iadd, 1) := by decide +kernel
theorem dX5_tollAct_31 : decode cX5_tollAct 31 = .ok (.putfield 25, 3) := by decide +kernel
theorem dX5_tollAct_34 : decode cX5_tollAct 34 = .ok (.new 28, 3) := by decide +kernel
theorem dX5_tollAct_37 : decode cX5_tollAct 37 = .ok (.dup, 1) := by decide +kernel
theorem dX5_tollAct_38 : decode cX5_tollAct 38 = .ok (.ldc 30, 2) := by decide +kernel
theorem dX5_tollAct_40 : decode cX5_tollAct 40 = .ok (.invokespecial 32, 3) := by decide +kernel
theorem dX5_tollAct_43 : decode cX5_tollAct 43 = .ok (.athrow, 1) := by decide +kernel
theorem dX5_tollAct_44 : decode cX5_tollAct 44 = .ok (.bipush 100, 2) := by decide +kernel
theorem dX5_tollAct_46 : decode cX5_tollAct 46 = .ok (.aload_n 0, 1) := by decide +kernel
theorem dX5_tollAct_47 : decode cX5_tollAct 47 = .ok (.getfield 21, 3) := by decide +kernel
theorem dX5_tollAct_50 : decode cX5_tollAct 50 = .ok (.idiv, 1) := by decide +kernel
theorem dX5_tollAct_51 : decode cX5_tollAct 51 = .ok (.ireturn, 1) := by decide +kernel
theorem dX5_fitAct_0 : decode cX5_fitAct 0 = .ok (.aload_n 0, 1) := by decide +kernel
theorem dX5_fitAct_1 : decode cX5_fitAct 1 = .ok (.getfield 9, 3) := by decide +kernel
theorem dX5_fitAct_4 : decode cX5_fitAct 4 = .ok (.getfield 15, 3) := by decide +kernel
theorem dX5_fitAct_7 : decode cX5_fitAct 7 = .ok (.bipush 8, 2) := by decide +kernel
theorem dX5_fitAct_9 : decode cX5_fitAct 9 = .ok (.dup2, 1) := by decide +kernel
theorem dX5_fitAct_10 : decode cX5_fitAct 10 = .ok (.iaload, 1) := by decide +kernel
theorem dX5_fitAct_11 : decode cX5_fitAct 11 = .ok (.iconst 1, 1) := by decide +kernel
theorem dX5_fitAct_12 : decode cX5_fitAct 12 = .ok (.iadd, 1) := by decide +kernel
theorem dX5_fitAct_13 : decode cX5_fitAct 13 = .ok (.iastore, 1) := by decide +kernel
theorem dX5_fitAct_14 : decode cX5_fitAct 14 = .ok (.aload_n 0, 1) := by decide +kernel
theorem dX5_fitAct_15 : decode cX5_fitAct 15 = .ok (.getfield 9, 3) := by decide +kernel
theorem dX5_fitAct_18 : decode cX5_fitAct 18 = .ok (.getfield 35, 3) := by decide +kernel
theorem dX5_fitAct_21 : decode cX5_fitAct 21 = .ok (.ireturn, 1) := by decide +kernel
theorem dX5_enterAct_0 : decode cX5_enterAct 0 = .ok (.aload_n 0, 1) := by decide +kernel
theorem dX5_enterAct_1 : decode cX5_enterAct 1 = .ok (.getfield 9, 3) := by decide +kernel
theorem dX5_enterAct_4 : decode cX5_enterAct 4 = .ok (.getfield 15, 3) := by decide +kernel
theorem dX5_enterAct_7 : decode cX5_enterAct 7 = .ok (.bipush 8, 2) := by decide +kernel
theorem dX5_enterAct_9 : decode cX5_enterAct 9 = .ok (.dup2, 1) := by decide +kernel
theorem dX5_enterAct_10 : decode cX5_enterAct 10 = .ok (.iaload, 1) := by decide +kernel
theorem dX5_enterAct_11 : decode cX5_enterAct 11 = .ok (.iconst 1, 1) := by decide +kernel
theorem dX5_enterAct_12 : decode cX5_enterAct 12 = .ok (.iadd, 1) := by decide +kernel
theorem dX5_enterAct_13 : decode cX5_enterAct 13 = .ok (.iastore, 1) := by decide +kernel
theorem dX5_enterAct_14 : decode cX5_enterAct 14 = .ok (.iconst 0, 1) := by decide +kernel
theorem dX5_enterAct_15 : decode cX5_enterAct 15 = .ok (.istore_n 2, 1) := by decide +kernel
theorem dX5_enterAct_16 : decode cX5_enterAct 16 = .ok (.aload_n 0, 1) := by decide +kernel
theorem dX5_enterAct_17 : decode cX5_enterAct 17 = .ok (.iload_n 1, 1) := by decide +kernel
theorem dX5_enterAct_18 : decode cX5_enterAct 18 = .ok (.invokespecial 39, 3) := by decide +kernel
theorem dX5_enterAct_21 : decode cX5_enterAct 21 = .ok (.goto 6, 3) := by decide +kernel
theorem dX5_enterAct_24 : decode cX5_enterAct 24 = .ok (.astore_n 3, 1) := by decide +kernel
theorem dX5_enterAct_25 : decode cX5_enterAct 25 = .ok (.iconst 1, 1) := by decide +kernel
theorem dX5_enterAct_26 : decode cX5_enterAct 26 = .ok (.istore_n 2, 1) := by decide +kernel
theorem dX5_enterAct_27 : decode cX5_enterAct 27 = .ok (.iload_n 2, 1) := by decide +kernel
theorem dX5_enterAct_28 : decode cX5_enterAct 28 = .ok (.ifCond .eq 8, 3) := by decide +kernel
theorem dX5_enterAct_31 : decode cX5_enterAct 31 = .ok (.aload_n 0, 1) := by decide +kernel
theorem dX5_enterAct_32 : decode cX5_enterAct 32 = .ok (.iload_n 1, 1) := by decide +kernel
theorem dX5_enterAct_33 : decode cX5_enterAct 33 = .ok (.invokespecial 39, 3) := by decide +kernel
theorem dX5_enterAct_36 : decode cX5_enterAct 36 = .ok (.return_, 1) := by decide +kernel
theorem dX6_init_0 : decode cX6_init 0 = .ok (.aload_n 0, 1) := by decide +kernel
theorem dX6_init_1 : decode cX6_init 1 = .ok (.aload_n 1, 1) := by decide +kernel
theorem dX6_init_2 : decode cX6_init 2 = .ok (.iload_n 2, 1) := by decide +kernel
theorem dX6_init_3 : decode cX6_init 3 = .ok (.iload_n 3, 1) := by decide +kernel
theorem dX6_init_4 : decode cX6_init 4 = .ok (.iload 4, 2) := by decide +kernel
theorem dX6_init_6 : decode cX6_init 6 = .ok (.iload 5, 2) := by decide +kernel
theorem dX6_init_8 : decode cX6_init 8 = .ok (.iload 6, 2) := by decide +kernel
theorem dX6_init_10 : decode cX6_init 10 = .ok (.invokespecial 3, 3) := by decide +kernel
theorem dX6_init_13 : decode cX6_init 13 = .ok (.return_, 1) := by decide +kernel
theorem dX6_weightAct_0 : decode cX6_weightAct 0 = .ok (.aload_n 0, 1) := by decide +kernel
theorem dX6_weightAct_1 : decode cX6_weightAct 1 = .ok (.getfield 9, 3) := by decide +kernel
theorem dX6_weightAct_4 : decode cX6_weightAct 4 = .ok (.getfield 15, 3) := by decide +kernel
theorem dX6_weightAct_7 : decode cX6_weightAct 7 = .ok (.bipush 7, 2) := by decide +kernel
theorem dX6_weightAct_9 : decode cX6_weightAct 9 = .ok (.dup2, 1) := by decide +kernel
theorem dX6_weightAct_10 : decode cX6_weightAct 10 = .ok (.iaload, 1) := by decide +kernel
theorem dX6_weightAct_11 : decode cX6_weightAct 11 = .ok (.iconst 1, 1) := by decide +kernel
theorem dX6_weightAct_12 : decode cX6_weightAct 12 = .ok (.iadd, 1) := by decide +kernel
theorem dX6_weightAct_13 : decode cX6_weightAct 13 = .ok (.iastore, 1) := by decide +kernel
theorem dX6_weightAct_14 : decode cX6_weightAct 14 = .ok (.aload_n 0, 1) := by decide +kernel
theorem dX6_weightAct_15 : decode cX6_weightAct 15 = .ok (.invokespecial 21, 3) := by decide +kernel
theorem dX6_weightAct_18 : decode cX6_weightAct 18 = .ok (.bipush 10, 2) := by decide +kernel
theorem dX6_weightAct_20 : decode cX6_weightAct 20 = .ok (.isub, 1) := by decide +kernel
theorem dX6_weightAct_21 : decode cX6_weightAct 21 = .ok (.ireturn, 1) := by decide +kernel
theorem dX6_tollAct_0 : decode cX6_tollAct 0 = .ok (.aload_n 0, 1) := by decide +kernel
theorem dX6_tollAct_1 : decode cX6_tollAct 1 = .ok (.getfield 9, 3) := by decide +kernel
theorem dX6_tollAct_4 : decode cX6_tollAct 4 = .ok (.getfield 15, 3) := by decide +kernel
theorem dX6_tollAct_7 : decode cX6_tollAct 7 = .ok (.bipush 7, 2) := by decide +kernel
theorem dX6_tollAct_9 : decode cX6_tollAct 9 = .ok (.dup2, 1) := by decide +kernel
theorem dX6_tollAct_10 : decode cX6_tollAct 10 = .ok (.iaload, 1) := by decide +kernel
theorem dX6_tollAct_11 : decode cX6_tollAct 11 = .ok (.iconst 1, 1) := by decide +kernel
theorem dX6_tollAct_12 : decode cX6_tollAct 12 = .ok (.iadd, 1) := by decide +kernel
theorem dX6_tollAct_13 : decode cX6_tollAct 13 = .ok (.iastore, 1) := by decide +kernel
theorem dX6_tollAct_14 : decode cX6_tollAct 14 = .ok (.iload_n 1, 1) := by decide +kernel
theorem dX6_tollAct_15 : decode cX6_tollAct 15 = .ok (.bipush 22, 2) := by decide +kernel
theorem dX6_tollAct_17 : decode cX6_tollAct 17 = .ok (.if_icmp .ge 8, 3) := by decide +kernel
theorem dX6_tollAct_20 : decode cX6_tollAct 20 = .ok (.iload_n 1, 1) := by decide +kernel
theorem dX6_tollAct_21 : decode cX6_tollAct 21 = .ok (.iconst 5, 1) := by decide +kernel
theorem dX6_tollAct_22 : decode cX6_tollAct 22 = .ok (.if_icmp .ge 5, 3) := by decide +kernel
theorem dX6_tollAct_25 : decode cX6_tollAct 25 = .ok (.iconst 0, 1) := by decide +kernel
theorem dX6_tollAct_26 : decode cX6_tollAct 26 = .ok (.ireturn, 1) := by decide +kernel
theorem dX6_tollAct_27 : decode cX6_tollAct 27 = .ok (.aload_n 0, 1) := by decide +kernel
theorem dX6_tollAct_28 : decode cX6_tollAct 28 = .ok (.iload_n 1, 1) := by decide +kernel
theorem dX6_tollAct_29 : decode cX6_tollAct 29 = .ok (.invokespecial 25, 3) := by decide +kernel
theorem dX6_tollAct_32 : decode cX6_tollAct 32 = .ok (.ireturn, 1) := by decide +kernel
theorem dX6_fitAct_0 : decode cX6_fitAct 0 = .ok (.aload_n 0, 1) := by decide +kernel
theorem dX6_fitAct_1 : decode cX6_fitAct 1 = .ok (.getfield 9, 3) := by decide +kernel
theorem dX6_fitAct_4 : decode cX6_fitAct 4 = .ok (.getfield 15, 3) := by decide +kernel
theorem dX6_fitAct_7 : decode cX6_fitAct 7 = .ok (.bipush 7, 2) := by decide +kernel
theorem dX6_fitAct_9 : decode cX6_fitAct 9 = .ok (.dup2, 1) := by decide +kernel
theorem dX6_fitAct_10 : decode cX6_fitAct 10 = .ok (.iaload, 1) := by decide +kernel
theorem dX6_fitAct_11 : decode cX6_fitAct 11 = .ok (.iconst 1, 1) := by decide +kernel
theorem dX6_fitAct_12 : decode cX6_fitAct 12 = .ok (.iadd, 1) := by decide +kernel
theorem dX6_fitAct_13 : decode cX6_fitAct 13 = .ok (.iastore, 1) := by decide +kernel
theorem dX6_fitAct_14 : decode cX6_fitAct 14 = .ok (.aload_n 0, 1) := by decide +kernel
theorem dX6_fitAct_15 : decode cX6_fitAct 15 = .ok (.invokespecial 29, 3) := by decide +kernel
theorem dX6_fitAct_18 : decode cX6_fitAct 18 = .ok (.ifCond .eq 17, 3) := by decide +kernel
theorem dX6_fitAct_21 : decode cX6_fitAct 21 = .ok (.aload_n 0, 1) := by decide +kernel
theorem dX6_fitAct_22 : decode cX6_fitAct 22 = .ok (.getfield 9, 3) := by decide +kernel
theorem dX6_fitAct_25 : decode cX6_fitAct 25 = .ok (.invokevirtual 33, 3) := by decide +kernel
theorem dX6_fitAct_28 : decode cX6_fitAct 28 = .ok (.ifCond .ne 7, 3) := by decide +kernel
theorem dX6_fitAct_31 : decode cX6_fitAct 31 = .ok (.iconst 1, 1) := by decide +kernel
theorem dX6_fitAct_32 : decode cX6_fitAct 32 = .ok (.goto 4, 3) := by decide +kernel
theorem dX6_fitAct_35 : decode cX6_fitAct 35 = .ok (.iconst 0, 1) := by decide +kernel
theorem dX6_fitAct_36 : decode cX6_fitAct 36 = .ok (.ireturn, 1) := by decide +kernel
theorem dX6_rebateAct_0 : decode cX6_rebateAct 0 = .ok (.aload_n 0, 1) := by decide +kernel
theorem dX6_rebateAct_1 : decode cX6_rebateAct 1 = .ok (.getfield 9, 3) := by decide +kernel
theorem dX6_rebateAct_4 : decode cX6_rebateAct 4 = .ok (.getfield 15, 3) := by decide +kernel
theorem dX6_rebateAct_7 : decode cX6_rebateAct 7 = .ok (.bipush 7, 2) := by decide +kernel
theorem dX6_rebateAct_9 : decode cX6_rebateAct 9 = .ok (.dup2, 1) := by decide +kernel
theorem dX6_rebateAct_10 : decode cX6_rebateAct 10 = .ok (.iaload, 1) := by decide +kernel
theorem dX6_rebateAct_11 : decode cX6_rebateAct 11 = .ok (.iconst 1, 1) := by decide +kernel
theorem dX6_rebateAct_12 : decode cX6_rebateAct 12 = .ok (.iadd, 1) := by decide +kernel
theorem dX6_rebateAct_13 : decode cX6_rebateAct 13 = .ok (.iastore, 1) := by decide +kernel
theorem dX6_rebateAct_14 : decode cX6_rebateAct 14 = .ok (.iconst 2, 1) := by decide +kernel
theorem dX6_rebateAct_15 : decode cX6_rebateAct 15 = .ok (.aload_n 0, 1) := by decide +kernel
theorem dX6_rebateAct_16 : decode cX6_rebateAct 16 = .ok (.invokespecial 36, 3) := by decide +kernel
theorem dX6_rebateAct_19 : decode cX6_rebateAct 19 = .ok (.imul, 1) := by decide +kernel
theorem dX6_rebateAct_20 : decode cX6_rebateAct 20 = .ok (.bipush 100, 2) := by decide +kernel
theorem dX6_rebateAct_22 : decode cX6_rebateAct 22 = .ok (.invokestatic 39, 3) := by decide +kernel
theorem dX6_rebateAct_25 : decode cX6_rebateAct 25 = .ok (.ireturn, 1) := by decide +kernel
theorem dX6_monthOf_0 : decode cX6_monthOf 0 = .ok (.bipush 15, 2) := by decide +kernel
theorem dX6_monthOf_2 : decode cX6_monthOf 2 = .ok (.iload_n 1, 1) := by decide +kernel
theorem dX6_monthOf_3 : decode cX6_monthOf 3 = .ok (.imul, 1) := by decide +kernel
theorem dX6_monthOf_4 : decode cX6_monthOf 4 = .ok (.aload_n 0, 1) := by decide +kernel
theorem dX6_monthOf_5 : decode cX6_monthOf 5 = .ok (.bipush 23, 2) := by decide +kernel
theorem dX6_monthOf_7 : decode cX6_monthOf 7 = .ok (.invokevirtual 45, 3) := by decide +kernel
theorem dX6_monthOf_10 : decode cX6_monthOf 10 = .ok (.iadd, 1) := by decide +kernel
theorem dX6_monthOf_11 : decode cX6_monthOf 11 = .ok (.ireturn, 1) := by decide +kernel
theorem dX7_init_0 : decode cX7_init 0 = .ok (.aload_n 0, 1) := by decide +kernel
theorem dX7_init_1 : decode cX7_init 1 = .ok (.aload_n 1, 1) := by decide +kernel
theorem dX7_init_2 : decode cX7_init 2 = .ok (.iload_n 2, 1) := by decide +kernel
theorem dX7_init_3 : decode cX7_init 3 = .ok (.iload_n 3, 1) := by decide +kernel
theorem dX7_init_4 : decode cX7_init 4 = .ok (.iload 4, 2) := by decide +kernel
theorem dX7_init_6 : decode cX7_init 6 = .ok (.iload 5, 2) := by decide +kernel
theorem dX7_init_8 : decode cX7_init 8 = .ok (.iload 6, 2) := by decide +kernel
theorem dX7_init_10 : decode cX7_init 10 = .ok (.invokespecial 3, 3) := by decide +kernel
theorem dX7_init_13 : decode cX7_init 13 = .ok (.return_, 1) := by decide +kernel
theorem dX7_weightAct_0 : decode cX7_weightAct 0 = .ok (.aload_n 0, 1) := by decide +kernel
theorem dX7_weightAct_1 : decode cX7_weightAct 1 = .ok (.getfield 9, 3) := by decide +kernel
theorem dX7_weightAct_4 : decode cX7_weightAct 4 = .ok (.getfield 15, 3) := by decide +kernel
theorem dX7_weightAct_7 : decode cX7_weightAct 7 = .ok (.iconst 4, 1) := by decide +kernel
theorem dX7_weightAct_8 : decode cX7_weightAct 8 = .ok (.dup2, 1) := by decide +kernel
theorem dX7_weightAct_9 : decode cX7_weightAct 9 = .ok (.iaload, 1) := by decide +kernel
theorem dX7_weightAct_10 : decode cX7_weightAct 10 = .ok (.iconst 1, 1) := by decide +kernel
theorem dX7_weightAct_11 : decode cX7_weightAct 11 = .ok (.iadd, 1) := by decide +kernel
theorem dX7_weightAct_12 : decode cX7_weightAct 12 = .ok (.iastore, 1) := by decide +kernel
theorem dX7_weightAct_13 : decode cX7_weightAct 13 = .ok (.aload_n 0, 1) := by decide +kernel
theorem dX7_weightAct_14 : decode cX7_weightAct 14 = .ok (.invokespecial 21, 3) := by decide +kernel
theorem dX7_weightAct_17 : decode cX7_weightAct 17 = .ok (.aload_n 0, 1) := by decide +kernel
theorem dX7_weightAct_18 : decode cX7_weightAct 18 = .ok (.getfield 25, 3) := by decide +kernel
theorem dX7_weightAct_21 : decode cX7_weightAct 21 = .ok (.iadd, 1) := by decide +kernel
theorem dX7_weightAct_22 : decode cX7_weightAct 22 = .ok (.ireturn, 1) := by decide +kernel
theorem dX7_leaveAct_0 : decode cX7_leaveAct 0 = .ok (.aload_n 0, 1) := by decide +kernel
theorem dX7_leaveAct_1 : decode cX7_leaveAct 1 = .ok (.getfield 9, 3) := by decide +kernel
theorem dX7_leaveAct_4 : decode cX7_leaveAct 4 = .ok (.getfield 15, 3) := by decide +kernel
theorem dX7_leaveAct_7 : decode cX7_leaveAct 7 = .ok (.iconst 4, 1) := by decide +kernel
theorem dX7_leaveAct_8 : decode cX7_leaveAct 8 = .ok (.dup2, 1) := by decide +kernel
theorem dX7_leaveAct_9 : decode cX7_leaveAct 9 = .ok (.iaload, 1) := by decide +kernel
theorem dX7_leaveAct_10 : decode cX7_leaveAct 10 = .ok (.iconst 1, 1) := by decide +kernel
theorem dX7_leaveAct_11 : decode cX7_leaveAct 11 = .ok (.iadd, 1) := by decide +kernel
theorem dX7_leaveAct_12 : decode cX7_leaveAct 12 = .ok (.iastore, 1) := by decide +kernel
theorem dX7_leaveAct_13 : decode cX7_leaveAct 13 = .ok (.aload_n 0, 1) := by decide +kernel
theorem dX7_leaveAct_14 : decode cX7_leaveAct 14 = .ok (.invokespecial 29, 3) := by decide +kernel
theorem dX7_leaveAct_17 : decode cX7_leaveAct 17 = .ok (.aload_n 0, 1) := by decide +kernel
theorem dX7_leaveAct_18 : decode cX7_leaveAct 18 = .ok (.aload_n 0, 1) := by decide +kernel
theorem dX7_leaveAct_19 : decode cX7_leaveAct 19 = .ok (.getfield 25, 3) := by decide +kernel
theorem dX7_leaveAct_22 : decode cX7_leaveAct 22 = .ok (.iconst 2, 1) := by decide +kernel
theorem dX7_leaveAct_23 : decode cX7_leaveAct 23 = .ok (.idiv, 1) := by decide +kernel
theorem dX7_leaveAct_24 : decode cX7_leaveAct 24 = .ok (.putfield 25, 3) := by decide +kernel
theorem dX7_leaveAct_27 : decode cX7_leaveAct 27 = .ok (.return_, 1) := by decide +kernel
theorem dX8_init_0 : decode cX8_init 0 = .ok (.aload_n 0, 1) := by decide +kernel
theorem dX8_init_1 : decode cX8_init 1 = .ok (.aload_n 1, 1) := by decide +kernel
theorem dX8_init_2 : decode cX8_init 2 = .ok (.iload_n 2, 1) := by decide +kernel
theorem dX8_init_3 : decode cX8_init 3 = .ok (.iload_n 3, 1) := by decide +kernel
theorem dX8_init_4 : decode cX8_init 4 = .ok (.iload 4, 2) := by decide +kernel
theorem dX8_init_6 : decode cX8_init 6 = .ok (.iload 5, 2) := by decide +kernel
theorem dX8_init_8 : decode cX8_init 8 = .ok (.iload 6, 2) := by decide +kernel
theorem dX8_init_10 : decode cX8_init 10 = .ok (.invokespecial 3, 3) := by decide +kernel
theorem dX8_init_13 : decode cX8_init 13 = .ok (.return_, 1) := by decide +kernel
theorem dX8_weightAct_0 : decode cX8_weightAct 0 = .ok (.aload_n 0, 1) := by decide +kernel
theorem dX8_weightAct_1 : decode cX8_weightAct 1 = .ok (.getfield 9, 3) := by decide +kernel
theorem dX8_weightAct_4 : decode cX8_weightAct 4 = .ok (.getfield 15, 3) := by decide +kernel
theorem dX8_weightAct_7 : decode cX8_weightAct 7 = .ok (.iconst 5, 1) := by decide +kernel
theorem dX8_weightAct_8 : decode cX8_weightAct 8 = .ok (.dup2, 1) := by decide +kernel
theorem dX8_weightAct_9 : decode cX8_weightAct 9 = .ok (.iaload, 1) := by decide +kernel
theorem dX8_weightAct_10 : decode cX8_weightAct 10 = .ok (.iconst 1, 1) := by decide +kernel
theorem dX8_weightAct_11 : decode cX8_weightAct 11 = .ok (.iadd, 1) := by decide +kernel
theorem dX8_weightAct_12 : decode cX8_weightAct 12 = .ok (.iastore, 1) := by decide +kernel
theorem dX8_weightAct_13 : decode cX8_weightAct 13 = .ok (.aload_n 0, 1) := by decide +kernel
theorem dX8_weightAct_14 : decode cX8_weightAct 14 = .ok (.invokespecial 21, 3) := by decide +kernel
theorem dX8_weightAct_17 : decode cX8_weightAct 17 = .ok (.aload_n 0, 1) := by decide +kernel
theorem dX8_weightAct_18 : decode cX8_weightAct 18 = .ok (.getfield 25, 3) := by decide +kernel
theorem dX8_weightAct_21 : decode cX8_weightAct 21 = .ok (.iconst 4, 1) := by decide +kernel
theorem dX8_weightAct_22 : decode cX8_weightAct 22 = .ok (.idiv, 1) := by decide +kernel
theorem dX8_weightAct_23 : decode cX8_weightAct 23 = .ok (.iadd, 1) := by decide +kernel
theorem dX8_weightAct_24 : decode cX8_weightAct 24 = .ok (.ireturn, 1) := by decide +kernel
theorem dX8_tollAct_0 : decode cX8_tollAct 0 = .ok (.aload_n 0, 1) := by decide +kernel
theorem dX8_tollAct_1 : decode cX8_tollAct 1 = .ok (.getfield 9, 3) := by decide +kernel
theorem dX8_tollAct_4 : decode cX8_tollAct 4 = .ok (.getfield 15, 3) := by decide +kernel
theorem dX8_tollAct_7 : decode cX8_tollAct 7 = .ok (.iconst 5, 1) := by decide +kernel
theorem dX8_tollAct_8 : decode cX8_tollAct 8 = .ok (.dup2, 1) := by decide +kernel
theorem dX8_tollAct_9 : decode cX8_tollAct 9 = .ok (.iaload, 1) := by decide +kernel
theorem dX8_tollAct_10 : decode cX8_tollAct 10 = .ok (.iconst 1, 1) := by decide +kernel
theorem dX8_tollAct_11 : decode cX8_tollAct 11 = .ok (.iadd, 1) := by decide +kernel
theorem dX8_tollAct_12 : decode cX8_tollAct 12 = .ok (.iastore, 1) := by decide +kernel
theorem dX8_tollAct_13 : decode cX8_tollAct 13 = .ok (.aload_n 0, 1) := by decide +kernel
theorem dX8_tollAct_14 : decode cX8_tollAct 14 = .ok (.iload_n 1, 1) := by decide +kernel
theorem dX8_tollAct_15 : decode cX8_tollAct 15 = .ok (.invokespecial 29, 3) := by decide +kernel
theorem dX8_tollAct_18 : decode cX8_tollAct 18 = .ok (.bipush 50, 2) := by decide +kernel
theorem dX8_tollAct_20 : decode cX8_tollAct 20 = .ok (.iadd, 1) := by decide +kernel
theorem dX8_tollAct_21 : decode cX8_tollAct 21 = .ok (.ireturn, 1) := by decide +kernel
theorem dX8_fitAct_0 : decode cX8_fitAct 0 = .ok (.aload_n 0, 1) := by decide +kernel
theorem dX8_fitAct_1 : decode cX8_fitAct 1 = .ok (.getfield 9, 3) := by decide +kernel
theorem dX8_fitAct_4 : decode cX8_fitAct 4 = .ok (.getfield 15, 3) := by decide +kernel
theorem dX8_fitAct_7 : decode cX8_fitAct 7 = .ok (.iconst 5, 1) := by decide +kernel
theorem dX8_fitAct_8 : decode cX8_fitAct 8 = .ok (.dup2, 1) := by decide +kernel
theorem dX8_fitAct_9 : decode cX8_fitAct 9 = .ok (.iaload, 1) := by decide +kernel
theorem dX8_fitAct_10 : decode cX8_fitAct 10 = .ok (.iconst 1, 1) := by decide +kernel
theorem dX8_fitAct_11 : decode cX8_fitAct 11 = .ok (.iadd, 1) := by decide +kernel
theorem dX8_fitAct_12 : decode cX8_fitAct 12 = .ok (.iastore, 1) := by decide +kernel
theorem dX8_fitAct_13 : decode cX8_fitAct 13 = .ok (.aload_n 0, 1) := by decide +kernel
theorem dX8_fitAct_14 : decode cX8_fitAct 14 = .ok (.invokespecial 33, 3) := by decide +kernel
theorem dX8_fitAct_17 : decode cX8_fitAct 17 = .ok (.ifCond .eq 17, 3) := by decide +kernel
theorem dX8_fitAct_20 : decode cX8_fitAct 20 = .ok (.aload_n 0, 1) := by decide +kernel
theorem dX8_fitAct_21 : decode cX8_fitAct 21 = .ok (.getfield 9, 3) := by decide +kernel
theorem dX8_fitAct_24 : decode cX8_fitAct 24 = .ok (.getfield 37, 3) := by decide +kernel
theorem dX8_fitAct_27 : decode cX8_fitAct 27 = .ok (.ifCond .ne 7, 3) := by decide +kernel
theorem dX8_fitAct_30 : decode cX8_fitAct 30 = .ok (.iconst 1, 1) := by decide +kernel
theorem dX8_fitAct_31 : decode cX8_fitAct 31 = .ok (.goto 4, 3) := by decide +kernel
theorem dX8_fitAct_34 : decode cX8_fitAct 34 = .ok (.iconst 0, 1) := by decide +kernel
theorem dX8_fitAct_35 : decode cX8_fitAct 35 = .ok (.ireturn, 1) := by decide +kernel
theorem dX8_enterAct_0 : decode cX8_enterAct 0 = .ok (.aload_n 0, 1) := by decide +kernel
theorem dX8_enterAct_1 : decode cX8_enterAct 1 = .ok (.getfield 9, 3) := by decide +kernel
theorem dX8_enterAct_4 : decode cX8_enterAct 4 = .ok (.getfield 15, 3) := by decide +kernel
theorem dX8_enterAct_7 : decode cX8_enterAct 7 = .ok (.iconst 5, 1) := by decide +kernel
theorem dX8_enterAct_8 : decode cX8_enterAct 8 = .ok (.dup2, 1) := by decide +kernel
theorem dX8_enterAct_9 : decode cX8_enterAct 9 = .ok (.iaload, 1) := by decide +kernel
theorem dX8_enterAct_10 : decode cX8_enterAct 10 = .ok (.iconst 1, 1) := by decide +kernel
theorem dX8_enterAct_11 : decode cX8_enterAct 11 = .ok (.iadd, 1) := by decide +kernel
theorem dX8_enterAct_12 : decode cX8_enterAct 12 = .ok (.iastore, 1) := by decide +kernel
theorem dX8_enterAct_13 : decode cX8_enterAct 13 = .ok (.aload_n 0, 1) := by decide +kernel
theorem dX8_enterAct_14 : decode cX8_enterAct 14 = .ok (.iload_n 1, 1) := by decide +kernel
theorem dX8_enterAct_15 : decode cX8_enterAct 15 = .ok (.invokespecial 40, 3) := by decide +kernel
theorem dX8_enterAct_18 : decode cX8_enterAct 18 = .ok (.aload_n 0, 1) := by decide +kernel
theorem dX8_enterAct_19 : decode cX8_enterAct 19 = .ok (.getfield 9, 3) := by decide +kernel
theorem dX8_enterAct_22 : decode cX8_enterAct 22 = .ok (.aload_n 0, 1) := by decide +kernel
theorem dX8_enterAct_23 : decode cX8_enterAct 23 = .ok (.getfield 9, 3) := by decide +kernel
theorem dX8_enterAct_26 : decode cX8_enterAct 26 = .ok (.getfield 44, 3) := by decide +kernel
theorem dX8_enterAct_29 : decode cX8_enterAct 29 = .ok (.bipush 100, 2) := by decide +kernel
theorem dX8_enterAct_31 : decode cX8_enterAct 31 = .ok (.isub, 1) := by decide +kernel
theorem dX8_enterAct_32 : decode cX8_enterAct 32 = .ok (.iconst 0, 1) := by decide +kernel
theorem dX8_enterAct_33 : decode cX8_enterAct 33 = .ok (.invokestatic 47, 3) := by decide +kernel
theorem dX8_enterAct_36 : decode cX8_enterAct 36 = .ok (.putfield 44, 3) := by decide +kernel
theorem dX8_enterAct_39 : decode cX8_enterAct 39 = .ok (.return_, 1) := by decide +kernel
theorem dX8_leaveAct_0 : decode cX8_leaveAct 0 = .ok (.aload_n 0, 1) := by decide +kernel
theorem dX8_leaveAct_1 : decode cX8_leaveAct 1 = .ok (.getfield 9, 3) := by decide +kernel
theorem dX8_leaveAct_4 : decode cX8_leaveAct 4 = .ok (.getfield 15, 3) := by decide +kernel
theorem dX8_leaveAct_7 : decode cX8_leaveAct 7 = .ok (.iconst 5, 1) := by decide +kernel
theorem dX8_leaveAct_8 : decode cX8_leaveAct 8 = .ok (.dup2, 1) := by decide +kernel
theorem dX8_leaveAct_9 : decode cX8_leaveAct 9 = .ok (.iaload, 1) := by decide +kernel
theorem dX8_leaveAct_10 : decode cX8_leaveAct 10 = .ok (.iconst 1, 1) := by decide +kernel
theorem dX8_leaveAct_11 : decode cX8_leaveAct 11 = .ok (.iadd, 1) := by decide +kernel
theorem dX8_leaveAct_12 : decode cX8_leaveAct 12 = .ok (.iastore, 1) := by decide +kernel
theorem dX8_leaveAct_13 : decode cX8_leaveAct 13 = .ok (.aload_n 0, 1) := by decide +kernel
theorem dX8_leaveAct_14 : decode cX8_leaveAct 14 = .ok (.invokespecial 53, 3) := by decide +kernel
theorem dX8_leaveAct_17 : decode cX8_leaveAct 17 = .ok (.aload_n 0, 1) := by decide +kernel
theorem dX8_leaveAct_18 : decode cX8_leaveAct 18 = .ok (.getfield 9, 3) := by decide +kernel
theorem dX8_leaveAct_21 : decode cX8_leaveAct 21 = .ok (.aload_n 0, 1) := by decide +kernel
theorem dX8_leaveAct_22 : decode cX8_leaveAct 22 = .ok (.getfield 9, 3) := by decide +kernel
theorem dX8_leaveAct_25 : decode cX8_leaveAct 25 = .ok (.getfield 44, 3) := by decide +kernel
theorem dX8_leaveAct_28 : decode cX8_leaveAct 28 = .ok (.bipush 100, 2) := by decide +kernel
theorem dX8_leaveAct_30 : decode cX8_leaveAct 30 = .ok (.iadd, 1) := by decide +kernel
theorem dX8_leaveAct_31 : decode cX8_leaveAct 31 = .ok (.sipush 9000, 3) := by decide +kernel
theorem dX8_leaveAct_34 : decode cX8_leaveAct 34 = .ok (.invokestatic 57, 3) := by decide +kernel
theorem dX8_leaveAct_37 : decode cX8_leaveAct 37 = .ok (.putfield 44, 3) := by decide +kernel
theorem dX8_leaveAct_40 : decode cX8_leaveAct 40 = .ok (.return_, 1) := by decide +kernel
theorem dX9_init_0 : decode cX9_init 0 = .ok (.aload_n 0, 1) := by decide +kernel
theorem dX9_init_1 : decode cX9_init 1 = .ok (.aload_n 1, 1) := by decide +kernel
theorem dX9_init_2 : decode cX9_init 2 = .ok (.iload_n 2, 1) := by decide +kernel
theorem dX9_init_3 : decode cX9_init 3 = .ok (.iload_n 3, 1) := by decide +kernel
theorem dX9_init_4 : decode cX9_init 4 = .ok (.iload 4, 2) := by decide +kernel
theorem dX9_init_6 : decode cX9_init 6 = .ok (.iload 5, 2) := by decide +kernel
theorem dX9_init_8 : decode cX9_init 8 = .ok (.iload 6, 2) := by decide +kernel
theorem dX9_init_10 : decode cX9_init 10 = .ok (.invokespecial 1, 3) := by decide +kernel
theorem dX9_init_13 : decode cX9_init 13 = .ok (.return_, 1) := by decide +kernel
theorem dX10_init_0 : decode cX10_init 0 = .ok (.aload_n 0, 1) := by decide +kernel
theorem dX10_init_1 : decode cX10_init 1 = .ok (.invokespecial 1, 3) := by decide +kernel
theorem dX10_init_4 : decode cX10_init 4 = .ok (.aload_n 0, 1) := by decide +kernel
theorem dX10_init_5 : decode cX10_init 5 = .ok (.new 7, 3) := by decide +kernel
theorem dX10_init_8 : decode cX10_init 8 = .ok (.dup, 1) := by decide +kernel
theorem dX10_init_9 : decode cX10_init 9 = .ok (.invokespecial 9, 3) := by decide +kernel
theorem dX10_init_12 : decode cX10_init 12 = .ok (.putfield 10, 3) := by decide +kernel
theorem dX10_init_15 : decode cX10_init 15 = .ok (.aload_n 0, 1) := by decide +kernel
theorem dX10_init_16 : decode cX10_init 16 = .ok (.bipush 24, 2) := by decide +kernel
theorem dX10_init_18 : decode cX10_init 18 = .ok (.anewarray 16, 3) := by decide +kernel
theorem dX10_init_21 : decode cX10_init 21 = .ok (.putfield 18, 3) := by decide +kernel
theorem dX10_init_24 : decode cX10_init 24 = .ok (.aload_n 0, 1) := by decide +kernel
theorem dX10_init_25 : decode cX10_init 25 = .ok (.iconst 0, 1) := by decide +kernel
theorem dX10_init_26 : decode cX10_init 26 = .ok (.putfield 22, 3) := by decide +kernel
theorem dX10_init_29 : decode cX10_init 29 = .ok (.return_, 1) := by decide +kernel
theorem dX10_add_0 : decode cX10_add 0 = .ok (.iload_n 1, 1) := by decide +kernel
theorem dX10_add_1 : decode cX10_add 1 = .ok (.iconst 0, 1) := by decide +kernel
theorem dX10_add_2 : decode cX10_add 2 = .ok (.bipush 8, 2) := by decide +kernel
theorem dX10_add_4 : decode cX10_add 4 = .ok (.invokestatic 26, 3) := by decide +kernel
theorem dX10_add_7 : decode cX10_add 7 = .ok (.ifCond .ne 14, 3) := by decide +kernel
theorem dX10_add_10 : decode cX10_add 10 = .ok (.iload_n 2, 1) := by decide +kernel
theorem dX10_add_11 : decode cX10_add 11 = .ok (.iconst 1, 1) := by decide +kernel
theorem dX10_add_12 : decode cX10_add 12 = .ok (.sipush 5000, 3) := by decide +kernel
theorem dX10_add_15 : decode cX10_add 15 = .ok (.invokestatic 26, 3) := by decide +kernel
theorem dX10_add_18 : decode cX10_add 18 = .ok (.ifCond .eq 6, 3) := by decide +kernel
theorem dX10_add_21 : decode cX10_add 21 = .ok (.bipush (-102), 2) := by decide +kernel
theorem dX10_add_23 : decode cX10_add 23 = .ok (.ireturn, 1) := by decide +kernel
theorem dX10_add_24 : decode cX10_add 24 = .ok (.iload_n 3, 1) := by decide +kernel
theorem dX10_add_25 : decode cX10_add 25 = .ok (.iconst 0, 1) := by decide +kernel
theorem dX10_add_26 : decode cX10_add 26 = .ok (.sipush 5000, 3) := by decide +kernel
theorem dX10_add_29 : decode cX10_add 29 = .ok (.invokestatic 26, 3) := by decide +kernel
theorem dX10_add_32 : decode cX10_add 32 = .ok (.ifCond .ne 14, 3) := by decide +kernel
theorem dX10_add_35 : decode cX10_add 35 = .ok (.iload 4, 2) := by decide +kernel
theorem dX10_add_37 : decode cX10_add 37 = .ok (.iconst 0, 1) := by decide +kernel
theorem dX10_add_38 : decode cX10_add 38 = .ok (.bipush 100, 2) := by decide +kernel
theorem dX10_add_40 : decode cX10_add 40 = .ok (.invokestatic 26, 3) := by decide +kernel
theorem dX10_add_43 : decode cX10_add 43 = .ok (.ifCond .eq 6, 3) := by decide +kernel
theorem dX10_add_46 : decode cX10_add 46 = .ok (.bipush (-102), 2) := by decide +kernel
theorem dX10_add_48 : decode cX10_add 48 = .ok (.ireturn, 1) := by decide +kernel
theorem dX10_add_49 : decode cX10_add 49 = .ok (.aload_n 0, 1) := by decide +kernel
theorem dX10_add_50 : decode cX10_add 50 = .ok (.getfield 22, 3) := by decide +kernel
theorem dX10_add_53 : decode cX10_add 53 = .ok (.istore 5, 2) := by decide +kernel
theorem dX10_add_55 : decode cX10_add 55 = .ok (.iload 5, 2) := by decide +kernel
theorem dX10_add_57 : decode cX10_add 57 = .ok (.ifCond .lt 13, 3) := by decide +kernel
theorem dX10_add_60 : decode cX10_add 60 = .ok (.iload 5, 2) := by decide +kernel
theorem dX10_add_62 : decode cX10_add 62 = .ok (.aload_n 0, 1) := by decide +kernel
theorem dX10_add_63 : decode cX10_add 63 = .ok (.getfield 18, 3) := by decide +kernel
theorem dX10_add_66 : decode cX10_add 66 = .ok (.arraylength, 1) := by decide +kernel
theorem dX10_add_67 : decode cX10_add 67 = .ok (.if_icmp .lt 6, 3) := by decide +kernel
theorem dX10_add_70 : decode cX10_add 70 = .ok (.bipush (-104), 2) := by decide +kernel
theorem dX10_add_72 : decode cX10_add 72 = .ok (.ireturn, 1) := by decide +kernel
theorem dX10_add_73 : decode cX10_add 73 = .ok (.aload_n 0, 1) := by decide +kernel
theorem dX10_add_74 : decode cX10_add 74 = .ok (.getfield 18, 3) := by decide +kernel
theorem dX10_add_77 : decode cX10_add 77 = .ok (.iload 5, 2) := by decide +kernel
theorem dX10_add_79 : decode cX10_add 79 = .ok (.aload_n 0, 1) := by decide +kernel
theorem dX10_add_80 : decode cX10_add 80 = .ok (.iload 5, 2) := by decide +kernel
theorem dX10_add_82 : decode cX10_add 82 = .ok (.iload_n 1, 1) := by decide +kernel
theorem dX10_add_83 : decode cX10_add 83 = .ok (.iload_n 2, 1) := by decide +kernel
theorem dX10_add_84 : decode cX10_add 84 = .ok (.iload_n 3, 1) := by decide +kernel
theorem dX10_add_85 : decode cX10_add 85 = .ok (.iload 4, 2) := by decide +kernel
theorem dX10_add_87 : decode cX10_add 87 = .ok (.invokevirtual 30, 3) := by decide +kernel
theorem dX10_add_90 : decode cX10_add 90 = .ok (.aastore, 1) := by decide +kernel
theorem dX10_add_91 : decode cX10_add 91 = .ok (.aload_n 0, 1) := by decide +kernel
theorem dX10_add_92 : decode cX10_add 92 = .ok (.iload 5, 2) := by decide +kernel
theorem dX10_add_94 : decode cX10_add 94 = .ok (.iconst 1, 1) := by decide +kernel
theorem dX10_add_95 : decode cX10_add 95 = .ok (.iadd, 1) := by decide +kernel
theorem dX10_add_96 : decode cX10_add 96 = .ok (.putfield 22, 3) := by decide +kernel
theorem dX10_add_99 : decode cX10_add 99 = .ok (.iload 5, 2) := by decide +kernel
theorem dX10_add_101 : decode cX10_add 101 = .ok (.ireturn, 1) := by decide +kernel
theorem dX10_weight_0 : decode cX10_weight 0 = .ok (.aload_n 0, 1) := by decide +kernel
theorem dX10_weight_1 : decode cX10_weight 1 = .ok (.iload_n 1, 1) := by decide +kernel
theorem dX10_weight_2 : decode cX10_weight 2 = .ok (.invokevirtual 34, 3) := by decide +kernel
theorem dX10_weight_5 : decode cX10_weight 5 = .ok (.astore_n 2, 1) := by decide +kernel
theorem dX10_weight_6 : decode cX10_weight 6 = .ok (.aload_n 2, 1) := by decide +kernel
theorem dX10_weight_7 : decode cX10_weight 7 = .ok (.ifnonnull 6, 3) := by decide +kernel
theorem dX10_weight_10 : decode cX10_weight 10 = .ok (.bipush (-101), 2) := by decide +kernel
theorem dX10_weight_12 : decode cX10_weight 12 = .ok (.ireturn, 1) := by decide +kernel
theorem dX10_weight_13 : decode cX10_weight 13 = .ok (.aload_n 2, 1) := by decide +kernel
theorem dX10_weight_14 : decode cX10_weight 14 = .ok (.invokevirtual 38, 3) := by decide +kernel
theorem dX10_weight_17 : decode cX10_weight 17 = .ok (.ireturn, 1) := by decide +kernel
theorem dX10_toll_0 : decode cX10_toll 0 = .ok (.aload_n 0, 1) := by decide +kernel
theorem dX10_toll_1 : decode cX10_toll 1 = .ok (.iload_n 1, 1) := by decide +kernel
theorem dX10_toll_2 : decode cX10_toll 2 = .ok (.invokevirtual 34, 3) := by decide +kernel
theorem dX10_toll_5 : decode cX10_toll 5 = .ok (.astore_n 3, 1) := by decide +kernel
theorem dX10_toll_6 : decode cX10_toll 6 = .ok (.aload_n 3, 1) := by decide +kernel
theorem dX10_toll_7 : decode cX10_toll 7 = .ok (.ifnonnull 6, 3) := by decide +kernel
theorem dX10_toll_10 : decode cX10_toll 10 = .ok (.bipush (-101), 2) := by decide +kernel
theorem dX10_toll_12 : decode cX10_toll 12 = .ok (.ireturn, 1) := by decide +kernel
theorem dX10_toll_13 : decode cX10_toll 13 = .ok (.iload_n 2, 1) := by decide +kernel
theorem dX10_toll_14 : decode cX10_toll 14 = .ok (.iconst 0, 1) := by decide +kernel
theorem dX10_toll_15 : decode cX10_toll 15 = .ok (.bipush 23, 2) := by decide +kernel
theorem dX10_toll_17 : decode cX10_toll 17 = .ok (.invokestatic 26, 3) := by decide +kernel
theorem dX10_toll_20 : decode cX10_toll 20 = .ok (.ifCond .eq 6, 3) := by decide +kernel
theorem dX10_toll_23 : decode cX10_toll 23 = .ok (.bipush (-102), 2) := by decide +kernel
theorem dX10_toll_25 : decode cX10_toll 25 = .ok (.ireturn, 1) := by decide +kernel
theorem dX10_toll_26 : decode cX10_toll 26 = .ok (.aload_n 3, 1) := by decide +kernel
theorem dX10_toll_27 : decode cX10_toll 27 = .ok (.iload_n 2, 1) := by decide +kernel
theorem dX10_toll_28 : decode cX10_toll 28 = .ok (.invokevirtual 42, 3) := by decide +kernel
theorem dX10_toll_31 : decode cX10_toll 31 = .ok (.ireturn, 1) := by decide +kernel
theorem dX10_fits_0 : decode cX10_fits 0 = .ok (.aload_n 0, 1) := by decide +kernel
theorem dX10_fits_1 : decode cX10_fits 1 = .ok (.iload_n 1, 1) := by decide +kernel
theorem dX10_fits_2 : decode cX10_fits 2 = .ok (.invokevirtual 34, 3) := by decide +kernel
theorem dX10_fits_5 : decode cX10_fits 5 = .ok (.astore_n 2, 1) := by decide +kernel
theorem dX10_fits_6 : decode cX10_fits 6 = .ok (.aload_n 2, 1) := by decide +kernel
theorem dX10_fits_7 : decode cX10_fits 7 = .ok (.ifnonnull 6, 3) := by decide +kernel
theorem dX10_fits_10 : decode cX10_fits 10 = .ok (.bipush (-101), 2) := by decide +kernel
theorem dX10_fits_12 : decode cX10_fits 12 = .ok (.ireturn, 1) := by decide +kernel
theorem dX10_fits_13 : decode cX10_fits 13 = .ok (.aload_n 2, 1) := by decide +kernel
theorem dX10_fits_14 : decode cX10_fits 14 = .ok (.invokevirtual 46, 3) := by decide +kernel
theorem dX10_fits_17 : decode cX10_fits 17 = .ok (.ifCond .eq 7, 3) := by decide +kernel
theorem dX10_fits_20 : decode cX10_fits 20 = .ok (.iconst 1, 1) := by decide +kernel
theorem dX10_fits_21 : decode cX10_fits 21 = .ok (.goto 4, 3) := by decide +kernel
theorem dX10_fits_24 : decode cX10_fits 24 = .ok (.iconst 0, 1) := by decide +kernel
theorem dX10_fits_25 : decode cX10_fits 25 = .ok (.ireturn, 1) := by decide +kernel
theorem dX10_enter_0 : decode cX10_enter 0 = .ok (.aload_n 0, 1) := by decide +kernel
theorem dX10_enter_1 : decode cX10_enter 1 = .ok (.iload_n 1, 1) := by decide +kernel
theorem dX10_enter_2 : decode cX10_enter 2 = .ok (.invokevirtual 34, 3) := by decide +kernel
theorem dX10_enter_5 : decode cX10_enter 5 = .ok (.astore_n 3, 1) := by decide +kernel
theorem dX10_enter_6 : decode cX10_enter 6 = .ok (.aload_n 3, 1) := by decide +kernel
theorem dX10_enter_7 : decode cX10_enter 7 = .ok (.ifnonnull 6, 3) := by decide +kernel
theorem dX10_enter_10 : decode cX10_enter 10 = .ok (.bipush (-101), 2) := by decide +kernel
theorem dX10_enter_12 : decode cX10_enter 12 = .ok (.ireturn, 1) := by decide +kernel
theorem dX10_enter_13 : decode cX10_enter 13 = .ok (.iload_n 2, 1) := by decide +kernel
theorem dX10_enter_14 : decode cX10_enter 14 = .ok (.iconst 0, 1) := by decide +kernel
theorem dX10_enter_15 : decode cX10_enter 15 = .ok (.bipush 23, 2) := by decide +kernel
theorem dX10_enter_17 : decode cX10_enter 17 = .ok (.invokestatic 26, 3) := by decide +kernel
theorem dX10_enter_20 : decode cX10_enter 20 = .ok (.ifCond .eq 6, 3) := by decide +kernel
theorem dX10_enter_23 : decode cX10_enter 23 = .ok (.bipush (-102), 2) := by decide +kernel
theorem dX10_enter_25 : decode cX10_enter 25 = .ok (.ireturn, 1) := by decide +kernel
theorem dX10_enter_26 : decode cX10_enter 26 = .ok (.aload_n 3, 1) := by decide +kernel
theorem dX10_enter_27 : decode cX10_enter 27 = .ok (.getfield 50, 3) := by decide +kernel
theorem dX10_enter_30 : decode cX10_enter 30 = .ok (.iconst 1, 1) := by decide +kernel
theorem dX10_enter_31 : decode cX10_enter 31 = .ok (.if_icmp .ne 6, 3) := by decide +kernel
theorem dX10_enter_34 : decode cX10_enter 34 = .ok (.bipush (-103), 2) := by decide +kernel
theorem dX10_enter_36 : decode cX10_enter 36 = .ok (.ireturn, 1) := by decide +kernel
theorem dX10_enter_37 : decode cX10_enter 37 = .ok (.aload_n 3, 1) := by decide +kernel
theorem dX10_enter_38 : decode cX10_enter 38 = .ok (.iload_n 2, 1) := by decide +kernel
theorem dX10_enter_39 : decode cX10_enter 39 = .ok (.invokevirtual 53, 3) := by decide +kernel
theorem dX10_enter_42 : decode cX10_enter 42 = .ok (.aload_n 3, 1) := by decide +kernel
theorem dX10_enter_43 : decode cX10_enter 43 = .ok (.getfield 57, 3) := by decide +kernel
theorem dX10_enter_46 : decode cX10_enter 46 = .ok (.ireturn, 1) := by decide +kernel
theorem dX10_leave_0 : decode cX10_leave 0 = .ok (.aload_n 0, 1) := by decide +kernel
theorem dX10_leave_1 : decode cX10_leave 1 = .ok (.iload_n 1, 1) := by decide +kernel
theorem dX10_leave_2 : decode cX10_leave 2 = .ok (.invokevirtual 34, 3) := by decide +kernel
theorem dX10_leave_5 : decode cX10_leave 5 = .ok (.astore_n 2, 1) := by decide +kernel
theorem dX10_leave_6 : decode cX10_leave 6 = .ok (.aload_n 2, 1) := by decide +kernel
theorem dX10_leave_7 : decode cX10_leave 7 = .ok (.ifnonnull 6, 3) := by decide +kernel
theorem dX10_leave_10 : decode cX10_leave 10 = .ok (.bipush (-101), 2) := by decide +kernel
theorem dX10_leave_12 : decode cX10_leave 12 = .ok (.ireturn, 1) := by decide +kernel
theorem dX10_leave_13 : decode cX10_leave 13 = .ok (.aload_n 2, 1) := by decide +kernel
theorem dX10_leave_14 : decode cX10_leave 14 = .ok (.getfield 50, 3) := by decide +kernel
theorem dX10_leave_17 : decode cX10_leave 17 = .ok (.ifCond .ne 6, 3) := by decide +kernel
theorem dX10_leave_20 : decode cX10_leave 20 = .ok (.bipush (-103), 2) := by decide +kernel
theorem dX10_leave_22 : decode cX10_leave 22 = .ok (.ireturn, 1) := by decide +kernel
theorem dX10_leave_23 : decode cX10_leave 23 = .ok (.aload_n 2, 1) := by decide +kernel
theorem dX10_leave_24 : decode cX10_leave 24 = .ok (.invokevirtual 60, 3) := by decide +kernel
theorem dX10_leave_27 : decode cX10_leave 27 = .ok (.aload_n 0, 1) := by decide +kernel
theorem dX10_leave_28 : decode cX10_leave 28 = .ok (.getfield 10, 3) := by decide +kernel
theorem dX10_leave_31 : decode cX10_leave 31 = .ok (.getfield 63, 3) := by decide +kernel
theorem dX10_leave_34 : decode cX10_leave 34 = .ok (.ireturn, 1) := by decide +kernel
theorem dX10_rebate_0 : decode cX10_rebate 0 = .ok (.aload_n 0, 1) := by decide +kernel
theorem dX10_rebate_1 : decode cX10_rebate 1 = .ok (.iload_n 1, 1) := by decide +kernel
theorem dX10_rebate_2 : decode cX10_rebate 2 = .ok (.invokevirtual 34, 3) := by decide +kernel
theorem dX10_rebate_5 : decode cX10_rebate 5 = .ok (.astore_n 2, 1) := by decide +kernel
theorem dX10_rebate_6 : decode cX10_rebate 6 = .ok (.aload_n 2, 1) := by decide +kernel
theorem dX10_rebate_7 : decode cX10_rebate 7 = .ok (.ifnonnull 6, 3) := by decide +kernel
theorem dX10_rebate_10 : decode cX10_rebate 10 = .ok (.bipush (-101), 2) := by decide +kernel
theorem dX10_rebate_12 : decode cX10_rebate 12 = .ok (.ireturn, 1) := by decide +kernel
theorem dX10_rebate_13 : decode cX10_rebate 13 = .ok (.aload_n 2, 1) := by decide +kernel
theorem dX10_rebate_14 : decode cX10_rebate 14 = .ok (.invokevirtual 66, 3) := by decide +kernel
theorem dX10_rebate_17 : decode cX10_rebate 17 = .ok (.ireturn, 1) := by decide +kernel
theorem dX10_bill_0 : decode cX10_bill 0 = .ok (.aload_n 0, 1) := by decide +kernel
theorem dX10_bill_1 : decode cX10_bill 1 = .ok (.iload_n 1, 1) := by decide +kernel
theorem dX10_bill_2 : decode cX10_bill 2 = .ok (.invokevirtual 34, 3) := by decide +kernel
theorem dX10_bill_5 : decode cX10_bill 5 = .ok (.astore_n 3, 1) := by decide +kernel
theorem dX10_bill_6 : decode cX10_bill 6 = .ok (.aload_n 3, 1) := by decide +kernel
theorem dX10_bill_7 : decode cX10_bill 7 = .ok (.ifnonnull 6, 3) := by decide +kernel
theorem dX10_bill_10 : decode cX10_bill 10 = .ok (.bipush (-101), 2) := by decide +kernel
theorem dX10_bill_12 : decode cX10_bill 12 = .ok (.ireturn, 1) := by decide +kernel
theorem dX10_bill_13 : decode cX10_bill 13 = .ok (.iload_n 2, 1) := by decide +kernel
theorem dX10_bill_14 : decode cX10_bill 14 = .ok (.iconst 0, 1) := by decide +kernel
theorem dX10_bill_15 : decode cX10_bill 15 = .ok (.bipush 23, 2) := by decide +kernel
theorem dX10_bill_17 : decode cX10_bill 17 = .ok (.invokestatic 26, 3) := by decide +kernel
theorem dX10_bill_20 : decode cX10_bill 20 = .ok (.ifCond .eq 6, 3) := by decide +kernel
theorem dX10_bill_23 : decode cX10_bill 23 = .ok (.bipush (-102), 2) := by decide +kernel
theorem dX10_bill_25 : decode cX10_bill 25 = .ok (.ireturn, 1) := by decide +kernel
theorem dX10_bill_26 : decode cX10_bill 26 = .ok (.aload_n 3, 1) := by decide +kernel
theorem dX10_bill_27 : decode cX10_bill 27 = .ok (.invokevirtual 69, 3) := by decide +kernel
theorem dX10_bill_30 : decode cX10_bill 30 = .ok (.ifCond .ne 6, 3) := by decide +kernel
theorem dX10_bill_33 : decode cX10_bill 33 = .ok (.bipush (-103), 2) := by decide +kernel
theorem dX10_bill_35 : decode cX10_bill 35 = .ok (.ireturn, 1) := by decide +kernel
theorem dX10_bill_36 : decode cX10_bill 36 = .ok (.aload_n 3, 1) := by decide +kernel
theorem dX10_bill_37 : decode cX10_bill 37 = .ok (.iload_n 2, 1) := by decide +kernel
theorem dX10_bill_38 : decode cX10_bill 38 = .ok (.invokevirtual 72, 3) := by decide +kernel
theorem dX10_bill_41 : decode cX10_bill 41 = .ok (.ireturn, 1) := by decide +kernel
theorem dX10_month_0 : decode cX10_month 0 = .ok (.aload_n 0, 1) := by decide +kernel
theorem dX10_month_1 : decode cX10_month 1 = .ok (.iload_n 1, 1) := by decide +kernel
theorem dX10_month_2 : decode cX10_month 2 = .ok (.invokevirtual 34, 3) := by decide +kernel
theorem dX10_month_5 : decode cX10_month 5 = .ok (.astore_n 3, 1) := by decide +kernel
theorem dX10_month_6 : decode cX10_month 6 = .ok (.aload_n 3, 1) := by decide +kernel
theorem dX10_month_7 : decode cX10_month 7 = .ok (.ifnonnull 6, 3) := by decide +kernel
theorem dX10_month_10 : decode cX10_month 10 = .ok (.bipush (-101), 2) := by decide +kernel
theorem dX10_month_12 : decode cX10_month 12 = .ok (.ireturn, 1) := by decide +kernel
theorem dX10_month_13 : decode cX10_month 13 = .ok (.iload_n 2, 1) := by decide +kernel
theorem dX10_month_14 : decode cX10_month 14 = .ok (.iconst 0, 1) := by decide +kernel
theorem dX10_month_15 : decode cX10_month 15 = .ok (.bipush 31, 2) := by decide +kernel
theorem dX10_month_17 : decode cX10_month 17 = .ok (.invokestatic 26, 3) := by decide +kernel
theorem dX10_month_20 : decode cX10_month 20 = .ok (.ifCond .eq 6, 3) := by decide +kernel
theorem dX10_month_23 : decode cX10_month 23 = .ok (.bipush (-102), 2) := by decide +kernel
theorem dX10_month_25 : decode cX10_month 25 = .ok (.ireturn, 1) := by decide +kernel
theorem dX10_month_26 : decode cX10_month 26 = .ok (.aload_n 3, 1) := by decide +kernel
theorem dX10_month_27 : decode cX10_month 27 = .ok (.invokevirtual 69, 3) := by decide +kernel
theorem dX10_month_30 : decode cX10_month 30 = .ok (.ifCond .ne 6, 3) := by decide +kernel
theorem dX10_month_33 : decode cX10_month 33 = .ok (.bipush (-103), 2) := by decide +kernel
theorem dX10_month_35 : decode cX10_month 35 = .ok (.ireturn, 1) := by decide +kernel
theorem dX10_month_36 : decode cX10_month 36 = .ok (.aload_n 3, 1) := by decide +kernel
theorem dX10_month_37 : decode cX10_month 37 = .ok (.iload_n 2, 1) := by decide +kernel
theorem dX10_month_38 : decode cX10_month 38 = .ok (.invokevirtual 75, 3) := by decide +kernel
theorem dX10_month_41 : decode cX10_month 41 = .ok (.ireturn, 1) := by decide +kernel
theorem dX10_swing_0 : decode cX10_swing 0 = .ok (.iload_n 1, 1) := by decide +kernel
theorem dX10_swing_1 : decode cX10_swing 1 = .ok (.ifCond .eq 16, 3) := by decide +kernel
theorem dX10_swing_4 : decode cX10_swing 4 = .ok (.aload_n 0, 1) := by decide +kernel
theorem dX10_swing_5 : decode cX10_swing 5 = .ok (.getfield 10, 3) := by decide +kernel
theorem dX10_swing_8 : decode cX10_swing 8 = .ok (.getfield 63, 3) := by decide +kernel
theorem dX10_swing_11 : decode cX10_swing 11 = .ok (.ifCond .le 6, 3) := by decide +kernel
theorem dX10_swing_14 : decode cX10_swing 14 = .ok (.bipush (-103), 2) := by decide +kernel
theorem dX10_swing_16 : decode cX10_swing 16 = .ok (.ireturn, 1) := by decide +kernel
theorem dX10_swing_17 : decode cX10_swing 17 = .ok (.iload_n 1, 1) := by decide +kernel
theorem dX10_swing_18 : decode cX10_swing 18 = .ok (.aload_n 0, 1) := by decide +kernel
theorem dX10_swing_19 : decode cX10_swing 19 = .ok (.getfield 10, 3) := by decide +kernel
theorem dX10_swing_22 : decode cX10_swing 22 = .ok (.getfield 78, 3) := by decide +kernel
theorem dX10_swing_25 : decode cX10_swing 25 = .ok (.if_icmp .ne 7, 3) := by decide +kernel
theorem dX10_swing_28 : decode cX10_swing 28 = .ok (.iconst 1, 1) := by decide +kernel
theorem dX10_swing_29 : decode cX10_swing 29 = .ok (.goto 4, 3) := by decide +kernel
theorem dX10_swing_32 : decode cX10_swing 32 = .ok (.iconst 0, 1) := by decide +kernel
theorem dX10_swing_33 : decode cX10_swing 33 = .ok (.istore_n 2, 1) := by decide +kernel
theorem dX10_swing_34 : decode cX10_swing 34 = .ok (.aload_n 0, 1) := by decide +kernel
theorem dX10_swing_35 : decode cX10_swing 35 = .ok (.getfield 10, 3) := by decide +kernel
theorem dX10_swing_38 : decode cX10_swing 38 = .ok (.iload_n 1, 1) := by decide +kernel
theorem dX10_swing_39 : decode cX10_swing 39 = .ok (.ifCond .ne 7, 3) := by decide +kernel
theorem dX10_swing_42 : decode cX10_swing 42 = .ok (.iconst 1, 1) := by decide +kernel
theorem dX10_swing_43 : decode cX10_swing 43 = .ok (.goto 4, 3) := by decide +kernel
theorem dX10_swing_46 : decode cX10_swing 46 = .ok (.iconst 0, 1) := by decide +kernel
theorem dX10_swing_47 : decode cX10_swing 47 = .ok (.putfield 78, 3) := by decide +kernel
theorem dX10_swing_50 : decode cX10_swing 50 = .ok (.iload_n 2, 1) := by decide +kernel
theorem dX10_swing_51 : decode cX10_swing 51 = .ok (.ifCond .eq 7, 3) := by decide +kernel
theorem dX10_swing_54 : decode cX10_swing 54 = .ok (.iconst 1, 1) := by decide +kernel
theorem dX10_swing_55 : decode cX10_swing 55 = .ok (.goto 4, 3) := by decide +kernel
theorem dX10_swing_58 : decode cX10_swing 58 = .ok (.iconst 0, 1) := by decide +kernel
theorem dX10_swing_59 : decode cX10_swing 59 = .ok (.ireturn, 1) := by decide +kernel
theorem dX10_rush_0 : decode cX10_rush 0 = .ok (.iload_n 1, 1) := by decide +kernel
theorem dX10_rush_1 : decode cX10_rush 1 = .ok (.iconst 0, 1) := by decide +kernel
theorem dX10_rush_2 : decode cX10_rush 2 = .ok (.bipush 23, 2) := by decide +kernel
theorem dX10_rush_4 : decode cX10_rush 4 = .ok (.invokestatic 26, 3) := by decide +kernel
theorem dX10_rush_7 : decode cX10_rush 7 = .ok (.ifCond .eq 6, 3) := by decide +kernel
theorem dX10_rush_10 : decode cX10_rush 10 = .ok (.bipush (-102), 2) := by decide +kernel
theorem dX10_rush_12 : decode cX10_rush 12 = .ok (.ireturn, 1) := by decide +kernel
theorem dX10_rush_13 : decode cX10_rush 13 = .ok (.iconst 0, 1) := by decide +kernel
theorem dX10_rush_14 : decode cX10_rush 14 = .ok (.istore_n 2, 1) := by decide +kernel
theorem dX10_rush_15 : decode cX10_rush 15 = .ok (.iconst 0, 1) := by decide +kernel
theorem dX10_rush_16 : decode cX10_rush 16 = .ok (.istore_n 3, 1) := by decide +kernel
theorem dX10_rush_17 : decode cX10_rush 17 = .ok (.iload_n 3, 1) := by decide +kernel
theorem dX10_rush_18 : decode cX10_rush 18 = .ok (.aload_n 0, 1) := by decide +kernel
theorem dX10_rush_19 : decode cX10_rush 19 = .ok (.getfield 18, 3) := by decide +kernel
theorem dX10_rush_22 : decode cX10_rush 22 = .ok (.arraylength, 1) := by decide +kernel
theorem dX10_rush_23 : decode cX10_rush 23 = .ok (.if_icmp .ge 49, 3) := by decide +kernel
theorem dX10_rush_26 : decode cX10_rush 26 = .ok (.aload_n 0, 1) := by decide +kernel
theorem dX10_rush_27 : decode cX10_rush 27 = .ok (.getfield 18, 3) := by decide +kernel
theorem dX10_rush_30 : decode cX10_rush 30 = .ok (.iload_n 3, 1) := by decide +kernel
theorem dX10_rush_31 : decode cX10_rush 31 = .ok (.aaload, 1) := by decide +kernel
theorem dX10_rush_32 : decode cX10_rush 32 = .ok (.astore 4, 2) := by decide +kernel
theorem dX10_rush_34 : decode cX10_rush 34 = .ok (.aload 4, 2) := by decide +kernel
theorem dX10_rush_36 : decode cX10_rush 36 = .ok (.ifnull 30, 3) := by decide +kernel
theorem dX10_rush_39 : decode cX10_rush 39 = .ok (.aload 4, 2) := by decide +kernel
theorem dX10_rush_41 : decode cX10_rush 41 = .ok (.getfield 50, 3) := by decide +kernel
theorem dX10_rush_44 : decode cX10_rush 44 = .ok (.ifCond .ne 22, 3) := by decide +kernel
theorem dX10_rush_47 : decode cX10_rush 47 = .ok (.aload 4, 2) := by decide +kernel
theorem dX10_rush_49 : decode cX10_rush 49 = .ok (.iload_n 1, 1) := by decide +kernel
theorem dX10_rush_50 : decode cX10_rush 50 = .ok (.invokevirtual 53, 3) := by decide +kernel
theorem dX10_rush_53 : decode cX10_rush 53 = .ok (.iinc 2 1, 3) := by decide +kernel
theorem dX10_rush_56 : decode cX10_rush 56 = .ok (.goto 10, 3) := by decide +kernel
theorem dX10_rush_59 : decode cX10_rush 59 = .ok (.astore 5, 2) := by decide +kernel
theorem dX10_rush_61 : decode cX10_rush 61 = .ok (.goto 5, 3) := by decide +kernel
theorem dX10_rush_64 : decode cX10_rush 64 = .ok (.astore 5, 2) := by decide +kernel
theorem dX10_rush_66 : decode cX10_rush 66 = .ok (.iinc 3 1, 3) := by decide +kernel
theorem dX10_rush_69 : decode cX10_rush 69 = .ok (.goto (-52), 3) := by decide +kernel
theorem dX10_rush_72 : decode cX10_rush 72 = .ok (.iload_n 2, 1) := by decide +kernel
theorem dX10_rush_73 : decode cX10_rush 73 = .ok (.ireturn, 1) := by decide +kernel
theorem dX10_clear_0 : decode cX10_clear 0 = .ok (.aload_n 0, 1) := by decide +kernel
theorem dX10_clear_1 : decode cX10_clear 1 = .ok (.getfield 10, 3) := by decide +kernel
theorem dX10_clear_4 : decode cX10_clear 4 = .ok (.getfield 63, 3) := by decide +kernel
theorem dX10_clear_7 : decode cX10_clear 7 = .ok (.istore_n 1, 1) := by decide +kernel
theorem dX10_clear_8 : decode cX10_clear 8 = .ok (.iconst 0, 1) := by decide +kernel
theorem dX10_clear_9 : decode cX10_clear 9 = .ok (.istore_n 2, 1) := by decide +kernel
theorem dX10_clear_10 : decode cX10_clear 10 = .ok (.iload_n 2, 1) := by decide +kernel
theorem dX10_clear_11 : decode cX10_clear 11 = .ok (.iload_n 1, 1) := by decide +kernel
theorem dX10_clear_12 : decode cX10_clear 12 = .ok (.if_icmp .ge 26, 3) := by decide +kernel
theorem dX10_clear_15 : decode cX10_clear 15 = .ok (.aload_n 0, 1) := by decide +kernel
theorem dX10_clear_16 : decode cX10_clear 16 = .ok (.getfield 10, 3) := by decide +kernel
theorem dX10_clear_19 : decode cX10_clear 19 = .ok (.iconst 0, 1) := by decide +kernel
theorem dX10_clear_20 : decode cX10_clear 20 = .ok (.invokevirtual 86, 3) := by decide +kernel
theorem dX10_clear_23 : decode cX10_clear 23 = .ok (.astore_n 3, 1) := by decide +kernel
theorem dX10_clear_24 : decode cX10_clear 24 = .ok (.aload_n 3, 1) := by decide +kernel
theorem dX10_clear_25 : decode cX10_clear 25 = .ok (.ifnull 7, 3) := by decide +kernel
theorem dX10_clear_28 : decode cX10_clear 28 = .ok (.aload_n 3, 1) := by decide +kernel
theorem dX10_clear_29 : decode cX10_clear 29 = .ok (.invokevirtual 60, 3) := by decide +kernel
theorem dX10_clear_32 : decode cX10_clear 32 = .ok (.iinc 2 1, 3) := by decide +kernel
theorem dX10_clear_35 : decode cX10_clear 35 = .ok (.goto (-25), 3) := by decide +kernel
theorem dX10_clear_38 : decode cX10_clear 38 = .ok (.iload_n 1, 1) := by decide +kernel
theorem dX10_clear_39 : decode cX10_clear 39 = .ok (.ireturn, 1) := by decide +kernel
theorem dX10_tell_0 : decode cX10_tell 0 = .ok (.aload_n 0, 1) := by decide +kernel
theorem dX10_tell_1 : decode cX10_tell 1 = .ok (.iload_n 1, 1) := by decide +kernel
theorem dX10_tell_2 : decode cX10_tell 2 = .ok (.invokevirtual 34, 3) := by decide +kernel
theorem dX10_tell_5 : decode cX10_tell 5 = .ok (.astore_n 3, 1) := by decide +kernel
theorem dX10_tell_6 : decode cX10_tell 6 = .ok (.aload_n 3, 1) := by decide +kernel
theorem dX10_tell_7 : decode cX10_tell 7 = .ok (.ifnonnull 6, 3) := by decide +kernel
theorem dX10_tell_10 : decode cX10_tell 10 = .ok (.bipush (-101), 2) := by decide +kernel
theorem dX10_tell_12 : decode cX10_tell 12 = .ok (.ireturn, 1) := by decide +kernel
theorem dX10_tell_13 : decode cX10_tell 13 = .ok (.iload_n 2, 1) := by decide +kernel
theorem dX10_tell_14 : decode cX10_tell 14 = .ok (.tableswitch 86 0 7 #[46, 51, 56, 61, 66, 71, 76, 81], 46) := by decide +kernel
theorem dX10_tell_60 : decode cX10_tell 60 = .ok (.aload_n 3, 1) := by decide +kernel
theorem dX10_tell_61 : decode cX10_tell 61 = .ok (.getfield 89, 3) := by decide +kernel
theorem dX10_tell_64 : decode cX10_tell 64 = .ok (.ireturn, 1) := by decide +kernel
theorem dX10_tell_65 : decode cX10_tell 65 = .ok (.aload_n 3, 1) := by decide +kernel
theorem dX10_tell_66 : decode cX10_tell 66 = .ok (.getfield 92, 3) := by decide +kernel
theorem dX10_tell_69 : decode cX10_tell 69 = .ok (.ireturn, 1) := by decide +kernel
theorem dX10_tell_70 : decode cX10_tell 70 = .ok (.aload_n 3, 1) := by decide +kernel
theorem dX10_tell_71 : decode cX10_tell 71 = .ok (.getfield 95, 3) := by decide +kernel
theorem dX10_tell_74 : decode cX10_tell 74 = .ok (.ireturn, 1) := by decide +kernel
theorem dX10_tell_75 : decode cX10_tell 75 = .ok (.aload_n 3, 1) := by decide +kernel
theorem dX10_tell_76 : decode cX10_tell 76 = .ok (.getfield 98, 3) := by decide +kernel
theorem dX10_tell_79 : decode cX10_tell 79 = .ok (.ireturn, 1) := by decide +kernel
theorem dX10_tell_80 : decode cX10_tell 80 = .ok (.aload_n 3, 1) := by decide +kernel
theorem dX10_tell_81 : decode cX10_tell 81 = .ok (.getfield 50, 3) := by decide +kernel
theorem dX10_tell_84 : decode cX10_tell 84 = .ok (.ireturn, 1) := by decide +kernel
theorem dX10_tell_85 : decode cX10_tell 85 = .ok (.aload_n 3, 1) := by decide +kernel
theorem dX10_tell_86 : decode cX10_tell 86 = .ok (.getfield 57, 3) := by decide +kernel
theorem dX10_tell_89 : decode cX10_tell 89 = .ok (.ireturn, 1) := by decide +kernel
theorem dX10_tell_90 : decode cX10_tell 90 = .ok (.aload_n 3, 1) := by decide +kernel
theorem dX10_tell_91 : decode cX10_tell 91 = .ok (.getfield 101, 3) := by decide +kernel
theorem dX10_tell_94 : decode cX10_tell 94 = .ok (.ireturn, 1) := by decide +kernel
theorem dX10_tell_95 : decode cX10_tell 95 = .ok (.aload_n 3, 1) := by decide +kernel
theorem dX10_tell_96 : decode cX10_tell 96 = .ok (.getfield 104, 3) := by decide +kernel
theorem dX10_tell_99 : decode cX10_tell 99 = .ok (.ireturn, 1) := by decide +kernel
theorem dX10_tell_100 : decode cX10_tell 100 = .ok (.bipush (-102), 2) := by decide +kernel
theorem dX10_tell_102 : decode cX10_tell 102 = .ok (.ireturn, 1) := by decide +kernel
theorem dX10_deck_0 : decode cX10_deck 0 = .ok (.aload_n 0, 1) := by decide +kernel
theorem dX10_deck_1 : decode cX10_deck 1 = .ok (.getfield 10, 3) := by decide +kernel
theorem dX10_deck_4 : decode cX10_deck 4 = .ok (.iload_n 1, 1) := by decide +kernel
theorem dX10_deck_5 : decode cX10_deck 5 = .ok (.invokevirtual 86, 3) := by decide +kernel
theorem dX10_deck_8 : decode cX10_deck 8 = .ok (.astore_n 2, 1) := by decide +kernel
theorem dX10_deck_9 : decode cX10_deck 9 = .ok (.aload_n 2, 1) := by decide +kernel
theorem dX10_deck_10 : decode cX10_deck 10 = .ok (.ifnonnull 6, 3) := by decide +kernel
theorem dX10_deck_13 : decode cX10_deck 13 = .ok (.bipush (-101), 2) := by decide +kernel
theorem dX10_deck_15 : decode cX10_deck 15 = .ok (.ireturn, 1) := by decide +kernel
theorem dX10_deck_16 : decode cX10_deck 16 = .ok (.aload_n 2, 1) := by decide +kernel
theorem dX10_deck_17 : decode cX10_deck 17 = .ok (.getfield 107, 3) := by decide +kernel
theorem dX10_deck_20 : decode cX10_deck 20 = .ok (.ireturn, 1) := by decide +kernel
theorem dX10_began_0 : decode cX10_began 0 = .ok (.iload_n 1, 1) := by decide +kernel
theorem dX10_began_1 : decode cX10_began 1 = .ok (.ifCond .lt 15, 3) := by decide +kernel
theorem dX10_began_4 : decode cX10_began 4 = .ok (.iload_n 1, 1) := by decide +kernel
theorem dX10_began_5 : decode cX10_began 5 = .ok (.aload_n 0, 1) := by decide +kernel
theorem dX10_began_6 : decode cX10_began 6 = .ok (.getfield 10, 3) := by decide +kernel
theorem dX10_began_9 : decode cX10_began 9 = .ok (.getfield 110, 3) := by decide +kernel
theorem dX10_began_12 : decode cX10_began 12 = .ok (.arraylength, 1) := by decide +kernel
theorem dX10_began_13 : decode cX10_began 13 = .ok (.if_icmp .lt 6, 3) := by decide +kernel
theorem dX10_began_16 : decode cX10_began 16 = .ok (.bipush (-102), 2) := by decide +kernel
theorem dX10_began_18 : decode cX10_began 18 = .ok (.ireturn, 1) := by decide +kernel
theorem dX10_began_19 : decode cX10_began 19 = .ok (.aload_n 0, 1) := by decide +kernel
theorem dX10_began_20 : decode cX10_began 20 = .ok (.getfield 10, 3) := by decide +kernel
theorem dX10_began_23 : decode cX10_began 23 = .ok (.getfield 110, 3) := by decide +kernel
theorem dX10_began_26 : decode cX10_began 26 = .ok (.iload_n 1, 1) := by decide +kernel
theorem dX10_began_27 : decode cX10_began 27 = .ok (.iaload, 1) := by decide +kernel
theorem dX10_began_28 : decode cX10_began 28 = .ok (.ireturn, 1) := by decide +kernel
theorem dX10_count_0 : decode cX10_count 0 = .ok (.iload_n 1, 1) := by decide +kernel
theorem dX10_count_1 : decode cX10_count 1 = .ok (.tableswitch 92 0 5 #[39, 44, 52, 60, 76, 84], 39) := by decide +kernel
theorem dX10_count_40 : decode cX10_count 40 = .ok (.aload_n 0, 1) := by decide +kernel
theorem dX10_count_41 : decode cX10_count 41 = .ok (.getfield 22, 3) := by decide +kernel
theorem dX10_count_44 : decode cX10_count 44 = .ok (.ireturn, 1) := by decide +kernel
theorem dX10_count_45 : decode cX10_count 45 = .ok (.aload_n 0, 1) := by decide +kernel
theorem dX10_count_46 : decode cX10_count 46 = .ok (.getfield 10, 3) := by decide +kernel
theorem dX10_count_49 : decode cX10_count 49 = .ok (.getfield 63, 3) := by decide +kernel
theorem dX10_count_52 : decode cX10_count 52 = .ok (.ireturn, 1) := by decide +kernel
theorem dX10_count_53 : decode cX10_count 53 = .ok (.aload_n 0, 1) := by decide +kernel
theorem dX10_count_54 : decode cX10_count 54 = .ok (.getfield 10, 3) := by decide +kernel
theorem dX10_count_57 : decode cX10_count 57 = .ok (.getfield 114, 3) := by decide +kernel
theorem dX10_count_60 : decode cX10_count 60 = .ok (.ireturn, 1) := by decide +kernel
theorem dX10_count_61 : decode cX10_count 61 = .ok (.aload_n 0, 1) := by decide +kernel
theorem dX10_count_62 : decode cX10_count 62 = .ok (.getfield 10, 3) := by decide +kernel
theorem dX10_count_65 : decode cX10_count 65 = .ok (.getfield 78, 3) := by decide +kernel
theorem dX10_count_68 : decode cX10_count 68 = .ok (.ifCond .eq 7, 3) := by decide +kernel
theorem dX10_count_71 : decode cX10_count 71 = .ok (.iconst 1, 1) := by decide +kernel
theorem dX10_count_72 : decode cX10_count 72 = .ok (.goto 4, 3) := by decide +kernel
theorem dX10_count_75 : decode cX10_count 75 = .ok (.iconst 0, 1) := by decide +kernel
theorem dX10_count_76 : decode cX10_count 76 = .ok (.ireturn, 1) := by decide +kernel
theorem dX10_count_77 : decode cX10_count 77 = .ok (.aload_n 0, 1) := by decide +kernel
theorem dX10_count_78 : decode cX10_count 78 = .ok (.getfield 10, 3) := by decide +kernel
theorem dX10_count_81 : decode cX10_count 81 = .ok (.getfield 117, 3) := by decide +kernel
theorem dX10_count_84 : decode cX10_count 84 = .ok (.ireturn, 1) := by decide +kernel
theorem dX10_count_85 : decode cX10_count 85 = .ok (.aload_n 0, 1) := by decide +kernel
theorem dX10_count_86 : decode cX10_count 86 = .ok (.getfield 10, 3) := by decide +kernel
theorem dX10_count_89 : decode cX10_count 89 = .ok (.getfield 120, 3) := by decide +kernel
theorem dX10_count_92 : decode cX10_count 92 = .ok (.ireturn, 1) := by decide +kernel
theorem dX10_count_93 : decode cX10_count 93 = .ok (.bipush (-102), 2) := by decide +kernel
theorem dX10_count_95 : decode cX10_count 95 = .ok (.ireturn, 1) := by decide +kernel
theorem dX10_isOutside_0 : decode cX10_isOutside 0 = .ok (.iload_n 0, 1) := by decide +kernel
theorem dX10_isOutside_1 : decode cX10_isOutside 1 = .ok (.iload_n 1, 1) := by decide +kernel
theorem dX10_isOutside_2 : decode cX10_isOutside 2 = .ok (.if_icmp .lt 8, 3) := by decide +kernel
theorem dX10_isOutside_5 : decode cX10_isOutside 5 = .ok (.iload_n 0, 1) := by decide +kernel
theorem dX10_isOutside_6 : decode cX10_isOutside 6 = .ok (.iload_n 2, 1) := by decide +kernel
theorem dX10_isOutside_7 : decode cX10_isOutside 7 = .ok (.if_icmp .le 7, 3) := by decide +kernel
theorem dX10_isOutside_10 : decode cX10_isOutside 10 = .ok (.iconst 1, 1) := by decide +kernel
theorem dX10_isOutside_11 : decode cX10_isOutside 11 = .ok (.goto 4, 3) := by decide +kernel
theorem dX10_isOutside_14 : decode cX10_isOutside 14 = .ok (.iconst 0, 1) := by decide +kernel
theorem dX10_isOutside_15 : decode cX10_isOutside 15 = .ok (.ireturn, 1) := by decide +kernel
theorem dX10_find_0 : decode cX10_find 0 = .ok (.iload_n 1, 1) := by decide +kernel
theorem dX10_find_1 : decode cX10_find 1 = .ok (.ifCond .lt 12, 3) := by decide +kernel
theorem dX10_find_4 : decode cX10_find 4 = .ok (.iload_n 1, 1) := by decide +kernel
theorem dX10_find_5 : decode cX10_find 5 = .ok (.aload_n 0, 1) := by decide +kernel
theorem dX10_find_6 : decode cX10_find 6 = .ok (.getfield 18, 3) := by decide +kernel
theorem dX10_find_9 : decode cX10_find 9 = .ok (.arraylength, 1) := by decide +kernel
theorem dX10_find_10 : decode cX10_find 10 = .ok (.if_icmp .lt 5, 3) := by decide +kernel
theorem dX10_find_13 : decode cX10_find 13 = .ok (.aconst_null, 1) := by decide +kernel
theorem dX10_find_14 : decode cX10_find 14 = .ok (.areturn, 1) := by decide +kernel
theorem dX10_find_15 : decode cX10_find 15 = .ok (.aload_n 0, 1) := by decide +kernel
theorem dX10_find_16 : decode cX10_find 16 = .ok (.getfield 18, 3) := by decide +kernel
theorem dX10_find_19 : decode cX10_find 19 = .ok (.iload_n 1, 1) := by decide +kernel
theorem dX10_find_20 : decode cX10_find 20 = .ok (.aaload, 1) := by decide +kernel
theorem dX10_find_21 : decode cX10_find 21 = .ok (.areturn, 1) := by decide +kernel
theorem dX10_make_0 : decode cX10_make 0 = .ok (.iload_n 2, 1) := by decide +kernel
theorem dX10_make_1 : decode cX10_make 1 = .ok (.tableswitch 199 1 8 #[47, 66, 85, 104, 123, 142, 161, 180], 47) := by decide +kernel
theorem dX10_make_48 : decode cX10_make 48 = .ok (.new 123, 3) := by decide +kernel
theorem dX10_make_51 : decode cX10_make 51 = .ok (.dup, 1) := by decide +kernel
theorem dX10_make_52 : decode cX10_make 52 = .ok (.aload_n 0, 1) := by decide +kernel
theorem dX10_make_53 : decode cX10_make 53 = .ok (.getfield 10, 3) := by decide +kernel
theorem dX10_make_56 : decode cX10_make 56 = .ok (.iload_n 1, 1) := by decide +kernel
theorem dX10_make_57 : decode cX10_make 57 = .ok (.iload_n 2, 1) := by decide +kernel
theorem dX10_make_58 : decode cX10_make 58 = .ok (.iload_n 3, 1) := by decide +kernel
theorem dX10_make_59 : decode cX10_make 59 = .ok (.iload 4, 2) := by decide +kernel
theorem dX10_make_61 : decode cX10_make 61 = .ok (.iload 5, 2) := by decide +kernel
theorem dX10_make_63 : decode cX10_make 63 = .ok (.invokespecial 125, 3) := by decide +kernel
theorem dX10_make_66 : decode cX10_make 66 = .ok (.areturn, 1) := by decide +kernel
theorem dX10_make_67 : decode cX10_make 67 = .ok (.new 128, 3) := by decide +kernel
theorem dX10_make_70 : decode cX10_make 70 = .ok (.dup, 1) := by decide +kernel
theorem dX10_make_71 : decode cX10_make 71 = .ok (.aload_n 0, 1) := by decide +kernel
theorem dX10_make_72 : decode cX10_make 72 = .ok (.getfield 10, 3) := by decide +kernel
theorem dX10_make_75 : decode cX10_make 75 = .ok (.iload_n 1, 1) := by decide +kernel
theorem dX10_make_76 : decode cX10_make 76 = .ok (.iload_n 2, 1) := by decide +kernel
theorem dX10_make_77 : decode cX10_make 77 = .ok (.iload_n 3, 1) := by decide +kernel
theorem dX10_make_78 : decode cX10_make 78 = .ok (.iload 4, 2) := by decide +kernel
theorem dX10_make_80 : decode cX10_make 80 = .ok (.iload 5, 2) := by decide +kernel
theorem dX10_make_82 : decode cX10_make 82 = .ok (.invokespecial 130, 3) := by decide +kernel
theorem dX10_make_85 : decode cX10_make 85 = .ok (.areturn, 1) := by decide +kernel
theorem dX10_make_86 : decode cX10_make 86 = .ok (.new 131, 3) := by decide +kernel
theorem dX10_make_89 : decode cX10_make 89 = .ok (.dup, 1) := by decide +kernel
theorem dX10_make_90 : decode cX10_make 90 = .ok (.aload_n 0, 1) := by decide +kernel
theorem dX10_make_91 : decode cX10_make 91 = .ok (.getfield 10, 3) := by decide +kernel
theorem dX10_make_94 : decode cX10_make 94 = .ok (.iload_n 1, 1) := by decide +kernel
theorem dX10_make_95 : decode cX10_make 95 = .ok (.iload_n 2, 1) := by decide +kernel
theorem dX10_make_96 : decode cX10_make 96 = .ok (.iload_n 3, 1) := by decide +kernel
theorem dX10_make_97 : decode cX10_make 97 = .ok (.iload 4, 2) := by decide +kernel
theorem dX10_make_99 : decode cX10_make 99 = .ok (.iload 5, 2) := by decide +kernel
theorem dX10_make_101 : decode cX10_make 101 = .ok (.invokespecial 133, 3) := by decide +kernel
theorem dX10_make_104 : decode cX10_make 104 = .ok (.areturn, 1) := by decide +kernel
theorem dX10_make_105 : decode cX10_make 105 = .ok (.new 134, 3) := by decide +kernel
theorem dX10_make_108 : decode cX10_make 108 = .ok (.dup, 1) := by decide +kernel
theorem dX10_make_109 : decode cX10_make 109 = .ok (.aload_n 0, 1) := by decide +kernel
theorem dX10_make_110 : decode cX10_make 110 = .ok (.getfield 10, 3) := by decide +kernel
theorem dX10_make_113 : decode cX10_make 113 = .ok (.iload_n 1, 1) := by decide +kernel
theorem dX10_make_114 : decode cX10_make 114 = .ok (.iload_n 2, 1) := by decide +kernel
theorem dX10_make_115 : decode cX10_make 115 = .ok (.iload_n 3, 1) := by decide +kernel
theorem dX10_make_116 : decode cX10_make 116 = .ok (.iload 4, 2) := by decide +kernel
theorem dX10_make_118 : decode cX10_make 118 = .ok (.iload 5, 2) := by decide +kernel
theorem dX10_make_120 : decode cX10_make 120 = .ok (.invokespecial 136, 3) := by decide +kernel
theorem dX10_make_123 : decode cX10_make 123 = .ok (.areturn, 1) := by decide +kernel
theorem dX10_make_124 : decode cX10_make 124 = .ok (.new 137, 3) := by decide +kernel
theorem dX10_make_127 : decode cX10_make 127 = .ok (.dup, 1) := by decide +kernel
theorem dX10_make_128 : decode cX10_make 128 = .ok (.aload_n 0, 1) := by decide +kernel
theorem dX10_make_129 : decode cX10_make 129 = .ok (.getfield 10, 3) := by decide +kernel
theorem dX10_make_132 : decode cX10_make 132 = .ok (.iload_n 1, 1) := by decide +kernel
theorem dX10_make_133 : decode cX10_make 133 = .ok (.iload_n 2, 1) := by decide +kernel
theorem dX10_make_134 : decode cX10_make 134 = .ok (.iload_n 3, 1) := by decide +kernel
theorem dX10_make_135 : decode cX10_make 135 = .ok (.iload 4, 2) := by decide +kernel
theorem dX10_make_137 : decode cX10_make 137 = .ok (.iload 5, 2) := by decide +kernel
theorem dX10_make_139 : decode cX10_make 139 = .ok (.invokespecial 139, 3) := by decide +kernel
theorem dX10_make_142 : decode cX10_make 142 = .ok (.areturn, 1) := by decide +kernel
theorem dX10_make_143 : decode cX10_make 143 = .ok (.new 140, 3) := by decide +kernel
theorem dX10_make_146 : decode cX10_make 146 = .ok (.dup, 1) := by decide +kernel
theorem dX10_make_147 : decode cX10_make 147 = .ok (.aload_n 0, 1) := by decide +kernel
theorem dX10_make_148 : decode cX10_make 148 = .ok (.getfield 10, 3) := by decide +kernel
theorem dX10_make_151 : decode cX10_make 151 = .ok (.iload_n 1, 1) := by decide +kernel
theorem dX10_make_152 : decode cX10_make 152 = .ok (.iload_n 2, 1) := by decide +kernel
theorem dX10_make_153 : decode cX10_make 153 = .ok (.iload_n 3, 1) := by decide +kernel
theorem dX10_make_154 : decode cX10_make 154 = .ok (.iload 4, 2) := by decide +kernel
theorem dX10_make_156 : decode cX10_make 156 = .ok (.iload 5, 2) := by decide +kernel
theorem dX10_make_158 : decode cX10_make 158 = .ok (.invokespecial 142, 3) := by decide +kernel
theorem dX10_make_161 : decode cX10_make 161 = .ok (.areturn, 1) := by decide +kernel
theorem dX10_make_162 : decode cX10_make 162 = .ok (.new 143, 3) := by decide +kernel
theorem dX10_make_165 : decode cX10_make 165 = .ok (.dup, 1) := by decide +kernel
theorem dX10_make_166 : decode cX10_make 166 = .ok (.aload_n 0, 1) := by decide +kernel
theorem dX10_make_167 : decode cX10_make 167 = .ok (.getfield 10, 3) := by decide +kernel
theorem dX10_make_170 : decode cX10_make 170 = .ok (.iload_n 1, 1) := by decide +kernel
theorem dX10_make_171 : decode cX10_make 171 = .ok (.iload_n 2, 1) := by decide +kernel
theorem dX10_make_172 : decode cX10_make 172 = .ok (.iload_n 3, 1) := by decide +kernel
theorem dX10_make_173 : decode cX10_make 173 = .ok (.iload 4, 2) := by decide +kernel
theorem dX10_make_175 : decode cX10_make 175 = .ok (.iload 5, 2) := by decide +kernel
theorem dX10_make_177 : decode cX10_make 177 = .ok (.invokespecial 145, 3) := by decide +kernel
theorem dX10_make_180 : decode cX10_make 180 = .ok (.areturn, 1) := by decide +kernel
theorem dX10_make_181 : decode cX10_make 181 = .ok (.new 146, 3) := by decide +kernel
theorem dX10_make_184 : decode cX10_make 184 = .ok (.dup, 1) := by decide +kernel
theorem dX10_make_185 : decode cX10_make 185 = .ok (.aload_n 0, 1) := by decide +kernel
theorem dX10_make_186 : decode cX10_make 186 = .ok (.getfield 10, 3) := by decide +kernel
theorem dX10_make_189 : decode cX10_make 189 = .ok (.iload_n 1, 1) := by decide +kernel
theorem dX10_make_190 : decode cX10_make 190 = .ok (.iload_n 2, 1) := by decide +kernel
theorem dX10_make_191 : decode cX10_make 191 = .ok (.iload_n 3, 1) := by decide +kernel
theorem dX10_make_192 : decode cX10_make 192 = .ok (.iload 4, 2) := by decide +kernel
theorem dX10_make_194 : decode cX10_make 194 = .ok (.iload 5, 2) := by decide +kernel
theorem dX10_make_196 : decode cX10_make 196 = .ok (.invokespecial 148, 3) := by decide +kernel
theorem dX10_make_199 : decode cX10_make 199 = .ok (.areturn, 1) := by decide +kernel
theorem dX10_make_200 : decode cX10_make 200 = .ok (.new 16, 3) := by decide +kernel
theorem dX10_make_203 : decode cX10_make 203 = .ok (.dup, 1) := by decide +kernel
theorem dX10_make_204 : decode cX10_make 204 = .ok (.aload_n 0, 1) := by decide +kernel
theorem dX10_make_205 : decode cX10_make 205 = .ok (.getfield 10, 3) := by decide +kernel
theorem dX10_make_208 : decode cX10_make 208 = .ok (.iload_n 1, 1) := by decide +kernel
theorem dX10_make_209 : decode cX10_make 209 = .ok (.iload_n 2, 1) := by decide +kernel
theorem dX10_make_210 : decode cX10_make 210 = .ok (.iload_n 3, 1) := by decide +kernel
theorem dX10_make_211 : decode cX10_make 211 = .ok (.iload 4, 2) := by decide +kernel
theorem dX10_make_213 : decode cX10_make 213 = .ok (.iload 5, 2) := by decide +kernel
theorem dX10_make_215 : decode cX10_make 215 = .ok (.invokespecial 149, 3) := by decide +kernel
theorem dX10_make_218 : decode cX10_make 218 = .ok (.areturn, 1) := by decide +kernel
theorem dJ9_max_7cf53_0 : decode cJ9_max_7cf53 0 = .ok (.iload_n 0, 1) := by decide +kernel
theorem dJ9_max_7cf53_1 : decode cJ9_max_7cf53 1 = .ok (.iload_n 1, 1) := by decide +kernel
theorem dJ9_max_7cf53_2 : decode cJ9_max_7cf53 2 = .ok (.if_icmp .lt 7, 3) := by decide +kernel
theorem dJ9_max_7cf53_5 : decode cJ9_max_7cf53 5 = .ok (.iload_n 0, 1) := by decide +kernel
theorem dJ9_max_7cf53_6 : decode cJ9_max_7cf53 6 = .ok (.goto 4, 3) := by decide +kernel
theorem dJ9_max_7cf53_9 : decode cJ9_max_7cf53 9 = .ok (.iload_n 1, 1) := by decide +kernel
theorem dJ9_max_7cf53_10 : decode cJ9_max_7cf53 10 = .ok (.ireturn, 1) := by decide +kernel
theorem dJ9_min_7cf53_0 : decode cJ9_min_7cf53 0 = .ok (.iload_n 0, 1) := by decide +kernel
theorem dJ9_min_7cf53_1 : decode cJ9_min_7cf53 1 = .ok (.iload_n 1, 1) := by decide +kernel
theorem dJ9_min_7cf53_2 : decode cJ9_min_7cf53 2 = .ok (.if_icmp .gt 7, 3) := by decide +kernel
theorem dJ9_min_7cf53_5 : decode cJ9_min_7cf53 5 = .ok (.iload_n 0, 1) := by decide +kernel
theorem dJ9_min_7cf53_6 : decode cJ9_min_7cf53 6 = .ok (.goto 4, 3) := by decide +kernel
theorem dJ9_min_7cf53_9 : decode cJ9_min_7cf53 9 = .ok (.iload_n 1, 1) := by decide +kernel
theorem dJ9_min_7cf53_10 : decode cJ9_min_7cf53 10 = .ok (.ireturn, 1) := by decide +kernel
end
section
theorem dX11_init_0 : decode cX11_init 0 = .ok (.aload_n 0, 1) := by decide +kernel
theorem dX11_init_1 : decode cX11_init 1 = .ok (.invokespecial 1, 3) := by decide +kernel
theorem dX11_init_4 : decode cX11_init 4 = .ok (.aload_n 0, 1) := by decide +kernel
theorem dX11_init_5 : decode cX11_init 5 = .ok (.bipush 24, 2) := by decide +kernel
theorem dX11_init_7 : decode cX11_init 7 = .ok (.newarray .int, 2) := by decide +kernel
theorem dX11_init_9 : decode cX11_init 9 = .ok (.putfield 7, 3) := by decide +kernel
theorem dX11_init_12 : decode cX11_init 12 = .ok (.aload_n 0, 1) := by decide +kernel
theorem dX11_init_13 : decode cX11_init 13 = .ok (.bipush 24, 2) := by decide +kernel
theorem dX11_init_15 : decode cX11_init 15 = .ok (.newarray .int, 2) := by decide +kernel
theorem dX11_init_17 : decode cX11_init 17 = .ok (.putfield 13, 3) := by decide +kernel
theorem dX11_init_20 : decode cX11_init 20 = .ok (.aload_n 0, 1) := by decide +kernel
theorem dX11_init_21 : decode cX11_init 21 = .ok (.bipush 24, 2) := by decide +kernel
theorem dX11_init_23 : decode cX11_init 23 = .ok (.newarray .int, 2) := by decide +kernel
theorem dX11_init_25 : decode cX11_init 25 = .ok (.putfield 16, 3) := by decide +kernel
theorem dX11_init_28 : decode cX11_init 28 = .ok (.aload_n 0, 1) := by decide +kernel
theorem dX11_init_29 : decode cX11_init 29 = .ok (.bipush 24, 2) := by decide +kernel
theorem dX11_init_31 : decode cX11_init 31 = .ok (.newarray .int, 2) := by decide +kernel
theorem dX11_init_33 : decode cX11_init 33 = .ok (.putfield 19, 3) := by decide +kernel
theorem dX11_init_36 : decode cX11_init 36 = .ok (.aload_n 0, 1) := by decide +kernel
theorem dX11_init_37 : decode cX11_init 37 = .ok (.bipush 24, 2) := by decide +kernel
theorem dX11_init_39 : decode cX11_init 39 = .ok (.newarray .int, 2) := by decide +kernel
theorem dX11_init_41 : decode cX11_init 41 = .ok (.putfield 22, 3) := by decide +kernel
theorem dX11_init_44 : decode cX11_init 44 = .ok (.aload_n 0, 1) := by decide +kernel
theorem dX11_init_45 : decode cX11_init 45 = .ok (.bipush 24, 2) := by decide +kernel
theorem dX11_init_47 : decode cX11_init 47 = .ok (.newarray .int, 2) := by decide +kernel
theorem dX11_init_49 : decode cX11_init 49 = .ok (.putfield 25, 3) := by decide +kernel
theorem dX11_init_52 : decode cX11_init 52 = .ok (.aload_n 0, 1) := by decide +kernel
theorem dX11_init_53 : decode cX11_init 53 = .ok (.bipush 24, 2) := by decide +kernel
theorem dX11_init_55 : decode cX11_init 55 = .ok (.newarray .int, 2) := by decide +kernel
theorem dX11_init_57 : decode cX11_init 57 = .ok (.putfield 28, 3) := by decide +kernel
theorem dX11_init_60 : decode cX11_init 60 = .ok (.aload_n 0, 1) := by decide +kernel
theorem dX11_init_61 : decode cX11_init 61 = .ok (.bipush 24, 2) := by decide +kernel
theorem dX11_init_63 : decode cX11_init 63 = .ok (.newarray .int, 2) := by decide +kernel
theorem dX11_init_65 : decode cX11_init 65 = .ok (.putfield 31, 3) := by decide +kernel
theorem dX11_init_68 : decode cX11_init 68 = .ok (.aload_n 0, 1) := by decide +kernel
theorem dX11_init_69 : decode cX11_init 69 = .ok (.bipush 24, 2) := by decide +kernel
theorem dX11_init_71 : decode cX11_init 71 = .ok (.newarray .int, 2) := by decide +kernel
theorem dX11_init_73 : decode cX11_init 73 = .ok (.putfield 34, 3) := by decide +kernel
theorem dX11_init_76 : decode cX11_init 76 = .ok (.aload_n 0, 1) := by decide +kernel
theorem dX11_init_77 : decode cX11_init 77 = .ok (.bipush 9, 2) := by decide +kernel
theorem dX11_init_79 : decode cX11_init 79 = .ok (.newarray .int, 2) := by decide +kernel
theorem dX11_init_81 : decode cX11_init 81 = .ok (.putfield 37, 3) := by decide +kernel
theorem dX11_init_84 : decode cX11_init 84 = .ok (.aload_n 0, 1) := by decide +kernel
theorem dX11_init_85 : decode cX11_init 85 = .ok (.sipush 9000, 3) := by decide +kernel
theorem dX11_init_88 : decode cX11_init 88 = .ok (.putfield 40, 3) := by decide +kernel
theorem dX11_init_91 : decode cX11_init 91 = .ok (.return_, 1) := by decide +kernel
theorem dX11_thrown_0 : decode cX11_thrown 0 = .ok (.aload_n 0, 1) := by decide +kernel
theorem dX11_thrown_1 : decode cX11_thrown 1 = .ok (.getfield 44, 3) := by decide +kernel
theorem dX11_thrown_4 : decode cX11_thrown 4 = .ok (.ireturn, 1) := by decide +kernel
theorem dX11_within_0 : decode cX11_within 0 = .ok (.iload_n 0, 1) := by decide +kernel
theorem dX11_within_1 : decode cX11_within 1 = .ok (.iload_n 1, 1) := by decide +kernel
theorem dX11_within_2 : decode cX11_within 2 = .ok (.if_icmp .lt 12, 3) := by decide +kernel
theorem dX11_within_5 : decode cX11_within 5 = .ok (.iload_n 0, 1) := by decide +kernel
theorem dX11_within_6 : decode cX11_within 6 = .ok (.iload_n 2, 1) := by decide +kernel
theorem dX11_within_7 : decode cX11_within 7 = .ok (.if_icmp .gt 7, 3) := by decide +kernel
theorem dX11_within_10 : decode cX11_within 10 = .ok (.iconst 1, 1) := by decide +kernel
theorem dX11_within_11 : decode cX11_within 11 = .ok (.goto 4, 3) := by decide +kernel
theorem dX11_within_14 : decode cX11_within 14 = .ok (.iconst 0, 1) := by decide +kernel
theorem dX11_within_15 : decode cX11_within 15 = .ok (.ireturn, 1) := by decide +kernel
theorem dX11_isVehicle_0 : decode cX11_isVehicle 0 = .ok (.iload_n 1, 1) := by decide +kernel
theorem dX11_isVehicle_1 : decode cX11_isVehicle 1 = .ok (.iconst 0, 1) := by decide +kernel
theorem dX11_isVehicle_2 : decode cX11_isVehicle 2 = .ok (.aload_n 0, 1) := by decide +kernel
theorem dX11_isVehicle_3 : decode cX11_isVehicle 3 = .ok (.getfield 47, 3) := by decide +kernel
theorem dX11_isVehicle_6 : decode cX11_isVehicle 6 = .ok (.iconst 1, 1) := by decide +kernel
theorem dX11_isVehicle_7 : decode cX11_isVehicle 7 = .ok (.isub, 1) := by decide +kernel
theorem dX11_isVehicle_8 : decode cX11_isVehicle 8 = .ok (.invokestatic 50, 3) := by decide +kernel
theorem dX11_isVehicle_11 : decode cX11_isVehicle 11 = .ok (.ireturn, 1) := by decide +kernel
theorem dX11_isHour_0 : decode cX11_isHour 0 = .ok (.iload_n 0, 1) := by decide +kernel
theorem dX11_isHour_1 : decode cX11_isHour 1 = .ok (.iconst 0, 1) := by decide +kernel
theorem dX11_isHour_2 : decode cX11_isHour 2 = .ok (.bipush 23, 2) := by decide +kernel
theorem dX11_isHour_4 : decode cX11_isHour 4 = .ok (.invokestatic 50, 3) := by decide +kernel
theorem dX11_isHour_7 : decode cX11_isHour 7 = .ok (.ireturn, 1) := by decide +kernel
theorem dX11_add_0 : decode cX11_add 0 = .ok (.aload_n 0, 1) := by decide +kernel
theorem dX11_add_1 : decode cX11_add 1 = .ok (.iconst 0, 1) := by decide +kernel
theorem dX11_add_2 : decode cX11_add 2 = .ok (.putfield 44, 3) := by decide +kernel
theorem dX11_add_5 : decode cX11_add 5 = .ok (.iload_n 1, 1) := by decide +kernel
theorem dX11_add_6 : decode cX11_add 6 = .ok (.iconst 0, 1) := by decide +kernel
theorem dX11_add_7 : decode cX11_add 7 = .ok (.bipush 8, 2) := by decide +kernel
theorem dX11_add_9 : decode cX11_add 9 = .ok (.invokestatic 50, 3) := by decide +kernel
theorem dX11_add_12 : decode cX11_add 12 = .ok (.ifCond .eq 36, 3) := by decide +kernel
theorem dX11_add_15 : decode cX11_add 15 = .ok (.iload_n 2, 1) := by decide +kernel
theorem dX11_add_16 : decode cX11_add 16 = .ok (.iconst 1, 1) := by decide +kernel
theorem dX11_add_17 : decode cX11_add 17 = .ok (.sipush 5000, 3) := by decide +kernel
theorem dX11_add_20 : decode cX11_add 20 = .ok (.invokestatic 50, 3) := by decide +kernel
theorem dX11_add_23 : decode cX11_add 23 = .ok (.ifCond .eq 25, 3) := by decide +kernel
theorem dX11_add_26 : decode cX11_add 26 = .ok (.iload_n 3, 1) := by decide +kernel
theorem dX11_add_27 : decode cX11_add 27 = .ok (.iconst 0, 1) := by decide +kernel
theorem dX11_add_28 : decode cX11_add 28 = .ok (.sipush 5000, 3) := by decide +kernel
theorem dX11_add_31 : decode cX11_add 31 = .ok (.invokestatic 50, 3) := by decide +kernel
theorem dX11_add_34 : decode cX11_add 34 = .ok (.ifCond .eq 14, 3) := by decide +kernel
theorem dX11_add_37 : decode cX11_add 37 = .ok (.iload 4, 2) := by decide +kernel
theorem dX11_add_39 : decode cX11_add 39 = .ok (.iconst 0, 1) := by decide +kernel
theorem dX11_add_40 : decode cX11_add 40 = .ok (.bipush 100, 2) := by decide +kernel
theorem dX11_add_42 : decode cX11_add 42 = .ok (.invokestatic 50, 3) := by decide +kernel
theorem dX11_add_45 : decode cX11_add 45 = .ok (.ifCond .ne 6, 3) := by decide +kernel
theorem dX11_add_48 : decode cX11_add 48 = .ok (.bipush (-102), 2) := by decide +kernel
theorem dX11_add_50 : decode cX11_add 50 = .ok (.ireturn, 1) := by decide +kernel
theorem dX11_add_51 : decode cX11_add 51 = .ok (.aload_n 0, 1) := by decide +kernel
theorem dX11_add_52 : decode cX11_add 52 = .ok (.getfield 47, 3) := by decide +kernel
theorem dX11_add_55 : decode cX11_add 55 = .ok (.bipush 24, 2) := by decide +kernel
theorem dX11_add_57 : decode cX11_add 57 = .ok (.if_icmp .ne 6, 3) := by decide +kernel
theorem dX11_add_60 : decode cX11_add 60 = .ok (.bipush (-104), 2) := by decide +kernel
theorem dX11_add_62 : decode cX11_add 62 = .ok (.ireturn, 1) := by decide +kernel
theorem dX11_add_63 : decode cX11_add 63 = .ok (.aload_n 0, 1) := by decide +kernel
theorem dX11_add_64 : decode cX11_add 64 = .ok (.getfield 7, 3) := by decide +kernel
theorem dX11_add_67 : decode cX11_add 67 = .ok (.aload_n 0, 1) := by decide +kernel
theorem dX11_add_68 : decode cX11_add 68 = .ok (.getfield 47, 3) := by decide +kernel
theorem dX11_add_71 : decode cX11_add 71 = .ok (.iload_n 1, 1) := by decide +kernel
theorem dX11_add_72 : decode cX11_add 72 = .ok (.iastore, 1) := by decide +kernel
theorem dX11_add_73 : decode cX11_add 73 = .ok (.aload_n 0, 1) := by decide +kernel
theorem dX11_add_74 : decode cX11_add 74 = .ok (.getfield 13, 3) := by decide +kernel
theorem dX11_add_77 : decode cX11_add 77 = .ok (.aload_n 0, 1) := by decide +kernel
theorem dX11_add_78 : decode cX11_add 78 = .ok (.getfield 47, 3) := by decide +kernel
theorem dX11_add_81 : decode cX11_add 81 = .ok (.iload_n 2, 1) := by decide +kernel
theorem dX11_add_82 : decode cX11_add 82 = .ok (.iastore, 1) := by decide +kernel
theorem dX11_add_83 : decode cX11_add 83 = .ok (.aload_n 0, 1) := by decide +kernel
theorem dX11_add_84 : decode cX11_add 84 = .ok (.getfield 16, 3) := by decide +kernel
theorem dX11_add_87 : decode cX11_add 87 = .ok (.aload_n 0, 1) := by decide +kernel
theorem dX11_add_88 : decode cX11_add 88 = .ok (.getfield 47, 3) := by decide +kernel
theorem dX11_add_91 : decode cX11_add 91 = .ok (.iload_n 3, 1) := by decide +kernel
theorem dX11_add_92 : decode cX11_add 92 = .ok (.iastore, 1) := by decide +kernel
theorem dX11_add_93 : decode cX11_add 93 = .ok (.aload_n 0, 1) := by decide +kernel
theorem dX11_add_94 : decode cX11_add 94 = .ok (.getfield 19, 3) := by decide +kernel
theorem dX11_add_97 : decode cX11_add 97 = .ok (.aload_n 0, 1) := by decide +kernel
theorem dX11_add_98 : decode cX11_add 98 = .ok (.getfield 47, 3) := by decide +kernel
theorem dX11_add_101 : decode cX11_add 101 = .ok (.iload 4, 2) := by decide +kernel
theorem dX11_add_103 : decode cX11_add 103 = .ok (.iastore, 1) := by decide +kernel
theorem dX11_add_104 : decode cX11_add 104 = .ok (.aload_n 0, 1) := by decide +kernel
theorem dX11_add_105 : decode cX11_add 105 = .ok (.dup, 1) := by decide +kernel
theorem dX11_add_106 : decode cX11_add 106 = .ok (.getfield 47, 3) := by decide +kernel
theorem dX11_add_109 : decode cX11_add 109 = .ok (.iconst 1, 1) := by decide +kernel
theorem dX11_add_110 : decode cX11_add 110 = .ok (.iadd, 1) := by decide +kernel
theorem dX11_add_111 : decode cX11_add 111 = .ok (.putfield 47, 3) := by decide +kernel
theorem dX11_add_114 : decode cX11_add 114 = .ok (.aload_n 0, 1) := by decide +kernel
theorem dX11_add_115 : decode cX11_add 115 = .ok (.getfield 47, 3) := by decide +kernel
theorem dX11_add_118 : decode cX11_add 118 = .ok (.iconst 1, 1) := by decide +kernel
theorem dX11_add_119 : decode cX11_add 119 = .ok (.isub, 1) := by decide +kernel
theorem dX11_add_120 : decode cX11_add 120 = .ok (.ireturn, 1) := by decide +kernel
theorem dX11_weightOf_0 : decode cX11_weightOf 0 = .ok (.aload_n 0, 1) := by decide +kernel
theorem dX11_weightOf_1 : decode cX11_weightOf 1 = .ok (.getfield 7, 3) := by decide +kernel
theorem dX11_weightOf_4 : decode cX11_weightOf 4 = .ok (.iload_n 1, 1) := by decide +kernel
theorem dX11_weightOf_5 : decode cX11_weightOf 5 = .ok (.iaload, 1) := by decide +kernel
theorem dX11_weightOf_6 : decode cX11_weightOf 6 = .ok (.istore_n 2, 1) := by decide +kernel
theorem dX11_weightOf_7 : decode cX11_weightOf 7 = .ok (.aload_n 0, 1) := by decide +kernel
theorem dX11_weightOf_8 : decode cX11_weightOf 8 = .ok (.getfield 37, 3) := by decide +kernel
theorem dX11_weightOf_11 : decode cX11_weightOf 11 = .ok (.iconst 0, 1) := by decide +kernel
theorem dX11_weightOf_12 : decode cX11_weightOf 12 = .ok (.dup2, 1) := by decide +kernel
theorem dX11_weightOf_13 : decode cX11_weightOf 13 = .ok (.iaload, 1) := by decide +kernel
theorem dX11_weightOf_14 : decode cX11_weightOf 14 = .ok (.iconst 1, 1) := by decide +kernel
theorem dX11_weightOf_15 : decode cX11_weightOf 15 = .ok (.iadd, 1) := by decide +kernel
theorem dX11_weightOf_16 : decode cX11_weightOf 16 = .ok (.iastore, 1) := by decide +kernel
theorem dX11_weightOf_17 : decode cX11_weightOf 17 = .ok (.iload_n 2, 1) := by decide +kernel
theorem dX11_weightOf_18 : decode cX11_weightOf 18 = .ok (.iconst 4, 1) := by decide +kernel
theorem dX11_weightOf_19 : decode cX11_weightOf 19 = .ok (.if_icmp .lt 9, 3) := by decide +kernel
theorem dX11_weightOf_22 : decode cX11_weightOf 22 = .ok (.iload_n 2, 1) := by decide +kernel
theorem dX11_weightOf_23 : decode cX11_weightOf 23 = .ok (.bipush 8, 2) := by decide +kernel
theorem dX11_weightOf_25 : decode cX11_weightOf 25 = .ok (.if_icmp .ne 10, 3) := by decide +kernel
theorem dX11_weightOf_28 : decode cX11_weightOf 28 = .ok (.aload_n 0, 1) := by decide +kernel
theorem dX11_weightOf_29 : decode cX11_weightOf 29 = .ok (.getfield 13, 3) := by decide +kernel
theorem dX11_weightOf_32 : decode cX11_weightOf 32 = .ok (.iload_n 1, 1) := by decide +kernel
theorem dX11_weightOf_33 : decode cX11_weightOf 33 = .ok (.iaload, 1) := by decide +kernel
theorem dX11_weightOf_34 : decode cX11_weightOf 34 = .ok (.ireturn, 1) := by decide +kernel
theorem dX11_weightOf_35 : decode cX11_weightOf 35 = .ok (.aload_n 0, 1) := by decide +kernel
theorem dX11_weightOf_36 : decode cX11_weightOf 36 = .ok (.getfield 37, 3) := by decide +kernel
theorem dX11_weightOf_39 : decode cX11_weightOf 39 = .ok (.iconst 4, 1) := by decide +kernel
theorem dX11_weightOf_40 : decode cX11_weightOf 40 = .ok (.dup2, 1) := by decide +kernel
theorem dX11_weightOf_41 : decode cX11_weightOf 41 = .ok (.iaload, 1) := by decide +kernel
theorem dX11_weightOf_42 : decode cX11_weightOf 42 = .ok (.iconst 1, 1) := by decide +kernel
theorem dX11_weightOf_43 : decode cX11_weightOf 43 = .ok (.iadd, 1) := by decide +kernel
theorem dX11_weightOf_44 : decode cX11_weightOf 44 = .ok (.iastore, 1) := by decide +kernel
theorem dX11_weightOf_45 : decode cX11_weightOf 45 = .ok (.aload_n 0, 1) := by decide +kernel
theorem dX11_weightOf_46 : decode cX11_weightOf 46 = .ok (.getfield 13, 3) := by decide +kernel
theorem dX11_weightOf_49 : decode cX11_weightOf 49 = .ok (.iload_n 1, 1) := by decide +kernel
theorem dX11_weightOf_50 : decode cX11_weightOf 50 = .ok (.iaload, 1) := by decide +kernel
theorem dX11_weightOf_51 : decode cX11_weightOf 51 = .ok (.aload_n 0, 1) := by decide +kernel
theorem dX11_weightOf_52 : decode cX11_weightOf 52 = .ok (.getfield 16, 3) := by decide +kernel
theorem dX11_weightOf_55 : decode cX11_weightOf 55 = .ok (.iload_n 1, 1) := by decide +kernel
theorem dX11_weightOf_56 : decode cX11_weightOf 56 = .ok (.iaload, 1) := by decide +kernel
theorem dX11_weightOf_57 : decode cX11_weightOf 57 = .ok (.iadd, 1) := by decide +kernel
theorem dX11_weightOf_58 : decode cX11_weightOf 58 = .ok (.istore_n 3, 1) := by decide +kernel
theorem dX11_weightOf_59 : decode cX11_weightOf 59 = .ok (.iload_n 2, 1) := by decide +kernel
theorem dX11_weightOf_60 : decode cX11_weightOf 60 = .ok (.iconst 5, 1) := by decide +kernel
theorem dX11_weightOf_61 : decode cX11_weightOf 61 = .ok (.if_icmp .ne 27, 3) := by decide +kernel
theorem dX11_weightOf_64 : decode cX11_weightOf 64 = .ok (.aload_n 0, 1) := by decide +kernel
theorem dX11_weightOf_65 : decode cX11_weightOf 65 = .ok (.getfield 37, 3) := by decide +kernel
theorem dX11_weightOf_68 : decode cX11_weightOf 68 = .ok (.iconst 5, 1) := by decide +kernel
theorem dX11_weightOf_69 : decode cX11_weightOf 69 = .ok (.dup2, 1) := by decide +kernel
theorem dX11_weightOf_70 : decode cX11_weightOf 70 = .ok (.iaload, 1) := by decide +kernel
theorem dX11_weightOf_71 : decode cX11_weightOf 71 = .ok (.iconst 1, 1) := by decide +kernel
theorem dX11_weightOf_72 : decode cX11_weightOf 72 = .ok (.iadd, 1) := by decide +kernel
theorem dX11_weightOf_73 : decode cX11_weightOf 73 = .ok (.iastore, 1) := by decide +kernel
theorem dX11_weightOf_74 : decode cX11_weightOf 74 = .ok (.iload_n 3, 1) := by decide +kernel
theorem dX11_weightOf_75 : decode cX11_weightOf 75 = .ok (.aload_n 0, 1) := by decide +kernel
theorem dX11_weightOf_76 : decode cX11_weightOf 76 = .ok (.getfield 16, 3) := by decide +kernel
theorem dX11_weightOf_79 : decode cX11_weightOf 79 = .ok (.iload_n 1, 1) := by decide +kernel
theorem dX11_weightOf_80 : decode cX11_weightOf 80 = .ok (.iaload, 1) := by decide +kernel
theorem dX11_weightOf_81 : decode cX11_weightOf 81 = .ok (.iconst 4, 1) := by decide +kernel
theorem dX11_weightOf_82 : decode cX11_weightOf 82 = .ok (.idiv, 1) := by decide +kernel
theorem dX11_weightOf_83 : decode cX11_weightOf 83 = .ok (.iadd, 1) := by decide +kernel
theorem dX11_weightOf_84 : decode cX11_weightOf 84 = .ok (.istore_n 3, 1) := by decide +kernel
theorem dX11_weightOf_85 : decode cX11_weightOf 85 = .ok (.goto 23, 3) := by decide +kernel
theorem dX11_weightOf_88 : decode cX11_weightOf 88 = .ok (.iload_n 2, 1) := by decide +kernel
theorem dX11_weightOf_89 : decode cX11_weightOf 89 = .ok (.bipush 7, 2) := by decide +kernel
theorem dX11_weightOf_91 : decode cX11_weightOf 91 = .ok (.if_icmp .ne 17, 3) := by decide +kernel
theorem dX11_weightOf_94 : decode cX11_weightOf 94 = .ok (.aload_n 0, 1) := by decide +kernel
theorem dX11_weightOf_95 : decode cX11_weightOf 95 = .ok (.getfield 37, 3) := by decide +kernel
theorem dX11_weightOf_98 : decode cX11_weightOf 98 = .ok (.bipush 7, 2) := by decide +kernel
theorem dX11_weightOf_100 : decode cX11_weightOf 100 = .ok (.dup2, 1) := by decide +kernel
theorem dX11_weightOf_101 : decode cX11_weightOf 101 = .ok (.iaload, 1) := by decide +kernel
theorem dX11_weightOf_102 : decode cX11_weightOf 102 = .ok (.iconst 1, 1) := by decide +kernel
theorem dX11_weightOf_103 : decode cX11_weightOf 103 = .ok (.iadd, 1) := by decide +kernel
theorem dX11_weightOf_104 : decode cX11_weightOf 104 = .ok (.iastore, 1) := by decide +kernel
theorem dX11_weightOf_105 : decode cX11_weightOf 105 = .ok (.iinc 3 (-10), 3) := by decide +kernel
theorem dX11_weightOf_108 : decode cX11_weightOf 108 = .ok (.iload_n 3, 1) := by decide +kernel
theorem dX11_weightOf_109 : decode cX11_weightOf 109 = .ok (.ireturn, 1) := by decide +kernel
theorem dX11_plainToll_0 : decode cX11_plainToll 0 = .ok (.aload_n 0, 1) := by decide +kernel
theorem dX11_plainToll_1 : decode cX11_plainToll 1 = .ok (.getfield 37, 3) := by decide +kernel
theorem dX11_plainToll_4 : decode cX11_plainToll 4 = .ok (.iconst 0, 1) := by decide +kernel
theorem dX11_plainToll_5 : decode cX11_plainToll 5 = .ok (.dup2, 1) := by decide +kernel
theorem dX11_plainToll_6 : decode cX11_plainToll 6 = .ok (.iaload, 1) := by decide +kernel
theorem dX11_plainToll_7 : decode cX11_plainToll 7 = .ok (.iconst 1, 1) := by decide +kernel
theorem dX11_plainToll_8 : decode cX11_plainToll 8 = .ok (.iadd, 1) := by decide +kernel
theorem dX11_plainToll_9 : decode cX11_plainToll 9 = .ok (.iastore, 1) := by decide +kernel
theorem dX11_plainToll_10 : decode cX11_plainToll 10 = .ok (.iconst 5, 1) := by decide +kernel
theorem dX11_plainToll_11 : decode cX11_plainToll 11 = .ok (.aload_n 0, 1) := by decide +kernel
theorem dX11_plainToll_12 : decode cX11_plainToll 12 = .ok (.iload_n 1, 1) := by decide +kernel
theorem dX11_plainToll_13 : decode cX11_plainToll 13 = .ok (.invokevirtual 54, 3) := by decide +kernel
theorem dX11_plainToll_16 : decode cX11_plainToll 16 = .ok (.bipush 100, 2) := by decide +kernel
theorem dX11_plainToll_18 : decode cX11_plainToll 18 = .ok (.idiv, 1) := by decide +kernel
theorem dX11_plainToll_19 : decode cX11_plainToll 19 = .ok (.iadd, 1) := by decide +kernel
theorem dX11_plainToll_20 : decode cX11_plainToll 20 = .ok (.ireturn, 1) := by decide +kernel
theorem dX11_tollOf_0 : decode cX11_tollOf 0 = .ok (.aload_n 0, 1) := by decide +kernel
theorem dX11_tollOf_1 : decode cX11_tollOf 1 = .ok (.iconst 0, 1) := by decide +kernel
theorem dX11_tollOf_2 : decode cX11_tollOf 2 = .ok (.putfield 58, 3) := by decide +kernel
theorem dX11_tollOf_5 : decode cX11_tollOf 5 = .ok (.aload_n 0, 1) := by decide +kernel
theorem dX11_tollOf_6 : decode cX11_tollOf 6 = .ok (.getfield 7, 3) := by decide +kernel
theorem dX11_tollOf_9 : decode cX11_tollOf 9 = .ok (.iload_n 1, 1) := by decide +kernel
theorem dX11_tollOf_10 : decode cX11_tollOf 10 = .ok (.iaload, 1) := by decide +kernel
theorem dX11_tollOf_11 : decode cX11_tollOf 11 = .ok (.tableswitch 238 2 8 #[41, 60, 238, 116, 238, 135, 167], 41) := by decide +kernel
theorem dX11_tollOf_52 : decode cX11_tollOf 52 = .ok (.aload_n 0, 1) := by decide +kernel
theorem dX11_tollOf_53 : decode cX11_tollOf 53 = .ok (.getfield 37, 3) := by decide +kernel
theorem dX11_tollOf_56 : decode cX11_tollOf 56 = .ok (.iconst 2, 1) := by decide +kernel
theorem dX11_tollOf_57 : decode cX11_tollOf 57 = .ok (.dup2, 1) := by decide +kernel
theorem dX11_tollOf_58 : decode cX11_tollOf 58 = .ok (.iaload, 1) := by decide +kernel
theorem dX11_tollOf_59 : decode cX11_tollOf 59 = .ok (.iconst 1, 1) := by decide +kernel
theorem dX11_tollOf_60 : decode cX11_tollOf 60 = .ok (.iadd, 1) := by decide +kernel
theorem dX11_tollOf_61 : decode cX11_tollOf 61 = .ok (.iastore, 1) := by decide +kernel
theorem dX11_tollOf_62 : decode cX11_tollOf 62 = .ok (.aload_n 0, 1) := by decide +kernel
theorem dX11_tollOf_63 : decode cX11_tollOf 63 = .ok (.iload_n 1, 1) := by decide +kernel
theorem dX11_tollOf_64 : decode cX11_tollOf 64 = .ok (.invokevirtual 62, 3) := by decide +kernel
theorem dX11_tollOf_67 : decode cX11_tollOf 67 = .ok (.bipush 10, 2) := by decide +kernel
theorem dX11_tollOf_69 : decode cX11_tollOf 69 = .ok (.iadd, 1) := by decide +kernel
theorem dX11_tollOf_70 : decode cX11_tollOf 70 = .ok (.ireturn, 1) := by decide +kernel
theorem dX11_tollOf_71 : decode cX11_tollOf 71 = .ok (.aload_n 0, 1) := by decide +kernel
theorem dX11_tollOf_72 : decode cX11_tollOf 72 = .ok (.getfield 37, 3) := by decide +kernel
theorem dX11_tollOf_75 : decode cX11_tollOf 75 = .ok (.iconst 3, 1) := by decide +kernel
theorem dX11_tollOf_76 : decode cX11_tollOf 76 = .ok (.dup2, 1) := by decide +kernel
theorem dX11_tollOf_77 : decode cX11_tollOf 77 = .ok (.iaload, 1) := by decide +kernel
theorem dX11_tollOf_78 : decode cX11_tollOf 78 = .ok (.iconst 1, 1) := by decide +kernel
theorem dX11_tollOf_79 : decode cX11_tollOf 79 = .ok (.iadd, 1) := by decide +kernel
theorem dX11_tollOf_80 : decode cX11_tollOf 80 = .ok (.iastore, 1) := by decide +kernel
theorem dX11_tollOf_81 : decode cX11_tollOf 81 = .ok (.aload_n 0, 1) := by decide +kernel
theorem dX11_tollOf_82 : decode cX11_tollOf 82 = .ok (.getfield 37, 3) := by decide +kernel
theorem dX11_tollOf_85 : decode cX11_tollOf 85 = .ok (.iconst 2, 1) := by decide +kernel
theorem dX11_tollOf_86 : decode cX11_tollOf 86 = .ok (.dup2, 1) := by decide +kernel
theorem dX11_tollOf_87 : decode cX11_tollOf 87 = .ok (.iaload, 1) := by decide +kernel
theorem dX11_tollOf_88 : decode cX11_tollOf 88 = .ok (.iconst 1, 1) := by decide +kernel
theorem dX11_tollOf_89 : decode cX11_tollOf 89 = .ok (.iadd, 1) := by decide +kernel
theorem dX11_tollOf_90 : decode cX11_tollOf 90 = .ok (.iastore, 1) := by decide +kernel
theorem dX11_tollOf_91 : decode cX11_tollOf 91 = .ok (.aload_n 0, 1) := by decide +kernel
theorem dX11_tollOf_92 : decode cX11_tollOf 92 = .ok (.iload_n 1, 1) := by decide +kernel
theorem dX11_tollOf_93 : decode cX11_tollOf 93 = .ok (.invokevirtual 62, 3) := by decide +kernel
theorem dX11_tollOf_96 : decode cX11_tollOf 96 = .ok (.bipush 10, 2) := by decide +kernel
theorem dX11_tollOf_98 : decode cX11_tollOf 98 = .ok (.iadd, 1) := by decide +kernel
theorem dX11_tollOf_99 : decode cX11_tollOf 99 = .ok (.istore_n 3, 1) := by decide +kernel
theorem dX11_tollOf_100 : decode cX11_tollOf 100 = .ok (.iload_n 2, 1) := by decide +kernel
theorem dX11_tollOf_101 : decode cX11_tollOf 101 = .ok (.bipush 20, 2) := by decide +kernel
theorem dX11_tollOf_103 : decode cX11_tollOf 103 = .ok (.if_icmp .ge 9, 3) := by decide +kernel
theorem dX11_tollOf_106 : decode cX11_tollOf 106 = .ok (.iload_n 2, 1) := by decide +kernel
theorem dX11_tollOf_107 : decode cX11_tollOf 107 = .ok (.bipush 6, 2) := by decide +kernel
theorem dX11_tollOf_109 : decode cX11_tollOf 109 = .ok (.if_icmp .ge 9, 3) := by decide +kernel
theorem dX11_tollOf_112 : decode cX11_tollOf 112 = .ok (.iconst 2, 1) := by decide +kernel
theorem dX11_tollOf_113 : decode cX11_tollOf 113 = .ok (.iload_n 3, 1) := by decide +kernel
theorem dX11_tollOf_114 : decode cX11_tollOf 114 = .ok (.imul, 1) := by decide +kernel
theorem dX11_tollOf_115 : decode cX11_tollOf 115 = .ok (.goto 11, 3) := by decide +kernel
theorem dX11_tollOf_118 : decode cX11_tollOf 118 = .ok (.iload_n 3, 1) := by decide +kernel
theorem dX11_tollOf_119 : decode cX11_tollOf 119 = .ok (.aload_n 0, 1) := by decide +kernel
theorem dX11_tollOf_120 : decode cX11_tollOf 120 = .ok (.getfield 31, 3) := by decide +kernel
theorem dX11_tollOf_123 : decode cX11_tollOf 123 = .ok (.iload_n 1, 1) := by decide +kernel
theorem dX11_tollOf_124 : decode cX11_tollOf 124 = .ok (.iaload, 1) := by decide +kernel
theorem dX11_tollOf_125 : decode cX11_tollOf 125 = .ok (.iadd, 1) := by decide +kernel
theorem dX11_tollOf_126 : decode cX11_tollOf 126 = .ok (.ireturn, 1) := by decide +kernel
theorem dX11_tollOf_127 : decode cX11_tollOf 127 = .ok (.aload_n 0, 1) := by decide +kernel
theorem dX11_tollOf_128 : decode cX11_tollOf 128 = .ok (.getfield 37, 3) := by decide +kernel
theorem dX11_tollOf_131 : decode cX11_tollOf 131 = .ok (.iconst 5, 1) := by decide +kernel
theorem dX11_tollOf_132 : decode cX11_tollOf 132 = .ok (.dup2, 1) := by decide +kernel
theorem dX11_tollOf_133 : decode cX11_tollOf 133 = .ok (.iaload, 1) := by decide +kernel
theorem dX11_tollOf_134 : decode cX11_tollOf 134 = .ok (.iconst 1, 1) := by decide +kernel
theorem dX11_tollOf_135 : decode cX11_tollOf 135 = .ok (.iadd, 1) := by decide +kernel
theorem dX11_tollOf_136 : decode cX11_tollOf 136 = .ok (.iastore, 1) := by decide +kernel
theorem dX11_tollOf_137 : decode cX11_tollOf 137 = .ok (.aload_n 0, 1) := by decide +kernel
theorem dX11_tollOf_138 : decode cX11_tollOf 138 = .ok (.iload_n 1, 1) := by decide +kernel
theorem dX11_tollOf_139 : decode cX11_tollOf 139 = .ok (.invokevirtual 62, 3) := by decide +kernel
theorem dX11_tollOf_142 : decode cX11_tollOf 142 = .ok (.bipush 50, 2) := by decide +kernel
theorem dX11_tollOf_144 : decode cX11_tollOf 144 = .ok (.iadd, 1) := by decide +kernel
theorem dX11_tollOf_145 : decode cX11_tollOf 145 = .ok (.ireturn, 1) := by decide +kernel
theorem dX11_tollOf_146 : decode cX11_tollOf 146 = .ok (.aload_n 0, 1) := by decide +kernel
theorem dX11_tollOf_147 : decode cX11_tollOf 147 = .ok (.getfield 37, 3) := by decide +kernel
theorem dX11_tollOf_150 : decode cX11_tollOf 150 = .ok (.bipush 7, 2) := by decide +kernel
theorem dX11_tollOf_152 : decode cX11_tollOf 152 = .ok (.dup2, 1) := by decide +kernel
theorem dX11_tollOf_153 : decode cX11_tollOf 153 = .ok (.iaload, 1) := by decide +kernel
theorem dX11_tollOf_154 : decode cX11_tollOf 154 = .ok (.iconst 1, 1) := by decide +kernel
theorem dX11_tollOf_155 : decode cX11_tollOf 155 = .ok (.iadd, 1) := by decide +kernel
theorem dX11_tollOf_156 : decode cX11_tollOf 156 = .ok (.iastore, 1) := by decide +kernel
theorem dX11_tollOf_157 : decode cX11_tollOf 157 = .ok (.iload_n 2, 1) := by decide +kernel
theorem dX11_tollOf_158 : decode cX11_tollOf 158 = .ok (.bipush 22, 2) := by decide +kernel
theorem dX11_tollOf_160 : decode cX11_tollOf 160 = .ok (.if_icmp .ge 8, 3) := by decide +kernel
theorem dX11_tollOf_163 : decode cX11_tollOf 163 = .ok (.iload_n 2, 1) := by decide +kernel
theorem dX11_tollOf_164 : decode cX11_tollOf 164 = .ok (.iconst 5, 1) := by decide +kernel
theorem dX11_tollOf_165 : decode cX11_tollOf 165 = .ok (.if_icmp .ge 7, 3) := by decide +kernel
theorem dX11_tollOf_168 : decode cX11_tollOf 168 = .ok (.iconst 0, 1) := by decide +kernel
theorem dX11_tollOf_169 : decode cX11_tollOf 169 = .ok (.goto 8, 3) := by decide +kernel
theorem dX11_tollOf_172 : decode cX11_tollOf 172 = .ok (.aload_n 0, 1) := by decide +kernel
theorem dX11_tollOf_173 : decode cX11_tollOf 173 = .ok (.iload_n 1, 1) := by decide +kernel
theorem dX11_tollOf_174 : decode cX11_tollOf 174 = .ok (.invokevirtual 62, 3) := by decide +kernel
theorem dX11_tollOf_177 : decode cX11_tollOf 177 = .ok (.ireturn, 1) := by decide +kernel
theorem dX11_tollOf_178 : decode cX11_tollOf 178 = .ok (.aload_n 0, 1) := by decide +kernel
theorem dX11_tollOf_179 : decode cX11_tollOf 179 = .ok (.getfield 37, 3) := by decide +kernel
theorem dX11_tollOf_182 : decode cX11_tollOf 182 = .ok (.bipush 8, 2) := by decide +kernel
theorem dX11_tollOf_184 : decode cX11_tollOf 184 = .ok (.dup2, 1) := by decide +kernel
theorem dX11_tollOf_185 : decode cX11_tollOf 185 = .ok (.iaload, 1) := by decide +kernel
theorem dX11_tollOf_186 : decode cX11_tollOf 186 = .ok (.iconst 1, 1) := by decide +kernel
theorem dX11_tollOf_187 : decode cX11_tollOf 187 = .ok (.iadd, 1) := by decide +kernel
theorem dX11_tollOf_188 : decode cX11_tollOf 188 = .ok (.iastore, 1) := by decide +kernel
theorem dX11_tollOf_189 : decode cX11_tollOf 189 = .ok (.aload_n 0, 1) := by decide +kernel
theorem dX11_tollOf_190 : decode cX11_tollOf 190 = .ok (.aload_n 0, 1) := by decide +kernel
theorem dX11_tollOf_191 : decode cX11_tollOf 191 = .ok (.getfield 16, 3) := by decide +kernel
theorem dX11_tollOf_194 : decode cX11_tollOf 194 = .ok (.iload_n 1, 1) := by decide +kernel
theorem dX11_tollOf_195 : decode cX11_tollOf 195 = .ok (.iaload, 1) := by decide +kernel
theorem dX11_tollOf_196 : decode cX11_tollOf 196 = .ok (.ifCond .ne 7, 3) := by decide +kernel
theorem dX11_tollOf_199 : decode cX11_tollOf 199 = .ok (.iconst 1, 1) := by decide +kernel
theorem dX11_tollOf_200 : decode cX11_tollOf 200 = .ok (.goto 4, 3) := by decide +kernel
theorem dX11_tollOf_203 : decode cX11_tollOf 203 = .ok (.iconst 0, 1) := by decide +kernel
theorem dX11_tollOf_204 : decode cX11_tollOf 204 = .ok (.putfield 58, 3) := by decide +kernel
theorem dX11_tollOf_207 : decode cX11_tollOf 207 = .ok (.aload_n 0, 1) := by decide +kernel
theorem dX11_tollOf_208 : decode cX11_tollOf 208 = .ok (.dup, 1) := by decide +kernel
theorem dX11_tollOf_209 : decode cX11_tollOf 209 = .ok (.getfield 65, 3) := by decide +kernel
theorem dX11_tollOf_212 : decode cX11_tollOf 212 = .ok (.aload_n 0, 1) := by decide +kernel
theorem dX11_tollOf_213 : decode cX11_tollOf 213 = .ok (.getfield 58, 3) := by decide +kernel
theorem dX11_tollOf_216 : decode cX11_tollOf 216 = .ok (.ifCond .eq 7, 3) := by decide +kernel
theorem dX11_tollOf_219 : decode cX11_tollOf 219 = .ok (.iconst 1, 1) := by decide +kernel
theorem dX11_tollOf_220 : decode cX11_tollOf 220 = .ok (.goto 4, 3) := by decide +kernel
theorem dX11_tollOf_223 : decode cX11_tollOf 223 = .ok (.iconst 0, 1) := by decide +kernel
theorem dX11_tollOf_224 : decode cX11_tollOf 224 = .ok (.iadd, 1) := by decide +kernel
theorem dX11_tollOf_225 : decode cX11_tollOf 225 = .ok (.putfield 65, 3) := by decide +kernel
theorem dX11_tollOf_228 : decode cX11_tollOf 228 = .ok (.aload_n 0, 1) := by decide +kernel
theorem dX11_tollOf_229 : decode cX11_tollOf 229 = .ok (.getfield 58, 3) := by decide +kernel
theorem dX11_tollOf_232 : decode cX11_tollOf 232 = .ok (.ifCond .eq 7, 3) := by decide +kernel
theorem dX11_tollOf_235 : decode cX11_tollOf 235 = .ok (.iconst 0, 1) := by decide +kernel
theorem dX11_tollOf_236 : decode cX11_tollOf 236 = .ok (.goto 12, 3) := by decide +kernel
theorem dX11_tollOf_239 : decode cX11_tollOf 239 = .ok (.bipush 100, 2) := by decide +kernel
theorem dX11_tollOf_241 : decode cX11_tollOf 241 = .ok (.aload_n 0, 1) := by decide +kernel
theorem dX11_tollOf_242 : decode cX11_tollOf 242 = .ok (.getfield 16, 3) := by decide +kernel
theorem dX11_tollOf_245 : decode cX11_tollOf 245 = .ok (.iload_n 1, 1) := by decide +kernel
theorem dX11_tollOf_246 : decode cX11_tollOf 246 = .ok (.iaload, 1) := by decide +kernel
theorem dX11_tollOf_247 : decode cX11_tollOf 247 = .ok (.idiv, 1) := by decide +kernel
theorem dX11_tollOf_248 : decode cX11_tollOf 248 = .ok (.ireturn, 1) := by decide +kernel
theorem dX11_tollOf_249 : decode cX11_tollOf 249 = .ok (.aload_n 0, 1) := by decide +kernel
theorem dX11_tollOf_250 : decode cX11_tollOf 250 = .ok (.iload_n 1, 1) := by decide +kernel
theorem dX11_tollOf_251 : decode cX11_tollOf 251 = .ok (.invokevirtual 62, 3) := by decide +kernel
theorem dX11_tollOf_254 : decode cX11_tollOf 254 = .ok (.ireturn, 1) := by decide +kernel
theorem dX11_isPlainFit_0 : decode cX11_isPlainFit 0 = .ok (.aload_n 0, 1) := by decide +kernel
theorem dX11_isPlainFit_1 : decode cX11_isPlainFit 1 = .ok (.getfield 37, 3) := by decide +kernel
theorem dX11_isPlainFit_4 : decode cX11_isPlainFit 4 = .ok (.iconst 0, 1) := by decide +kernel
theorem dX11_isPlainFit_5 : decode cX11_isPlainFit 5 = .ok (.dup2, 1) := by decide +kernel
theorem dX11_isPlainFit_6 : decode cX11_isPlainFit 6 = .ok (.iaload, 1) := by decide +kernel
theorem dX11_isPlainFit_7 : decode cX11_isPlainFit 7 = .ok (.iconst 1, 1) := by decide +kernel
theorem dX11_isPlainFit_8 : decode cX11_isPlainFit 8 = .ok (.iadd, 1) := by decide +kernel
theorem dX11_isPlainFit_9 : decode cX11_isPlainFit 9 = .ok (.iastore, 1) := by decide +kernel
theorem dX11_isPlainFit_10 : decode cX11_isPlainFit 10 = .ok (.iconst 0, 1) := by decide +kernel
theorem dX11_isPlainFit_11 : decode cX11_isPlainFit 11 = .ok (.istore_n 2, 1) := by decide +kernel
theorem dX11_isPlainFit_12 : decode cX11_isPlainFit 12 = .ok (.iconst 0, 1) := by decide +kernel
theorem dX11_isPlainFit_13 : decode cX11_isPlainFit 13 = .ok (.istore_n 3, 1) := by decide +kernel
theorem dX11_isPlainFit_14 : decode cX11_isPlainFit 14 = .ok (.iload_n 3, 1) := by decide +kernel
theorem dX11_isPlainFit_15 : decode cX11_isPlainFit 15 = .ok (.aload_n 0, 1) := by decide +kernel
theorem dX11_isPlainFit_16 : decode cX11_isPlainFit 16 = .ok (.getfield 68, 3) := by decide +kernel
theorem dX11_isPlainFit_19 : decode cX11_isPlainFit 19 = .ok (.if_icmp .ge 22, 3) := by decide +kernel
theorem dX11_isPlainFit_22 : decode cX11_isPlainFit 22 = .ok (.iload_n 2, 1) := by decide +kernel
theorem dX11_isPlainFit_23 : decode cX11_isPlainFit 23 = .ok (.aload_n 0, 1) := by decide +kernel
theorem dX11_isPlainFit_24 : decode cX11_isPlainFit 24 = .ok (.aload_n 0, 1) := by decide +kernel
theorem dX11_isPlainFit_25 : decode cX11_isPlainFit 25 = .ok (.getfield 34, 3) := by decide +kernel
theorem dX11_isPlainFit_28 : decode cX11_isPlainFit 28 = .ok (.iload_n 3, 1) := by decide +kernel
theorem dX11_isPlainFit_29 : decode cX11_isPlainFit 29 = .ok (.iaload, 1) := by decide +kernel
theorem dX11_isPlainFit_30 : decode cX11_isPlainFit 30 = .ok (.invokevirtual 54, 3) := by decide +kernel
theorem dX11_isPlainFit_33 : decode cX11_isPlainFit 33 = .ok (.iadd, 1) := by decide +kernel
theorem dX11_isPlainFit_34 : decode cX11_isPlainFit 34 = .ok (.istore_n 2, 1) := by decide +kernel
theorem dX11_isPlainFit_35 : decode cX11_isPlainFit 35 = .ok (.iinc 3 1, 3) := by decide +kernel
theorem dX11_isPlainFit_38 : decode cX11_isPlainFit 38 = .ok (.goto (-24), 3) := by decide +kernel
theorem dX11_isPlainFit_41 : decode cX11_isPlainFit 41 = .ok (.iload_n 2, 1) := by decide +kernel
theorem dX11_isPlainFit_42 : decode cX11_isPlainFit 42 = .ok (.aload_n 0, 1) := by decide +kernel
theorem dX11_isPlainFit_43 : decode cX11_isPlainFit 43 = .ok (.iload_n 1, 1) := by decide +kernel
theorem dX11_isPlainFit_44 : decode cX11_isPlainFit 44 = .ok (.invokevirtual 54, 3) := by decide +kernel
theorem dX11_isPlainFit_47 : decode cX11_isPlainFit 47 = .ok (.iadd, 1) := by decide +kernel
theorem dX11_isPlainFit_48 : decode cX11_isPlainFit 48 = .ok (.istore_n 2, 1) := by decide +kernel
theorem dX11_isPlainFit_49 : decode cX11_isPlainFit 49 = .ok (.aload_n 0, 1) := by decide +kernel
theorem dX11_isPlainFit_50 : decode cX11_isPlainFit 50 = .ok (.getfield 71, 3) := by decide +kernel
theorem dX11_isPlainFit_53 : decode cX11_isPlainFit 53 = .ok (.ifCond .ne 15, 3) := by decide +kernel
theorem dX11_isPlainFit_56 : decode cX11_isPlainFit 56 = .ok (.iload_n 2, 1) := by decide +kernel
theorem dX11_isPlainFit_57 : decode cX11_isPlainFit 57 = .ok (.aload_n 0, 1) := by decide +kernel
theorem dX11_isPlainFit_58 : decode cX11_isPlainFit 58 = .ok (.getfield 40, 3) := by decide +kernel
theorem dX11_isPlainFit_61 : decode cX11_isPlainFit 61 = .ok (.if_icmp .gt 7, 3) := by decide +kernel
theorem dX11_isPlainFit_64 : decode cX11_isPlainFit 64 = .ok (.iconst 1, 1) := by decide +kernel
theorem dX11_isPlainFit_65 : decode cX11_isPlainFit 65 = .ok (.goto 4, 3) := by decide +kernel
theorem dX11_isPlainFit_68 : decode cX11_isPlainFit 68 = .ok (.iconst 0, 1) := by decide +kernel
theorem dX11_isPlainFit_69 : decode cX11_isPlainFit 69 = .ok (.ireturn, 1) := by decide +kernel
theorem dX11_isFit_0 : decode cX11_isFit 0 = .ok (.aload_n 0, 1) := by decide +kernel
theorem dX11_isFit_1 : decode cX11_isFit 1 = .ok (.getfield 7, 3) := by decide +kernel
theorem dX11_isFit_4 : decode cX11_isFit 4 = .ok (.iload_n 1, 1) := by decide +kernel
theorem dX11_isFit_5 : decode cX11_isFit 5 = .ok (.iaload, 1) := by decide +kernel
theorem dX11_isFit_6 : decode cX11_isFit 6 = .ok (.istore_n 2, 1) := by decide +kernel
theorem dX11_isFit_7 : decode cX11_isFit 7 = .ok (.iload_n 2, 1) := by decide +kernel
theorem dX11_isFit_8 : decode cX11_isFit 8 = .ok (.bipush 8, 2) := by decide +kernel
theorem dX11_isFit_10 : decode cX11_isFit 10 = .ok (.if_icmp .ne 27, 3) := by decide +kernel
theorem dX11_isFit_13 : decode cX11_isFit 13 = .ok (.aload_n 0, 1) := by decide +kernel
theorem dX11_isFit_14 : decode cX11_isFit 14 = .ok (.getfield 37, 3) := by decide +kernel
theorem dX11_isFit_17 : decode cX11_isFit 17 = .ok (.bipush 8, 2) := by decide +kernel
theorem dX11_isFit_19 : decode cX11_isFit 19 = .ok (.dup2, 1) := by decide +kernel
theorem dX11_isFit_20 : decode cX11_isFit 20 = .ok (.iaload, 1) := by decide +kernel
theorem dX11_isFit_21 : decode cX11_isFit 21 = .ok (.iconst 1, 1) := by decide +kernel
theorem dX11_isFit_22 : decode cX11_isFit 22 = .ok (.iadd, 1) := by decide +kernel
theorem dX11_isFit_23 : decode cX11_isFit 23 = .ok (.iastore, 1) := by decide +kernel
theorem dX11_isFit_24 : decode cX11_isFit 24 = .ok (.aload_n 0, 1) := by decide +kernel
theorem dX11_isFit_25 : decode cX11_isFit 25 = .ok (.getfield 71, 3) := by decide +kernel
theorem dX11_isFit_28 : decode cX11_isFit 28 = .ok (.ifCond .ne 7, 3) := by decide +kernel
theorem dX11_isFit_31 : decode cX11_isFit 31 = .ok (.iconst 1, 1) := by decide +kernel
theorem dX11_isFit_32 : decode cX11_isFit 32 = .ok (.goto 4, 3) := by decide +kernel
theorem dX11_isFit_35 : decode cX11_isFit 35 = .ok (.iconst 0, 1) := by decide +kernel
theorem dX11_isFit_36 : decode cX11_isFit 36 = .ok (.ireturn, 1) := by decide +kernel
theorem dX11_isFit_37 : decode cX11_isFit 37 = .ok (.aload_n 0, 1) := by decide +kernel
theorem dX11_isFit_38 : decode cX11_isFit 38 = .ok (.iload_n 1, 1) := by decide +kernel
theorem dX11_isFit_39 : decode cX11_isFit 39 = .ok (.invokevirtual 74, 3) := by decide +kernel
theorem dX11_isFit_42 : decode cX11_isFit 42 = .ok (.istore_n 3, 1) := by decide +kernel
theorem dX11_isFit_43 : decode cX11_isFit 43 = .ok (.iload_n 2, 1) := by decide +kernel
theorem dX11_isFit_44 : decode cX11_isFit 44 = .ok (.iconst 5, 1) := by decide +kernel
theorem dX11_isFit_45 : decode cX11_isFit 45 = .ok (.if_icmp .ne 33, 3) := by decide +kernel
theorem dX11_isFit_48 : decode cX11_isFit 48 = .ok (.aload_n 0, 1) := by decide +kernel
theorem dX11_isFit_49 : decode cX11_isFit 49 = .ok (.getfield 37, 3) := by decide +kernel
theorem dX11_isFit_52 : decode cX11_isFit 52 = .ok (.iconst 5, 1) := by decide +kernel
theorem dX11_isFit_53 : decode cX11_isFit 53 = .ok (.dup2, 1) := by decide +kernel
theorem dX11_isFit_54 : decode cX11_isFit 54 = .ok (.iaload, 1) := by decide +kernel
theorem dX11_isFit_55 : decode cX11_isFit 55 = .ok (.iconst 1, 1) := by decide +kernel
theorem dX11_isFit_56 : decode cX11_isFit 56 = .ok (.iadd, 1) := by decide +kernel
theorem dX11_isFit_57 : decode cX11_isFit 57 = .ok (.iastore, 1) := by decide +kernel
theorem dX11_isFit_58 : decode cX11_isFit 58 = .ok (.iload_n 3, 1) := by decide +kernel
theorem dX11_isFit_59 : decode cX11_isFit 59 = .ok (.ifCond .eq 14, 3) := by decide +kernel
theorem dX11_isFit_62 : decode cX11_isFit 62 = .ok (.aload_n 0, 1) := by decide +kernel
theorem dX11_isFit_63 : decode cX11_isFit 63 = .ok (.getfield 68, 3) := by decide +kernel
theorem dX11_isFit_66 : decode cX11_isFit 66 = .ok (.ifCond .ne 7, 3) := by decide +kernel
theorem dX11_isFit_69 : decode cX11_isFit 69 = .ok (.iconst 1, 1) := by decide +kernel
theorem dX11_isFit_70 : decode cX11_isFit 70 = .ok (.goto 4, 3) := by decide +kernel
theorem dX11_isFit_73 : decode cX11_isFit 73 = .ok (.iconst 0, 1) := by decide +kernel
theorem dX11_isFit_74 : decode cX11_isFit 74 = .ok (.istore_n 3, 1) := by decide +kernel
theorem dX11_isFit_75 : decode cX11_isFit 75 = .ok (.goto 70, 3) := by decide +kernel
theorem dX11_isFit_78 : decode cX11_isFit 78 = .ok (.iload_n 2, 1) := by decide +kernel
theorem dX11_isFit_79 : decode cX11_isFit 79 = .ok (.bipush 7, 2) := by decide +kernel
theorem dX11_isFit_81 : decode cX11_isFit 81 = .ok (.if_icmp .ne 64, 3) := by decide +kernel
theorem dX11_isFit_84 : decode cX11_isFit 84 = .ok (.aload_n 0, 1) := by decide +kernel
theorem dX11_isFit_85 : decode cX11_isFit 85 = .ok (.getfield 37, 3) := by decide +kernel
theorem dX11_isFit_88 : decode cX11_isFit 88 = .ok (.bipush 7, 2) := by decide +kernel
theorem dX11_isFit_90 : decode cX11_isFit 90 = .ok (.dup2, 1) := by decide +kernel
theorem dX11_isFit_91 : decode cX11_isFit 91 = .ok (.iaload, 1) := by decide +kernel
theorem dX11_isFit_92 : decode cX11_isFit 92 = .ok (.iconst 1, 1) := by decide +kernel
theorem dX11_isFit_93 : decode cX11_isFit 93 = .ok (.iadd, 1) := by decide +kernel
theorem dX11_isFit_94 : decode cX11_isFit 94 = .ok (.iastore, 1) := by decide +kernel
theorem dX11_isFit_95 : decode cX11_isFit 95 = .ok (.iconst 0, 1) := by decide +kernel
theorem dX11_isFit_96 : decode cX11_isFit 96 = .ok (.istore 4, 2) := by decide +kernel
theorem dX11_isFit_98 : decode cX11_isFit 98 = .ok (.iload 4, 2) := by decide +kernel
theorem dX11_isFit_100 : decode cX11_isFit 100 = .ok (.aload_n 0, 1) := by decide +kernel
theorem dX11_isFit_101 : decode cX11_isFit 101 = .ok (.getfield 68, 3) := by decide +kernel
theorem dX11_isFit_104 : decode cX11_isFit 104 = .ok (.if_icmp .ge 41, 3) := by decide +kernel
theorem dX11_isFit_107 : decode cX11_isFit 107 = .ok (.iload_n 3, 1) := by decide +kernel
theorem dX11_isFit_108 : decode cX11_isFit 108 = .ok (.ifCond .eq 29, 3) := by decide +kernel
theorem dX11_isFit_111 : decode cX11_isFit 111 = .ok (.aload_n 0, 1) := by decide +kernel
theorem dX11_isFit_112 : decode cX11_isFit 112 = .ok (.getfield 7, 3) := by decide +kernel
theorem dX11_isFit_115 : decode cX11_isFit 115 = .ok (.aload_n 0, 1) := by decide +kernel
theorem dX11_isFit_116 : decode cX11_isFit 116 = .ok (.getfield 34, 3) := by decide +kernel
theorem dX11_isFit_119 : decode cX11_isFit 119 = .ok (.iload 4, 2) := by decide +kernel
theorem dX11_isFit_121 : decode cX11_isFit 121 = .ok (.iaload, 1) := by decide +kernel
theorem dX11_isFit_122 : decode cX11_isFit 122 = .ok (.iaload, 1) := by decide +kernel
theorem dX11_isFit_123 : decode cX11_isFit 123 = .ok (.bipush 6, 2) := by decide +kernel
theorem dX11_isFit_125 : decode cX11_isFit 125 = .ok (.bipush 7, 2) := by decide +kernel
theorem dX11_isFit_127 : decode cX11_isFit 127 = .ok (.invokestatic 50, 3) := by decide +kernel
theorem dX11_isFit_130 : decode cX11_isFit 130 = .ok (.ifCond .ne 7, 3) := by decide +kernel
theorem dX11_isFit_133 : decode cX11_isFit 133 = .ok (.iconst 1, 1) := by decide +kernel
theorem dX11_isFit_134 : decode cX11_isFit 134 = .ok (.goto 4, 3) := by decide +kernel
theorem dX11_isFit_137 : decode cX11_isFit 137 = .ok (.iconst 0, 1) := by decide +kernel
theorem dX11_isFit_138 : decode cX11_isFit 138 = .ok (.istore_n 3, 1) := by decide +kernel
theorem dX11_isFit_139 : decode cX11_isFit 139 = .ok (.iinc 4 1, 3) := by decide +kernel
theorem dX11_isFit_142 : decode cX11_isFit 142 = .ok (.goto (-44), 3) := by decide +kernel
theorem dX11_isFit_145 : decode cX11_isFit 145 = .ok (.iload_n 3, 1) := by decide +kernel
theorem dX11_isFit_146 : decode cX11_isFit 146 = .ok (.ireturn, 1) := by decide +kernel
theorem dX11_plainEnter_0 : decode cX11_plainEnter 0 = .ok (.aload_n 0, 1) := by decide +kernel
theorem dX11_plainEnter_1 : decode cX11_plainEnter 1 = .ok (.getfield 37, 3) := by decide +kernel
theorem dX11_plainEnter_4 : decode cX11_plainEnter 4 = .ok (.iconst 0, 1) := by decide +kernel
theorem dX11_plainEnter_5 : decode cX11_plainEnter 5 = .ok (.dup2, 1) := by decide +kernel
theorem dX11_plainEnter_6 : decode cX11_plainEnter 6 = .ok (.iaload, 1) := by decide +kernel
theorem dX11_plainEnter_7 : decode cX11_plainEnter 7 = .ok (.iconst 1, 1) := by decide +kernel
theorem dX11_plainEnter_8 : decode cX11_plainEnter 8 = .ok (.iadd, 1) := by decide +kernel
theorem dX11_plainEnter_9 : decode cX11_plainEnter 9 = .ok (.iastore, 1) := by decide +kernel
theorem dX11_plainEnter_10 : decode cX11_plainEnter 10 = .ok (.aload_n 0, 1) := by decide +kernel
theorem dX11_plainEnter_11 : decode cX11_plainEnter 11 = .ok (.iload_n 1, 1) := by decide +kernel
theorem dX11_plainEnter_12 : decode cX11_plainEnter 12 = .ok (.invokevirtual 78, 3) := by decide +kernel
theorem dX11_plainEnter_15 : decode cX11_plainEnter 15 = .ok (.ifCond .ne 15, 3) := by decide +kernel
theorem dX11_plainEnter_18 : decode cX11_plainEnter 18 = .ok (.aload_n 0, 1) := by decide +kernel
theorem dX11_plainEnter_19 : decode cX11_plainEnter 19 = .ok (.dup, 1) := by decide +kernel
theorem dX11_plainEnter_20 : decode cX11_plainEnter 20 = .ok (.getfield 81, 3) := by decide +kernel
theorem dX11_plainEnter_23 : decode cX11_plainEnter 23 = .ok (.iconst 1, 1) := by decide +kernel
theorem dX11_plainEnter_24 : decode cX11_plainEnter 24 = .ok (.iadd, 1) := by decide +kernel
theorem dX11_plainEnter_25 : decode cX11_plainEnter 25 = .ok (.putfield 81, 3) := by decide +kernel
theorem dX11_plainEnter_28 : decode cX11_plainEnter 28 = .ok (.iconst 1, 1) := by decide +kernel
theorem dX11_plainEnter_29 : decode cX11_plainEnter 29 = .ok (.ireturn, 1) := by decide +kernel
theorem dX11_plainEnter_30 : decode cX11_plainEnter 30 = .ok (.aload_n 0, 1) := by decide +kernel
theorem dX11_plainEnter_31 : decode cX11_plainEnter 31 = .ok (.iload_n 1, 1) := by decide +kernel
theorem dX11_plainEnter_32 : decode cX11_plainEnter 32 = .ok (.iload_n 2, 1) := by decide +kernel
theorem dX11_plainEnter_33 : decode cX11_plainEnter 33 = .ok (.invokevirtual 84, 3) := by decide +kernel
theorem dX11_plainEnter_36 : decode cX11_plainEnter 36 = .ok (.istore_n 3, 1) := by decide +kernel
theorem dX11_plainEnter_37 : decode cX11_plainEnter 37 = .ok (.aload_n 0, 1) := by decide +kernel
theorem dX11_plainEnter_38 : decode cX11_plainEnter 38 = .ok (.getfield 58, 3) := by decide +kernel
theorem dX11_plainEnter_41 : decode cX11_plainEnter 41 = .ok (.ifCond .eq 5, 3) := by decide +kernel
theorem dX11_plainEnter_44 : decode cX11_plainEnter 44 = .ok (.iconst 2, 1) := by decide +kernel
theorem dX11_plainEnter_45 : decode cX11_plainEnter 45 = .ok (.ireturn, 1) := by decide +kernel
theorem dX11_plainEnter_46 : decode cX11_plainEnter 46 = .ok (.aload_n 0, 1) := by decide +kernel
theorem dX11_plainEnter_47 : decode cX11_plainEnter 47 = .ok (.getfield 25, 3) := by decide +kernel
theorem dX11_plainEnter_50 : decode cX11_plainEnter 50 = .ok (.iload_n 1, 1) := by decide +kernel
theorem dX11_plainEnter_51 : decode cX11_plainEnter 51 = .ok (.dup2, 1) := by decide +kernel
theorem dX11_plainEnter_52 : decode cX11_plainEnter 52 = .ok (.iaload, 1) := by decide +kernel
theorem dX11_plainEnter_53 : decode cX11_plainEnter 53 = .ok (.iload_n 3, 1) := by decide +kernel
theorem dX11_plainEnter_54 : decode cX11_plainEnter 54 = .ok (.iadd, 1) := by decide +kernel
theorem dX11_plainEnter_55 : decode cX11_plainEnter 55 = .ok (.iastore, 1) := by decide +kernel
theorem dX11_plainEnter_56 : decode cX11_plainEnter 56 = .ok (.aload_n 0, 1) := by decide +kernel
theorem dX11_plainEnter_57 : decode cX11_plainEnter 57 = .ok (.getfield 28, 3) := by decide +kernel
theorem dX11_plainEnter_60 : decode cX11_plainEnter 60 = .ok (.iload_n 1, 1) := by decide +kernel
theorem dX11_plainEnter_61 : decode cX11_plainEnter 61 = .ok (.dup2, 1) := by decide +kernel
theorem dX11_plainEnter_62 : decode cX11_plainEnter 62 = .ok (.iaload, 1) := by decide +kernel
theorem dX11_plainEnter_63 : decode cX11_plainEnter 63 = .ok (.iconst 1, 1) := by decide +kernel
theorem dX11_plainEnter_64 : decode cX11_plainEnter 64 = .ok (.iadd, 1) := by decide +kernel
theorem dX11_plainEnter_65 : decode cX11_plainEnter 65 = .ok (.iastore, 1) := by decide +kernel
theorem dX11_plainEnter_66 : decode cX11_plainEnter 66 = .ok (.aload_n 0, 1) := by decide +kernel
theorem dX11_plainEnter_67 : decode cX11_plainEnter 67 = .ok (.getfield 22, 3) := by decide +kernel
theorem dX11_plainEnter_70 : decode cX11_plainEnter 70 = .ok (.iload_n 1, 1) := by decide +kernel
theorem dX11_plainEnter_71 : decode cX11_plainEnter 71 = .ok (.iconst 1, 1) := by decide +kernel
theorem dX11_plainEnter_72 : decode cX11_plainEnter 72 = .ok (.iastore, 1) := by decide +kernel
theorem dX11_plainEnter_73 : decode cX11_plainEnter 73 = .ok (.aload_n 0, 1) := by decide +kernel
theorem dX11_plainEnter_74 : decode cX11_plainEnter 74 = .ok (.getfield 34, 3) := by decide +kernel
theorem dX11_plainEnter_77 : decode cX11_plainEnter 77 = .ok (.aload_n 0, 1) := by decide +kernel
theorem dX11_plainEnter_78 : decode cX11_plainEnter 78 = .ok (.getfield 68, 3) := by decide +kernel
theorem dX11_plainEnter_81 : decode cX11_plainEnter 81 = .ok (.iload_n 1, 1) := by decide +kernel
theorem dX11_plainEnter_82 : decode cX11_plainEnter 82 = .ok (.iastore, 1) := by decide +kernel
theorem dX11_plainEnter_83 : decode cX11_plainEnter 83 = .ok (.aload_n 0, 1) := by decide +kernel
theorem dX11_plainEnter_84 : decode cX11_plainEnter 84 = .ok (.dup, 1) := by decide +kernel
theorem dX11_plainEnter_85 : decode cX11_plainEnter 85 = .ok (.getfield 68, 3) := by decide +kernel
theorem dX11_plainEnter_88 : decode cX11_plainEnter 88 = .ok (.iconst 1, 1) := by decide +kernel
theorem dX11_plainEnter_89 : decode cX11_plainEnter 89 = .ok (.iadd, 1) := by decide +kernel
theorem dX11_plainEnter_90 : decode cX11_plainEnter 90 = .ok (.putfield 68, 3) := by decide +kernel
theorem dX11_plainEnter_93 : decode cX11_plainEnter 93 = .ok (.iconst 0, 1) := by decide +kernel
theorem dX11_plainEnter_94 : decode cX11_plainEnter 94 = .ok (.ireturn, 1) := by decide +kernel
theorem dX11_enters_0 : decode cX11_enters 0 = .ok (.aload_n 0, 1) := by decide +kernel
theorem dX11_enters_1 : decode cX11_enters 1 = .ok (.getfield 7, 3) := by decide +kernel
theorem dX11_enters_4 : decode cX11_enters 4 = .ok (.iload_n 1, 1) := by decide +kernel
theorem dX11_enters_5 : decode cX11_enters 5 = .ok (.iaload, 1) := by decide +kernel
theorem dX11_enters_6 : decode cX11_enters 6 = .ok (.tableswitch 200 3 8 #[38, 200, 65, 112, 112, 166], 38) := by decide +kernel
theorem dX11_enters_44 : decode cX11_enters 44 = .ok (.aload_n 0, 1) := by decide +kernel
theorem dX11_enters_45 : decode cX11_enters 45 = .ok (.getfield 37, 3) := by decide +kernel
theorem dX11_enters_48 : decode cX11_enters 48 = .ok (.iconst 3, 1) := by decide +kernel
theorem dX11_enters_49 : decode cX11_enters 49 = .ok (.dup2, 1) := by decide +kernel
theorem dX11_enters_50 : decode cX11_enters 50 = .ok (.iaload, 1) := by decide +kernel
theorem dX11_enters_51 : decode cX11_enters 51 = .ok (.iconst 1, 1) := by decide +kernel
theorem dX11_enters_52 : decode cX11_enters 52 = .ok (.iadd, 1) := by decide +kernel
theorem dX11_enters_53 : decode cX11_enters 53 = .ok (.iastore, 1) := by decide +kernel
theorem dX11_enters_54 : decode cX11_enters 54 = .ok (.aload_n 0, 1) := by decide +kernel
theorem dX11_enters_55 : decode cX11_enters 55 = .ok (.getfield 31, 3) := by decide +kernel
theorem dX11_enters_58 : decode cX11_enters 58 = .ok (.iload_n 1, 1) := by decide +kernel
theorem dX11_enters_59 : decode cX11_enters 59 = .ok (.dup2, 1) := by decide +kernel
theorem dX11_enters_60 : decode cX11_enters 60 = .ok (.iaload, 1) := by decide +kernel
theorem dX11_enters_61 : decode cX11_enters 61 = .ok (.iconst 1, 1) := by decide +kernel
theorem dX11_enters_62 : decode cX11_enters 62 = .ok (.iadd, 1) := by decide +kernel
theorem dX11_enters_63 : decode cX11_enters 63 = .ok (.iastore, 1) := by decide +kernel
theorem dX11_enters_64 : decode cX11_enters 64 = .ok (.aload_n 0, 1) := by decide +kernel
theorem dX11_enters_65 : decode cX11_enters 65 = .ok (.iload_n 1, 1) := by decide +kernel
theorem dX11_enters_66 : decode cX11_enters 66 = .ok (.iload_n 2, 1) := by decide +kernel
theorem dX11_enters_67 : decode cX11_enters 67 = .ok (.invokevirtual 88, 3) := by decide +kernel
theorem dX11_enters_70 : decode cX11_enters 70 = .ok (.ireturn, 1) := by decide +kernel
theorem dX11_enters_71 : decode cX11_enters 71 = .ok (.aload_n 0, 1) := by decide +kernel
theorem dX11_enters_72 : decode cX11_enters 72 = .ok (.getfield 37, 3) := by decide +kernel
theorem dX11_enters_75 : decode cX11_enters 75 = .ok (.iconst 5, 1) := by decide +kernel
theorem dX11_enters_76 : decode cX11_enters 76 = .ok (.dup2, 1) := by decide +kernel
theorem dX11_enters_77 : decode cX11_enters 77 = .ok (.iaload, 1) := by decide +kernel
theorem dX11_enters_78 : decode cX11_enters 78 = .ok (.iconst 1, 1) := by decide +kernel
theorem dX11_enters_79 : decode cX11_enters 79 = .ok (.iadd, 1) := by decide +kernel
theorem dX11_enters_80 : decode cX11_enters 80 = .ok (.iastore, 1) := by decide +kernel
theorem dX11_enters_81 : decode cX11_enters 81 = .ok (.aload_n 0, 1) := by decide +kernel
theorem dX11_enters_82 : decode cX11_enters 82 = .ok (.iload_n 1, 1) := by decide +kernel
theorem dX11_enters_83 : decode cX11_enters 83 = .ok (.iload_n 2, 1) := by decide +kernel
theorem dX11_enters_84 : decode cX11_enters 84 = .ok (.invokevirtual 88, 3) := by decide +kernel
theorem dX11_enters_87 : decode cX11_enters 87 = .ok (.istore_n 3, 1) := by decide +kernel
theorem dX11_enters_88 : decode cX11_enters 88 = .ok (.iload_n 3, 1) := by decide +kernel
theorem dX11_enters_89 : decode cX11_enters 89 = .ok (.ifCond .ne 27, 3) := by decide +kernel
theorem dX11_enters_92 : decode cX11_enters 92 = .ok (.aload_n 0, 1) := by decide +kernel
theorem dX11_enters_93 : decode cX11_enters 93 = .ok (.aload_n 0, 1) := by decide +kernel
theorem dX11_enters_94 : decode cX11_enters 94 = .ok (.getfield 40, 3) := by decide +kernel
theorem dX11_enters_97 : decode cX11_enters 97 = .ok (.bipush 100, 2) := by decide +kernel
theorem dX11_enters_99 : decode cX11_enters 99 = .ok (.if_icmp .le 13, 3) := by decide +kernel
theorem dX11_enters_102 : decode cX11_enters 102 = .ok (.aload_n 0, 1) := by decide +kernel
theorem dX11_enters_103 : decode cX11_enters 103 = .ok (.getfield 40, 3) := by decide +kernel
theorem dX11_enters_106 : decode cX11_enters 106 = .ok (.bipush 100, 2) := by decide +kernel
theorem dX11_enters_108 : decode cX11_enters 108 = .ok (.isub, 1) := by decide +kernel
theorem dX11_enters_109 : decode cX11_enters 109 = .ok (.goto 4, 3) := by decide +kernel
theorem dX11_enters_112 : decode cX11_enters 112 = .ok (.iconst 0, 1) := by decide +kernel
theorem dX11_enters_113 : decode cX11_enters 113 = .ok (.putfield 40, 3) := by decide +kernel
theorem dX11_enters_116 : decode cX11_enters 116 = .ok (.iload_n 3, 1) := by decide +kernel
theorem dX11_enters_117 : decode cX11_enters 117 = .ok (.ireturn, 1) := by decide +kernel
theorem dX11_enters_118 : decode cX11_enters 118 = .ok (.aload_n 0, 1) := by decide +kernel
theorem dX11_enters_119 : decode cX11_enters 119 = .ok (.getfield 37, 3) := by decide +kernel
theorem dX11_enters_122 : decode cX11_enters 122 = .ok (.bipush 6, 2) := by decide +kernel
theorem dX11_enters_124 : decode cX11_enters 124 = .ok (.dup2, 1) := by decide +kernel
theorem dX11_enters_125 : decode cX11_enters 125 = .ok (.iaload, 1) := by decide +kernel
theorem dX11_enters_126 : decode cX11_enters 126 = .ok (.iconst 1, 1) := by decide +kernel
theorem dX11_enters_127 : decode cX11_enters 127 = .ok (.iadd, 1) := by decide +kernel
theorem dX11_enters_128 : decode cX11_enters 128 = .ok (.iastore, 1) := by decide +kernel
theorem dX11_enters_129 : decode cX11_enters 129 = .ok (.aload_n 0, 1) := by decide +kernel
theorem dX11_enters_130 : decode cX11_enters 130 = .ok (.getfield 16, 3) := by decide +kernel
theorem dX11_enters_133 : decode cX11_enters 133 = .ok (.iload_n 1, 1) := by decide +kernel
theorem dX11_enters_134 : decode cX11_enters 134 = .ok (.aload_n 0, 1) := by decide +kernel
theorem dX11_enters_135 : decode cX11_enters 135 = .ok (.getfield 16, 3) := by decide +kernel
theorem dX11_enters_138 : decode cX11_enters 138 = .ok (.iload_n 1, 1) := by decide +kernel
theorem dX11_enters_139 : decode cX11_enters 139 = .ok (.iaload, 1) := by decide +kernel
theorem dX11_enters_140 : decode cX11_enters 140 = .ok (.bipush 40, 2) := by decide +kernel
theorem dX11_enters_142 : decode cX11_enters 142 = .ok (.iadd, 1) := by decide +kernel
theorem dX11_enters_143 : decode cX11_enters 143 = .ok (.sipush 5000, 3) := by decide +kernel
theorem dX11_enters_146 : decode cX11_enters 146 = .ok (.if_icmp .le 9, 3) := by decide +kernel
theorem dX11_enters_149 : decode cX11_enters 149 = .ok (.sipush 5000, 3) := by decide +kernel
theorem dX11_enters_152 : decode cX11_enters 152 = .ok (.goto 12, 3) := by decide +kernel
theorem dX11_enters_155 : decode cX11_enters 155 = .ok (.aload_n 0, 1) := by decide +kernel
theorem dX11_enters_156 : decode cX11_enters 156 = .ok (.getfield 16, 3) := by decide +kernel
theorem dX11_enters_159 : decode cX11_enters 159 = .ok (.iload_n 1, 1) := by decide +kernel
theorem dX11_enters_160 : decode cX11_enters 160 = .ok (.iaload, 1) := by decide +kernel
theorem dX11_enters_161 : decode cX11_enters 161 = .ok (.bipush 40, 2) := by decide +kernel
theorem dX11_enters_163 : decode cX11_enters 163 = .ok (.iadd, 1) := by decide +kernel
theorem dX11_enters_164 : decode cX11_enters 164 = .ok (.iastore, 1) := by decide +kernel
theorem dX11_enters_165 : decode cX11_enters 165 = .ok (.aload_n 0, 1) := by decide +kernel
theorem dX11_enters_166 : decode cX11_enters 166 = .ok (.iload_n 1, 1) := by decide +kernel
theorem dX11_enters_167 : decode cX11_enters 167 = .ok (.iload_n 2, 1) := by decide +kernel
theorem dX11_enters_168 : decode cX11_enters 168 = .ok (.invokevirtual 88, 3) := by decide +kernel
theorem dX11_enters_171 : decode cX11_enters 171 = .ok (.ireturn, 1) := by decide +kernel
theorem dX11_enters_172 : decode cX11_enters 172 = .ok (.aload_n 0, 1) := by decide +kernel
theorem dX11_enters_173 : decode cX11_enters 173 = .ok (.getfield 37, 3) := by decide +kernel
theorem dX11_enters_176 : decode cX11_enters 176 = .ok (.bipush 8, 2) := by decide +kernel
theorem dX11_enters_178 : decode cX11_enters 178 = .ok (.dup2, 1) := by decide +kernel
theorem dX11_enters_179 : decode cX11_enters 179 = .ok (.iaload, 1) := by decide +kernel
theorem dX11_enters_180 : decode cX11_enters 180 = .ok (.iconst 1, 1) := by decide +kernel
theorem dX11_enters_181 : decode cX11_enters 181 = .ok (.iadd, 1) := by decide +kernel
theorem dX11_enters_182 : decode cX11_enters 182 = .ok (.iastore, 1) := by decide +kernel
theorem dX11_enters_183 : decode cX11_enters 183 = .ok (.aload_n 0, 1) := by decide +kernel
theorem dX11_enters_184 : decode cX11_enters 184 = .ok (.iload_n 1, 1) := by decide +kernel
theorem dX11_enters_185 : decode cX11_enters 185 = .ok (.iload_n 2, 1) := by decide +kernel
theorem dX11_enters_186 : decode cX11_enters 186 = .ok (.invokevirtual 88, 3) := by decide +kernel
theorem dX11_enters_189 : decode cX11_enters 189 = .ok (.istore_n 3, 1) := by decide +kernel
theorem dX11_enters_190 : decode cX11_enters 190 = .ok (.iload_n 3, 1) := by decide +kernel
theorem dX11_enters_191 : decode cX11_enters 191 = .ok (.iconst 1, 1) := by decide +kernel
theorem dX11_enters_192 : decode cX11_enters 192 = .ok (.if_icmp .ne 12, 3) := by decide +kernel
theorem dX11_enters_195 : decode cX11_enters 195 = .ok (.aload_n 0, 1) := by decide +kernel
theorem dX11_enters_196 : decode cX11_enters 196 = .ok (.iload_n 1, 1) := by decide +kernel
theorem dX11_enters_197 : decode cX11_enters 197 = .ok (.iload_n 2, 1) := by decide +kernel
theorem dX11_enters_198 : decode cX11_enters 198 = .ok (.invokevirtual 88, 3) := by decide +kernel
theorem dX11_enters_201 : decode cX11_enters 201 = .ok (.goto 4, 3) := by decide +kernel
theorem dX11_enters_204 : decode cX11_enters 204 = .ok (.iload_n 3, 1) := by decide +kernel
theorem dX11_enters_205 : decode cX11_enters 205 = .ok (.ireturn, 1) := by decide +kernel
theorem dX11_enters_206 : decode cX11_enters 206 = .ok (.aload_n 0, 1) := by decide +kernel
theorem dX11_enters_207 : decode cX11_enters 207 = .ok (.iload_n 1, 1) := by decide +kernel
theorem dX11_enters_208 : decode cX11_enters 208 = .ok (.iload_n 2, 1) := by decide +kernel
theorem dX11_enters_209 : decode cX11_enters 209 = .ok (.invokevirtual 88, 3) := by decide +kernel
theorem dX11_enters_212 : decode cX11_enters 212 = .ok (.ireturn, 1) := by decide +kernel
theorem dX11_leaves_0 : decode cX11_leaves 0 = .ok (.aload_n 0, 1) := by decide +kernel
theorem dX11_leaves_1 : decode cX11_leaves 1 = .ok (.getfield 37, 3) := by decide +kernel
theorem dX11_leaves_4 : decode cX11_leaves 4 = .ok (.iconst 0, 1) := by decide +kernel
theorem dX11_leaves_5 : decode cX11_leaves 5 = .ok (.dup2, 1) := by decide +kernel
theorem dX11_leaves_6 : decode cX11_leaves 6 = .ok (.iaload, 1) := by decide +kernel
theorem dX11_leaves_7 : decode cX11_leaves 7 = .ok (.iconst 1, 1) := by decide +kernel
theorem dX11_leaves_8 : decode cX11_leaves 8 = .ok (.iadd, 1) := by decide +kernel
theorem dX11_leaves_9 : decode cX11_leaves 9 = .ok (.iastore, 1) := by decide +kernel
theorem dX11_leaves_10 : decode cX11_leaves 10 = .ok (.iconst 0, 1) := by decide +kernel
theorem dX11_leaves_11 : decode cX11_leaves 11 = .ok (.istore_n 2, 1) := by decide +kernel
theorem dX11_leaves_12 : decode cX11_leaves 12 = .ok (.aload_n 0, 1) := by decide +kernel
theorem dX11_leaves_13 : decode cX11_leaves 13 = .ok (.getfield 34, 3) := by decide +kernel
theorem dX11_leaves_16 : decode cX11_leaves 16 = .ok (.iload_n 2, 1) := by decide +kernel
theorem dX11_leaves_17 : decode cX11_leaves 17 = .ok (.iaload, 1) := by decide +kernel
theorem dX11_leaves_18 : decode cX11_leaves 18 = .ok (.iload_n 1, 1) := by decide +kernel
theorem dX11_leaves_19 : decode cX11_leaves 19 = .ok (.if_icmp .eq 9, 3) := by decide +kernel
theorem dX11_leaves_22 : decode cX11_leaves 22 = .ok (.iinc 2 1, 3) := by decide +kernel
theorem dX11_leaves_25 : decode cX11_leaves 25 = .ok (.goto (-13), 3) := by decide +kernel
theorem dX11_leaves_28 : decode cX11_leaves 28 = .ok (.aload_n 0, 1) := by decide +kernel
theorem dX11_leaves_29 : decode cX11_leaves 29 = .ok (.dup, 1) := by decide +kernel
theorem dX11_leaves_30 : decode cX11_leaves 30 = .ok (.getfield 68, 3) := by decide +kernel
theorem dX11_leaves_33 : decode cX11_leaves 33 = .ok (.iconst 1, 1) := by decide +kernel
theorem dX11_leaves_34 : decode cX11_leaves 34 = .ok (.isub, 1) := by decide +kernel
theorem dX11_leaves_35 : decode cX11_leaves 35 = .ok (.putfield 68, 3) := by decide +kernel
theorem dX11_leaves_38 : decode cX11_leaves 38 = .ok (.iload_n 2, 1) := by decide +kernel
theorem dX11_leaves_39 : decode cX11_leaves 39 = .ok (.istore_n 3, 1) := by decide +kernel
theorem dX11_leaves_40 : decode cX11_leaves 40 = .ok (.iload_n 3, 1) := by decide +kernel
theorem dX11_leaves_41 : decode cX11_leaves 41 = .ok (.aload_n 0, 1) := by decide +kernel
theorem dX11_leaves_42 : decode cX11_leaves 42 = .ok (.getfield 68, 3) := by decide +kernel
theorem dX11_leaves_45 : decode cX11_leaves 45 = .ok (.if_icmp .ge 23, 3) := by decide +kernel
theorem dX11_leaves_48 : decode cX11_leaves 48 = .ok (.aload_n 0, 1) := by decide +kernel
theorem dX11_leaves_49 : decode cX11_leaves 49 = .ok (.getfield 34, 3) := by decide +kernel
theorem dX11_leaves_52 : decode cX11_leaves 52 = .ok (.iload_n 3, 1) := by decide +kernel
theorem dX11_leaves_53 : decode cX11_leaves 53 = .ok (.aload_n 0, 1) := by decide +kernel
theorem dX11_leaves_54 : decode cX11_leaves 54 = .ok (.getfield 34, 3) := by decide +kernel
theorem dX11_leaves_57 : decode cX11_leaves 57 = .ok (.iload_n 3, 1) := by decide +kernel
theorem dX11_leaves_58 : decode cX11_leaves 58 = .ok (.iconst 1, 1) := by decide +kernel
theorem dX11_leaves_59 : decode cX11_leaves 59 = .ok (.iadd, 1) := by decide +kernel
theorem dX11_leaves_60 : decode cX11_leaves 60 = .ok (.iaload, 1) := by decide +kernel
theorem dX11_leaves_61 : decode cX11_leaves 61 = .ok (.iastore, 1) := by decide +kernel
theorem dX11_leaves_62 : decode cX11_leaves 62 = .ok (.iinc 3 1, 3) := by decide +kernel
theorem dX11_leaves_65 : decode cX11_leaves 65 = .ok (.goto (-25), 3) := by decide +kernel
theorem dX11_leaves_68 : decode cX11_leaves 68 = .ok (.aload_n 0, 1) := by decide +kernel
theorem dX11_leaves_69 : decode cX11_leaves 69 = .ok (.getfield 22, 3) := by decide +kernel
theorem dX11_leaves_72 : decode cX11_leaves 72 = .ok (.iload_n 1, 1) := by decide +kernel
theorem dX11_leaves_73 : decode cX11_leaves 73 = .ok (.iconst 0, 1) := by decide +kernel
theorem dX11_leaves_74 : decode cX11_leaves 74 = .ok (.iastore, 1) := by decide +kernel
theorem dX11_leaves_75 : decode cX11_leaves 75 = .ok (.aload_n 0, 1) := by decide +kernel
theorem dX11_leaves_76 : decode cX11_leaves 76 = .ok (.getfield 7, 3) := by decide +kernel
theorem dX11_leaves_79 : decode cX11_leaves 79 = .ok (.iload_n 1, 1) := by decide +kernel
theorem dX11_leaves_80 : decode cX11_leaves 80 = .ok (.iaload, 1) := by decide +kernel
theorem dX11_leaves_81 : decode cX11_leaves 81 = .ok (.istore_n 3, 1) := by decide +kernel
theorem dX11_leaves_82 : decode cX11_leaves 82 = .ok (.iload_n 3, 1) := by decide +kernel
theorem dX11_leaves_83 : decode cX11_leaves 83 = .ok (.iconst 3, 1) := by decide +kernel
theorem dX11_leaves_84 : decode cX11_leaves 84 = .ok (.if_icmp .ne 20, 3) := by decide +kernel
theorem dX11_leaves_87 : decode cX11_leaves 87 = .ok (.aload_n 0, 1) := by decide +kernel
theorem dX11_leaves_88 : decode cX11_leaves 88 = .ok (.getfield 37, 3) := by decide +kernel
theorem dX11_leaves_91 : decode cX11_leaves 91 = .ok (.iconst 3, 1) := by decide +kernel
theorem dX11_leaves_92 : decode cX11_leaves 92 = .ok (.dup2, 1) := by decide +kernel
theorem dX11_leaves_93 : decode cX11_leaves 93 = .ok (.iaload, 1) := by decide +kernel
theorem dX11_leaves_94 : decode cX11_leaves 94 = .ok (.iconst 1, 1) := by decide +kernel
theorem dX11_leaves_95 : decode cX11_leaves 95 = .ok (.iadd, 1) := by decide +kernel
theorem dX11_leaves_96 : decode cX11_leaves 96 = .ok (.iastore, 1) := by decide +kernel
theorem dX11_leaves_97 : decode cX11_leaves 97 = .ok (.aload_n 0, 1) := by decide +kernel
theorem dX11_leaves_98 : decode cX11_leaves 98 = .ok (.getfield 31, 3) := by decide +kernel
theorem dX11_leaves_101 : decode cX11_leaves 101 = .ok (.iload_n 1, 1) := by decide +kernel
theorem dX11_leaves_102 : decode cX11_leaves 102 = .ok (.iconst 0, 1) := by decide +kernel
theorem dX11_leaves_103 : decode cX11_leaves 103 = .ok (.iastore, 1) := by decide +kernel
theorem dX11_leaves_104 : decode cX11_leaves 104 = .ok (.iload_n 3, 1) := by decide +kernel
theorem dX11_leaves_105 : decode cX11_leaves 105 = .ok (.iconst 4, 1) := by decide +kernel
theorem dX11_leaves_106 : decode cX11_leaves 106 = .ok (.bipush 7, 2) := by decide +kernel
theorem dX11_leaves_108 : decode cX11_leaves 108 = .ok (.invokestatic 50, 3) := by decide +kernel
theorem dX11_leaves_111 : decode cX11_leaves 111 = .ok (.ifCond .eq 27, 3) := by decide +kernel
theorem dX11_leaves_114 : decode cX11_leaves 114 = .ok (.aload_n 0, 1) := by decide +kernel
theorem dX11_leaves_115 : decode cX11_leaves 115 = .ok (.getfield 37, 3) := by decide +kernel
theorem dX11_leaves_118 : decode cX11_leaves 118 = .ok (.iconst 4, 1) := by decide +kernel
theorem dX11_leaves_119 : decode cX11_leaves 119 = .ok (.dup2, 1) := by decide +kernel
theorem dX11_leaves_120 : decode cX11_leaves 120 = .ok (.iaload, 1) := by decide +kernel
theorem dX11_leaves_121 : decode cX11_leaves 121 = .ok (.iconst 1, 1) := by decide +kernel
theorem dX11_leaves_122 : decode cX11_leaves 122 = .ok (.iadd, 1) := by decide +kernel
theorem dX11_leaves_123 : decode cX11_leaves 123 = .ok (.iastore, 1) := by decide +kernel
theorem dX11_leaves_124 : decode cX11_leaves 124 = .ok (.aload_n 0, 1) := by decide +kernel
theorem dX11_leaves_125 : decode cX11_leaves 125 = .ok (.getfield 16, 3) := by decide +kernel
theorem dX11_leaves_128 : decode cX11_leaves 128 = .ok (.iload_n 1, 1) := by decide +kernel
theorem dX11_leaves_129 : decode cX11_leaves 129 = .ok (.aload_n 0, 1) := by decide +kernel
theorem dX11_leaves_130 : decode cX11_leaves 130 = .ok (.getfield 16, 3) := by decide +kernel
theorem dX11_leaves_133 : decode cX11_leaves 133 = .ok (.iload_n 1, 1) := by decide +kernel
theorem dX11_leaves_134 : decode cX11_leaves 134 = .ok (.iaload, 1) := by decide +kernel
theorem dX11_leaves_135 : decode cX11_leaves 135 = .ok (.iconst 2, 1) := by decide +kernel
theorem dX11_leaves_136 : decode cX11_leaves 136 = .ok (.idiv, 1) := by decide +kernel
theorem dX11_leaves_137 : decode cX11_leaves 137 = .ok (.iastore, 1) := by decide +kernel
theorem dX11_leaves_138 : decode cX11_leaves 138 = .ok (.iload_n 3, 1) := by decide +kernel
theorem dX11_leaves_139 : decode cX11_leaves 139 = .ok (.iconst 5, 1) := by decide +kernel
theorem dX11_leaves_140 : decode cX11_leaves 140 = .ok (.if_icmp .ne 43, 3) := by decide +kernel
theorem dX11_leaves_143 : decode cX11_leaves 143 = .ok (.aload_n 0, 1) := by decide +kernel
theorem dX11_leaves_144 : decode cX11_leaves 144 = .ok (.getfield 37, 3) := by decide +kernel
theorem dX11_leaves_147 : decode cX11_leaves 147 = .ok (.iconst 5, 1) := by decide +kernel
theorem dX11_leaves_148 : decode cX11_leaves 148 = .ok (.dup2, 1) := by decide +kernel
theorem dX11_leaves_149 : decode cX11_leaves 149 = .ok (.iaload, 1) := by decide +kernel
theorem dX11_leaves_150 : decode cX11_leaves 150 = .ok (.iconst 1, 1) := by decide +kernel
theorem dX11_leaves_151 : decode cX11_leaves 151 = .ok (.iadd, 1) := by decide +kernel
theorem dX11_leaves_152 : decode cX11_leaves 152 = .ok (.iastore, 1) := by decide +kernel
theorem dX11_leaves_153 : decode cX11_leaves 153 = .ok (.aload_n 0, 1) := by decide +kernel
theorem dX11_leaves_154 : decode cX11_leaves 154 = .ok (.aload_n 0, 1) := by decide +kernel
theorem dX11_leaves_155 : decode cX11_leaves 155 = .ok (.getfield 40, 3) := by decide +kernel
theorem dX11_leaves_158 : decode cX11_leaves 158 = .ok (.bipush 100, 2) := by decide +kernel
theorem dX11_leaves_160 : decode cX11_leaves 160 = .ok (.iadd, 1) := by decide +kernel
theorem dX11_leaves_161 : decode cX11_leaves 161 = .ok (.sipush 9000, 3) := by decide +kernel
theorem dX11_leaves_164 : decode cX11_leaves 164 = .ok (.if_icmp .le 9, 3) := by decide +kernel
theorem dX11_leaves_167 : decode cX11_leaves 167 = .ok (.sipush 9000, 3) := by decide +kernel
theorem dX11_leaves_170 : decode cX11_leaves 170 = .ok (.goto 10, 3) := by decide +kernel
theorem dX11_leaves_173 : decode cX11_leaves 173 = .ok (.aload_n 0, 1) := by decide +kernel
theorem dX11_leaves_174 : decode cX11_leaves 174 = .ok (.getfield 40, 3) := by decide +kernel
theorem dX11_leaves_177 : decode cX11_leaves 177 = .ok (.bipush 100, 2) := by decide +kernel
theorem dX11_leaves_179 : decode cX11_leaves 179 = .ok (.iadd, 1) := by decide +kernel
theorem dX11_leaves_180 : decode cX11_leaves 180 = .ok (.putfield 40, 3) := by decide +kernel
theorem dX11_leaves_183 : decode cX11_leaves 183 = .ok (.return_, 1) := by decide +kernel
theorem dX11_rebateOf_0 : decode cX11_rebateOf 0 = .ok (.aload_n 0, 1) := by decide +kernel
theorem dX11_rebateOf_1 : decode cX11_rebateOf 1 = .ok (.getfield 37, 3) := by decide +kernel
theorem dX11_rebateOf_4 : decode cX11_rebateOf 4 = .ok (.iconst 0, 1) := by decide +kernel
theorem dX11_rebateOf_5 : decode cX11_rebateOf 5 = .ok (.dup2, 1) := by decide +kernel
theorem dX11_rebateOf_6 : decode cX11_rebateOf 6 = .ok (.iaload, 1) := by decide +kernel
theorem dX11_rebateOf_7 : decode cX11_rebateOf 7 = .ok (.iconst 1, 1) := by decide +kernel
theorem dX11_rebateOf_8 : decode cX11_rebateOf 8 = .ok (.iadd, 1) := by decide +kernel
theorem dX11_rebateOf_9 : decode cX11_rebateOf 9 = .ok (.iastore, 1) := by decide +kernel
theorem dX11_rebateOf_10 : decode cX11_rebateOf 10 = .ok (.aload_n 0, 1) := by decide +kernel
theorem dX11_rebateOf_11 : decode cX11_rebateOf 11 = .ok (.getfield 19, 3) := by decide +kernel
theorem dX11_rebateOf_14 : decode cX11_rebateOf 14 = .ok (.iload_n 1, 1) := by decide +kernel
theorem dX11_rebateOf_15 : decode cX11_rebateOf 15 = .ok (.iaload, 1) := by decide +kernel
theorem dX11_rebateOf_16 : decode cX11_rebateOf 16 = .ok (.istore_n 2, 1) := by decide +kernel
theorem dX11_rebateOf_17 : decode cX11_rebateOf 17 = .ok (.aload_n 0, 1) := by decide +kernel
theorem dX11_rebateOf_18 : decode cX11_rebateOf 18 = .ok (.getfield 7, 3) := by decide +kernel
theorem dX11_rebateOf_21 : decode cX11_rebateOf 21 = .ok (.iload_n 1, 1) := by decide +kernel
theorem dX11_rebateOf_22 : decode cX11_rebateOf 22 = .ok (.iaload, 1) := by decide +kernel
theorem dX11_rebateOf_23 : decode cX11_rebateOf 23 = .ok (.iconst 2, 1) := by decide +kernel
theorem dX11_rebateOf_24 : decode cX11_rebateOf 24 = .ok (.iconst 3, 1) := by decide +kernel
theorem dX11_rebateOf_25 : decode cX11_rebateOf 25 = .ok (.invokestatic 50, 3) := by decide +kernel
theorem dX11_rebateOf_28 : decode cX11_rebateOf 28 = .ok (.ifCond .eq 20, 3) := by decide +kernel
theorem dX11_rebateOf_31 : decode cX11_rebateOf 31 = .ok (.aload_n 0, 1) := by decide +kernel
theorem dX11_rebateOf_32 : decode cX11_rebateOf 32 = .ok (.getfield 37, 3) := by decide +kernel
theorem dX11_rebateOf_35 : decode cX11_rebateOf 35 = .ok (.iconst 2, 1) := by decide +kernel
theorem dX11_rebateOf_36 : decode cX11_rebateOf 36 = .ok (.dup2, 1) := by decide +kernel
theorem dX11_rebateOf_37 : decode cX11_rebateOf 37 = .ok (.iaload, 1) := by decide +kernel
theorem dX11_rebateOf_38 : decode cX11_rebateOf 38 = .ok (.iconst 1, 1) := by decide +kernel
theorem dX11_rebateOf_39 : decode cX11_rebateOf 39 = .ok (.iadd, 1) := by decide +kernel
theorem dX11_rebateOf_40 : decode cX11_rebateOf 40 = .ok (.iastore, 1) := by decide +kernel
theorem dX11_rebateOf_41 : decode cX11_rebateOf 41 = .ok (.iload_n 2, 1) := by decide +kernel
theorem dX11_rebateOf_42 : decode cX11_rebateOf 42 = .ok (.iconst 5, 1) := by decide +kernel
theorem dX11_rebateOf_43 : decode cX11_rebateOf 43 = .ok (.iadd, 1) := by decide +kernel
theorem dX11_rebateOf_44 : decode cX11_rebateOf 44 = .ok (.istore_n 2, 1) := by decide +kernel
theorem dX11_rebateOf_45 : decode cX11_rebateOf 45 = .ok (.goto 29, 3) := by decide +kernel
theorem dX11_rebateOf_48 : decode cX11_rebateOf 48 = .ok (.aload_n 0, 1) := by decide +kernel
theorem dX11_rebateOf_49 : decode cX11_rebateOf 49 = .ok (.getfield 7, 3) := by decide +kernel
theorem dX11_rebateOf_52 : decode cX11_rebateOf 52 = .ok (.iload_n 1, 1) := by decide +kernel
theorem dX11_rebateOf_53 : decode cX11_rebateOf 53 = .ok (.iaload, 1) := by decide +kernel
theorem dX11_rebateOf_54 : decode cX11_rebateOf 54 = .ok (.bipush 7, 2) := by decide +kernel
theorem dX11_rebateOf_56 : decode cX11_rebateOf 56 = .ok (.if_icmp .ne 18, 3) := by decide +kernel
theorem dX11_rebateOf_59 : decode cX11_rebateOf 59 = .ok (.aload_n 0, 1) := by decide +kernel
theorem dX11_rebateOf_60 : decode cX11_rebateOf 60 = .ok (.getfield 37, 3) := by decide +kernel
theorem dX11_rebateOf_63 : decode cX11_rebateOf 63 = .ok (.bipush 7, 2) := by decide +kernel
theorem dX11_rebateOf_65 : decode cX11_rebateOf 65 = .ok (.dup2, 1) := by decide +kernel
theorem dX11_rebateOf_66 : decode cX11_rebateOf 66 = .ok (.iaload, 1) := by decide +kernel
theorem dX11_rebateOf_67 : decode cX11_rebateOf 67 = .ok (.iconst 1, 1) := by decide +kernel
theorem dX11_rebateOf_68 : decode cX11_rebateOf 68 = .ok (.iadd, 1) := by decide +kernel
theorem dX11_rebateOf_69 : decode cX11_rebateOf 69 = .ok (.iastore, 1) := by decide +kernel
theorem dX11_rebateOf_70 : decode cX11_rebateOf 70 = .ok (.iconst 2, 1) := by decide +kernel
theorem dX11_rebateOf_71 : decode cX11_rebateOf 71 = .ok (.iload_n 2, 1) := by decide +kernel
theorem dX11_rebateOf_72 : decode cX11_rebateOf 72 = .ok (.imul, 1) := by decide +kernel
theorem dX11_rebateOf_73 : decode cX11_rebateOf 73 = .ok (.istore_n 2, 1) := by decide +kernel
theorem dX11_rebateOf_74 : decode cX11_rebateOf 74 = .ok (.iload_n 2, 1) := by decide +kernel
theorem dX11_rebateOf_75 : decode cX11_rebateOf 75 = .ok (.bipush 100, 2) := by decide +kernel
theorem dX11_rebateOf_77 : decode cX11_rebateOf 77 = .ok (.if_icmp .le 8, 3) := by decide +kernel
theorem dX11_rebateOf_80 : decode cX11_rebateOf 80 = .ok (.bipush 100, 2) := by decide +kernel
theorem dX11_rebateOf_82 : decode cX11_rebateOf 82 = .ok (.goto 4, 3) := by decide +kernel
theorem dX11_rebateOf_85 : decode cX11_rebateOf 85 = .ok (.iload_n 2, 1) := by decide +kernel
theorem dX11_rebateOf_86 : decode cX11_rebateOf 86 = .ok (.ireturn, 1) := by decide +kernel
theorem dX11_hasAccount_0 : decode cX11_hasAccount 0 = .ok (.aload_n 0, 1) := by decide +kernel
theorem dX11_hasAccount_1 : decode cX11_hasAccount 1 = .ok (.getfield 7, 3) := by decide +kernel
theorem dX11_hasAccount_4 : decode cX11_hasAccount 4 = .ok (.iload_n 1, 1) := by decide +kernel
theorem dX11_hasAccount_5 : decode cX11_hasAccount 5 = .ok (.iaload, 1) := by decide +kernel
theorem dX11_hasAccount_6 : decode cX11_hasAccount 6 = .ok (.iconst 3, 1) := by decide +kernel
theorem dX11_hasAccount_7 : decode cX11_hasAccount 7 = .ok (.if_icmp .eq 25, 3) := by decide +kernel
theorem dX11_hasAccount_10 : decode cX11_hasAccount 10 = .ok (.aload_n 0, 1) := by decide +kernel
theorem dX11_hasAccount_11 : decode cX11_hasAccount 11 = .ok (.getfield 7, 3) := by decide +kernel
theorem dX11_hasAccount_14 : decode cX11_hasAccount 14 = .ok (.iload_n 1, 1) := by decide +kernel
theorem dX11_hasAccount_15 : decode cX11_hasAccount 15 = .ok (.iaload, 1) := by decide +kernel
theorem dX11_hasAccount_16 : decode cX11_hasAccount 16 = .ok (.bipush 6, 2) := by decide +kernel
theorem dX11_hasAccount_18 : decode cX11_hasAccount 18 = .ok (.if_icmp .eq 14, 3) := by decide +kernel
theorem dX11_hasAccount_21 : decode cX11_hasAccount 21 = .ok (.aload_n 0, 1) := by decide +kernel
theorem dX11_hasAccount_22 : decode cX11_hasAccount 22 = .ok (.getfield 7, 3) := by decide +kernel
theorem dX11_hasAccount_25 : decode cX11_hasAccount 25 = .ok (.iload_n 1, 1) := by decide +kernel
theorem dX11_hasAccount_26 : decode cX11_hasAccount 26 = .ok (.iaload, 1) := by decide +kernel
theorem dX11_hasAccount_27 : decode cX11_hasAccount 27 = .ok (.bipush 7, 2) := by decide +kernel
theorem dX11_hasAccount_29 : decode cX11_hasAccount 29 = .ok (.if_icmp .ne 7, 3) := by decide +kernel
theorem dX11_hasAccount_32 : decode cX11_hasAccount 32 = .ok (.iconst 1, 1) := by decide +kernel
theorem dX11_hasAccount_33 : decode cX11_hasAccount 33 = .ok (.goto 4, 3) := by decide +kernel
theorem dX11_hasAccount_36 : decode cX11_hasAccount 36 = .ok (.iconst 0, 1) := by decide +kernel
theorem dX11_hasAccount_37 : decode cX11_hasAccount 37 = .ok (.ireturn, 1) := by decide +kernel
theorem dX11_billOf_0 : decode cX11_billOf 0 = .ok (.aload_n 0, 1) := by decide +kernel
theorem dX11_billOf_1 : decode cX11_billOf 1 = .ok (.iload_n 1, 1) := by decide +kernel
theorem dX11_billOf_2 : decode cX11_billOf 2 = .ok (.iload_n 2, 1) := by decide +kernel
theorem dX11_billOf_3 : decode cX11_billOf 3 = .ok (.invokevirtual 84, 3) := by decide +kernel
theorem dX11_billOf_6 : decode cX11_billOf 6 = .ok (.istore_n 3, 1) := by decide +kernel
theorem dX11_billOf_7 : decode cX11_billOf 7 = .ok (.iload_n 3, 1) := by decide +kernel
theorem dX11_billOf_8 : decode cX11_billOf 8 = .ok (.iload_n 3, 1) := by decide +kernel
theorem dX11_billOf_9 : decode cX11_billOf 9 = .ok (.aload_n 0, 1) := by decide +kernel
theorem dX11_billOf_10 : decode cX11_billOf 10 = .ok (.iload_n 1, 1) := by decide +kernel
theorem dX11_billOf_11 : decode cX11_billOf 11 = .ok (.invokevirtual 91, 3) := by decide +kernel
theorem dX11_billOf_14 : decode cX11_billOf 14 = .ok (.imul, 1) := by decide +kernel
theorem dX11_billOf_15 : decode cX11_billOf 15 = .ok (.bipush 100, 2) := by decide +kernel
theorem dX11_billOf_17 : decode cX11_billOf 17 = .ok (.idiv, 1) := by decide +kernel
theorem dX11_billOf_18 : decode cX11_billOf 18 = .ok (.isub, 1) := by decide +kernel
theorem dX11_billOf_19 : decode cX11_billOf 19 = .ok (.ireturn, 1) := by decide +kernel
theorem dX11_weight_0 : decode cX11_weight 0 = .ok (.aload_n 0, 1) := by decide +kernel
theorem dX11_weight_1 : decode cX11_weight 1 = .ok (.iconst 0, 1) := by decide +kernel
theorem dX11_weight_2 : decode cX11_weight 2 = .ok (.putfield 44, 3) := by decide +kernel
theorem dX11_weight_5 : decode cX11_weight 5 = .ok (.aload_n 0, 1) := by decide +kernel
theorem dX11_weight_6 : decode cX11_weight 6 = .ok (.iload_n 1, 1) := by decide +kernel
theorem dX11_weight_7 : decode cX11_weight 7 = .ok (.invokevirtual 94, 3) := by decide +kernel
theorem dX11_weight_10 : decode cX11_weight 10 = .ok (.ifCond .eq 11, 3) := by decide +kernel
theorem dX11_weight_13 : decode cX11_weight 13 = .ok (.aload_n 0, 1) := by decide +kernel
theorem dX11_weight_14 : decode cX11_weight 14 = .ok (.iload_n 1, 1) := by decide +kernel
theorem dX11_weight_15 : decode cX11_weight 15 = .ok (.invokevirtual 54, 3) := by decide +kernel
theorem dX11_weight_18 : decode cX11_weight 18 = .ok (.goto 5, 3) := by decide +kernel
theorem dX11_weight_21 : decode cX11_weight 21 = .ok (.bipush (-101), 2) := by decide +kernel
theorem dX11_weight_23 : decode cX11_weight 23 = .ok (.ireturn, 1) := by decide +kernel
theorem dX11_toll_0 : decode cX11_toll 0 = .ok (.aload_n 0, 1) := by decide +kernel
theorem dX11_toll_1 : decode cX11_toll 1 = .ok (.iconst 0, 1) := by decide +kernel
theorem dX11_toll_2 : decode cX11_toll 2 = .ok (.putfield 44, 3) := by decide +kernel
theorem dX11_toll_5 : decode cX11_toll 5 = .ok (.aload_n 0, 1) := by decide +kernel
theorem dX11_toll_6 : decode cX11_toll 6 = .ok (.iload_n 1, 1) := by decide +kernel
theorem dX11_toll_7 : decode cX11_toll 7 = .ok (.invokevirtual 94, 3) := by decide +kernel
theorem dX11_toll_10 : decode cX11_toll 10 = .ok (.ifCond .ne 6, 3) := by decide +kernel
theorem dX11_toll_13 : decode cX11_toll 13 = .ok (.bipush (-101), 2) := by decide +kernel
theorem dX11_toll_15 : decode cX11_toll 15 = .ok (.ireturn, 1) := by decide +kernel
theorem dX11_toll_16 : decode cX11_toll 16 = .ok (.iload_n 2, 1) := by decide +kernel
theorem dX11_toll_17 : decode cX11_toll 17 = .ok (.invokestatic 97, 3) := by decide +kernel
theorem dX11_toll_20 : decode cX11_toll 20 = .ok (.ifCond .ne 6, 3) := by decide +kernel
theorem dX11_toll_23 : decode cX11_toll 23 = .ok (.bipush (-102), 2) := by decide +kernel
theorem dX11_toll_25 : decode cX11_toll 25 = .ok (.ireturn, 1) := by decide +kernel
theorem dX11_toll_26 : decode cX11_toll 26 = .ok (.aload_n 0, 1) := by decide +kernel
theorem dX11_toll_27 : decode cX11_toll 27 = .ok (.iload_n 1, 1) := by decide +kernel
theorem dX11_toll_28 : decode cX11_toll 28 = .ok (.iload_n 2, 1) := by decide +kernel
theorem dX11_toll_29 : decode cX11_toll 29 = .ok (.invokevirtual 84, 3) := by decide +kernel
theorem dX11_toll_32 : decode cX11_toll 32 = .ok (.istore_n 3, 1) := by decide +kernel
theorem dX11_toll_33 : decode cX11_toll 33 = .ok (.aload_n 0, 1) := by decide +kernel
theorem dX11_toll_34 : decode cX11_toll 34 = .ok (.aload_n 0, 1) := by decide +kernel
theorem dX11_toll_35 : decode cX11_toll 35 = .ok (.getfield 58, 3) := by decide +kernel
theorem dX11_toll_38 : decode cX11_toll 38 = .ok (.ifCond .eq 7, 3) := by decide +kernel
theorem dX11_toll_41 : decode cX11_toll 41 = .ok (.iconst 1, 1) := by decide +kernel
theorem dX11_toll_42 : decode cX11_toll 42 = .ok (.goto 4, 3) := by decide +kernel
theorem dX11_toll_45 : decode cX11_toll 45 = .ok (.iconst 0, 1) := by decide +kernel
theorem dX11_toll_46 : decode cX11_toll 46 = .ok (.putfield 44, 3) := by decide +kernel
theorem dX11_toll_49 : decode cX11_toll 49 = .ok (.iload_n 3, 1) := by decide +kernel
theorem dX11_toll_50 : decode cX11_toll 50 = .ok (.ireturn, 1) := by decide +kernel
theorem dX11_fits_0 : decode cX11_fits 0 = .ok (.aload_n 0, 1) := by decide +kernel
theorem dX11_fits_1 : decode cX11_fits 1 = .ok (.iconst 0, 1) := by decide +kernel
theorem dX11_fits_2 : decode cX11_fits 2 = .ok (.putfield 44, 3) := by decide +kernel
theorem dX11_fits_5 : decode cX11_fits 5 = .ok (.aload_n 0, 1) := by decide +kernel
theorem dX11_fits_6 : decode cX11_fits 6 = .ok (.iload_n 1, 1) := by decide +kernel
theorem dX11_fits_7 : decode cX11_fits 7 = .ok (.invokevirtual 94, 3) := by decide +kernel
theorem dX11_fits_10 : decode cX11_fits 10 = .ok (.ifCond .ne 8, 3) := by decide +kernel
theorem dX11_fits_13 : decode cX11_fits 13 = .ok (.bipush (-101), 2) := by decide +kernel
theorem dX11_fits_15 : decode cX11_fits 15 = .ok (.goto 16, 3) := by decide +kernel
theorem dX11_fits_18 : decode cX11_fits 18 = .ok (.aload_n 0, 1) := by decide +kernel
theorem dX11_fits_19 : decode cX11_fits 19 = .ok (.iload_n 1, 1) := by decide +kernel
theorem dX11_fits_20 : decode cX11_fits 20 = .ok (.invokevirtual 78, 3) := by decide +kernel
theorem dX11_fits_23 : decode cX11_fits 23 = .ok (.ifCond .eq 7, 3) := by decide +kernel
theorem dX11_fits_26 : decode cX11_fits 26 = .ok (.iconst 1, 1) := by decide +kernel
theorem dX11_fits_27 : decode cX11_fits 27 = .ok (.goto 4, 3) := by decide +kernel
theorem dX11_fits_30 : decode cX11_fits 30 = .ok (.iconst 0, 1) := by decide +kernel
theorem dX11_fits_31 : decode cX11_fits 31 = .ok (.ireturn, 1) := by decide +kernel
theorem dX11_enter_0 : decode cX11_enter 0 = .ok (.aload_n 0, 1) := by decide +kernel
theorem dX11_enter_1 : decode cX11_enter 1 = .ok (.iconst 0, 1) := by decide +kernel
theorem dX11_enter_2 : decode cX11_enter 2 = .ok (.putfield 44, 3) := by decide +kernel
theorem dX11_enter_5 : decode cX11_enter 5 = .ok (.aload_n 0, 1) := by decide +kernel
theorem dX11_enter_6 : decode cX11_enter 6 = .ok (.iload_n 1, 1) := by decide +kernel
theorem dX11_enter_7 : decode cX11_enter 7 = .ok (.invokevirtual 94, 3) := by decide +kernel
theorem dX11_enter_10 : decode cX11_enter 10 = .ok (.ifCond .ne 6, 3) := by decide +kernel
theorem dX11_enter_13 : decode cX11_enter 13 = .ok (.bipush (-101), 2) := by decide +kernel
theorem dX11_enter_15 : decode cX11_enter 15 = .ok (.ireturn, 1) := by decide +kernel
theorem dX11_enter_16 : decode cX11_enter 16 = .ok (.iload_n 2, 1) := by decide +kernel
theorem dX11_enter_17 : decode cX11_enter 17 = .ok (.invokestatic 97, 3) := by decide +kernel
theorem dX11_enter_20 : decode cX11_enter 20 = .ok (.ifCond .ne 6, 3) := by decide +kernel
theorem dX11_enter_23 : decode cX11_enter 23 = .ok (.bipush (-102), 2) := by decide +kernel
theorem dX11_enter_25 : decode cX11_enter 25 = .ok (.ireturn, 1) := by decide +kernel
theorem dX11_enter_26 : decode cX11_enter 26 = .ok (.aload_n 0, 1) := by decide +kernel
theorem dX11_enter_27 : decode cX11_enter 27 = .ok (.getfield 22, 3) := by decide +kernel
theorem dX11_enter_30 : decode cX11_enter 30 = .ok (.iload_n 1, 1) := by decide +kernel
theorem dX11_enter_31 : decode cX11_enter 31 = .ok (.iaload, 1) := by decide +kernel
theorem dX11_enter_32 : decode cX11_enter 32 = .ok (.iconst 1, 1) := by decide +kernel
theorem dX11_enter_33 : decode cX11_enter 33 = .ok (.if_icmp .ne 6, 3) := by decide +kernel
theorem dX11_enter_36 : decode cX11_enter 36 = .ok (.bipush (-103), 2) := by decide +kernel
theorem dX11_enter_38 : decode cX11_enter 38 = .ok (.ireturn, 1) := by decide +kernel
theorem dX11_enter_39 : decode cX11_enter 39 = .ok (.aload_n 0, 1) := by decide +kernel
theorem dX11_enter_40 : decode cX11_enter 40 = .ok (.aload_n 0, 1) := by decide +kernel
theorem dX11_enter_41 : decode cX11_enter 41 = .ok (.iload_n 1, 1) := by decide +kernel
theorem dX11_enter_42 : decode cX11_enter 42 = .ok (.iload_n 2, 1) := by decide +kernel
theorem dX11_enter_43 : decode cX11_enter 43 = .ok (.invokevirtual 100, 3) := by decide +kernel
theorem dX11_enter_46 : decode cX11_enter 46 = .ok (.putfield 44, 3) := by decide +kernel
theorem dX11_enter_49 : decode cX11_enter 49 = .ok (.aload_n 0, 1) := by decide +kernel
theorem dX11_enter_50 : decode cX11_enter 50 = .ok (.getfield 44, 3) := by decide +kernel
theorem dX11_enter_53 : decode cX11_enter 53 = .ok (.ifCond .ne 12, 3) := by decide +kernel
theorem dX11_enter_56 : decode cX11_enter 56 = .ok (.aload_n 0, 1) := by decide +kernel
theorem dX11_enter_57 : decode cX11_enter 57 = .ok (.getfield 25, 3) := by decide +kernel
theorem dX11_enter_60 : decode cX11_enter 60 = .ok (.iload_n 1, 1) := by decide +kernel
theorem dX11_enter_61 : decode cX11_enter 61 = .ok (.iaload, 1) := by decide +kernel
theorem dX11_enter_62 : decode cX11_enter 62 = .ok (.goto 4, 3) := by decide +kernel
theorem dX11_enter_65 : decode cX11_enter 65 = .ok (.iconst 0, 1) := by decide +kernel
theorem dX11_enter_66 : decode cX11_enter 66 = .ok (.ireturn, 1) := by decide +kernel
theorem dX11_leave_0 : decode cX11_leave 0 = .ok (.aload_n 0, 1) := by decide +kernel
theorem dX11_leave_1 : decode cX11_leave 1 = .ok (.iconst 0, 1) := by decide +kernel
theorem dX11_leave_2 : decode cX11_leave 2 = .ok (.putfield 44, 3) := by decide +kernel
theorem dX11_leave_5 : decode cX11_leave 5 = .ok (.aload_n 0, 1) := by decide +kernel
theorem dX11_leave_6 : decode cX11_leave 6 = .ok (.iload_n 1, 1) := by decide +kernel
theorem dX11_leave_7 : decode cX11_leave 7 = .ok (.invokevirtual 94, 3) := by decide +kernel
theorem dX11_leave_10 : decode cX11_leave 10 = .ok (.ifCond .ne 6, 3) := by decide +kernel
theorem dX11_leave_13 : decode cX11_leave 13 = .ok (.bipush (-101), 2) := by decide +kernel
theorem dX11_leave_15 : decode cX11_leave 15 = .ok (.ireturn, 1) := by decide +kernel
theorem dX11_leave_16 : decode cX11_leave 16 = .ok (.aload_n 0, 1) := by decide +kernel
theorem dX11_leave_17 : decode cX11_leave 17 = .ok (.getfield 22, 3) := by decide +kernel
theorem dX11_leave_20 : decode cX11_leave 20 = .ok (.iload_n 1, 1) := by decide +kernel
theorem dX11_leave_21 : decode cX11_leave 21 = .ok (.iaload, 1) := by decide +kernel
theorem dX11_leave_22 : decode cX11_leave 22 = .ok (.ifCond .ne 6, 3) := by decide +kernel
theorem dX11_leave_25 : decode cX11_leave 25 = .ok (.bipush (-103), 2) := by decide +kernel
theorem dX11_leave_27 : decode cX11_leave 27 = .ok (.ireturn, 1) := by decide +kernel
theorem dX11_leave_28 : decode cX11_leave 28 = .ok (.aload_n 0, 1) := by decide +kernel
theorem dX11_leave_29 : decode cX11_leave 29 = .ok (.iload_n 1, 1) := by decide +kernel
theorem dX11_leave_30 : decode cX11_leave 30 = .ok (.invokevirtual 103, 3) := by decide +kernel
theorem dX11_leave_33 : decode cX11_leave 33 = .ok (.aload_n 0, 1) := by decide +kernel
theorem dX11_leave_34 : decode cX11_leave 34 = .ok (.getfield 68, 3) := by decide +kernel
theorem dX11_leave_37 : decode cX11_leave 37 = .ok (.ireturn, 1) := by decide +kernel
theorem dX11_rebate_0 : decode cX11_rebate 0 = .ok (.aload_n 0, 1) := by decide +kernel
theorem dX11_rebate_1 : decode cX11_rebate 1 = .ok (.iconst 0, 1) := by decide +kernel
theorem dX11_rebate_2 : decode cX11_rebate 2 = .ok (.putfield 44, 3) := by decide +kernel
theorem dX11_rebate_5 : decode cX11_rebate 5 = .ok (.aload_n 0, 1) := by decide +kernel
theorem dX11_rebate_6 : decode cX11_rebate 6 = .ok (.iload_n 1, 1) := by decide +kernel
theorem dX11_rebate_7 : decode cX11_rebate 7 = .ok (.invokevirtual 94, 3) := by decide +kernel
theorem dX11_rebate_10 : decode cX11_rebate 10 = .ok (.ifCond .eq 11, 3) := by decide +kernel
theorem dX11_rebate_13 : decode cX11_rebate 13 = .ok (.aload_n 0, 1) := by decide +kernel
theorem dX11_rebate_14 : decode cX11_rebate 14 = .ok (.iload_n 1, 1) := by decide +kernel
theorem dX11_rebate_15 : decode cX11_rebate 15 = .ok (.invokevirtual 91, 3) := by decide +kernel
theorem dX11_rebate_18 : decode cX11_rebate 18 = .ok (.goto 5, 3) := by decide +kernel
theorem dX11_rebate_21 : decode cX11_rebate 21 = .ok (.bipush (-101), 2) := by decide +kernel
theorem dX11_rebate_23 : decode cX11_rebate 23 = .ok (.ireturn, 1) := by decide +kernel
theorem dX11_bill_0 : decode cX11_bill 0 = .ok (.aload_n 0, 1) := by decide +kernel
theorem dX11_bill_1 : decode cX11_bill 1 = .ok (.iconst 0, 1) := by decide +kernel
theorem dX11_bill_2 : decode cX11_bill 2 = .ok (.putfield 44, 3) := by decide +kernel
theorem dX11_bill_5 : decode cX11_bill 5 = .ok (.aload_n 0, 1) := by decide +kernel
theorem dX11_bill_6 : decode cX11_bill 6 = .ok (.iload_n 1, 1) := by decide +kernel
theorem dX11_bill_7 : decode cX11_bill 7 = .ok (.invokevirtual 94, 3) := by decide +kernel
theorem dX11_bill_10 : decode cX11_bill 10 = .ok (.ifCond .ne 6, 3) := by decide +kernel
theorem dX11_bill_13 : decode cX11_bill 13 = .ok (.bipush (-101), 2) := by decide +kernel
theorem dX11_bill_15 : decode cX11_bill 15 = .ok (.ireturn, 1) := by decide +kernel
theorem dX11_bill_16 : decode cX11_bill 16 = .ok (.iload_n 2, 1) := by decide +kernel
theorem dX11_bill_17 : decode cX11_bill 17 = .ok (.invokestatic 97, 3) := by decide +kernel
theorem dX11_bill_20 : decode cX11_bill 20 = .ok (.ifCond .ne 6, 3) := by decide +kernel
theorem dX11_bill_23 : decode cX11_bill 23 = .ok (.bipush (-102), 2) := by decide +kernel
theorem dX11_bill_25 : decode cX11_bill 25 = .ok (.ireturn, 1) := by decide +kernel
theorem dX11_bill_26 : decode cX11_bill 26 = .ok (.aload_n 0, 1) := by decide +kernel
theorem dX11_bill_27 : decode cX11_bill 27 = .ok (.iload_n 1, 1) := by decide +kernel
theorem dX11_bill_28 : decode cX11_bill 28 = .ok (.invokevirtual 107, 3) := by decide +kernel
theorem dX11_bill_31 : decode cX11_bill 31 = .ok (.ifCond .eq 12, 3) := by decide +kernel
theorem dX11_bill_34 : decode cX11_bill 34 = .ok (.aload_n 0, 1) := by decide +kernel
theorem dX11_bill_35 : decode cX11_bill 35 = .ok (.iload_n 1, 1) := by decide +kernel
theorem dX11_bill_36 : decode cX11_bill 36 = .ok (.iload_n 2, 1) := by decide +kernel
theorem dX11_bill_37 : decode cX11_bill 37 = .ok (.invokevirtual 110, 3) := by decide +kernel
theorem dX11_bill_40 : decode cX11_bill 40 = .ok (.goto 5, 3) := by decide +kernel
theorem dX11_bill_43 : decode cX11_bill 43 = .ok (.bipush (-103), 2) := by decide +kernel
theorem dX11_bill_45 : decode cX11_bill 45 = .ok (.ireturn, 1) := by decide +kernel
theorem dX11_month_0 : decode cX11_month 0 = .ok (.aload_n 0, 1) := by decide +kernel
theorem dX11_month_1 : decode cX11_month 1 = .ok (.iconst 0, 1) := by decide +kernel
theorem dX11_month_2 : decode cX11_month 2 = .ok (.putfield 44, 3) := by decide +kernel
theorem dX11_month_5 : decode cX11_month 5 = .ok (.aload_n 0, 1) := by decide +kernel
theorem dX11_month_6 : decode cX11_month 6 = .ok (.iload_n 1, 1) := by decide +kernel
theorem dX11_month_7 : decode cX11_month 7 = .ok (.invokevirtual 94, 3) := by decide +kernel
theorem dX11_month_10 : decode cX11_month 10 = .ok (.ifCond .ne 6, 3) := by decide +kernel
theorem dX11_month_13 : decode cX11_month 13 = .ok (.bipush (-101), 2) := by decide +kernel
theorem dX11_month_15 : decode cX11_month 15 = .ok (.ireturn, 1) := by decide +kernel
theorem dX11_month_16 : decode cX11_month 16 = .ok (.iload_n 2, 1) := by decide +kernel
theorem dX11_month_17 : decode cX11_month 17 = .ok (.iconst 0, 1) := by decide +kernel
theorem dX11_month_18 : decode cX11_month 18 = .ok (.bipush 31, 2) := by decide +kernel
theorem dX11_month_20 : decode cX11_month 20 = .ok (.invokestatic 50, 3) := by decide +kernel
theorem dX11_month_23 : decode cX11_month 23 = .ok (.ifCond .ne 6, 3) := by decide +kernel
theorem dX11_month_26 : decode cX11_month 26 = .ok (.bipush (-102), 2) := by decide +kernel
theorem dX11_month_28 : decode cX11_month 28 = .ok (.ireturn, 1) := by decide +kernel
theorem dX11_month_29 : decode cX11_month 29 = .ok (.aload_n 0, 1) := by decide +kernel
theorem dX11_month_30 : decode cX11_month 30 = .ok (.iload_n 1, 1) := by decide +kernel
theorem dX11_month_31 : decode cX11_month 31 = .ok (.invokevirtual 107, 3) := by decide +kernel
theorem dX11_month_34 : decode cX11_month 34 = .ok (.ifCond .ne 6, 3) := by decide +kernel
theorem dX11_month_37 : decode cX11_month 37 = .ok (.bipush (-103), 2) := by decide +kernel
theorem dX11_month_39 : decode cX11_month 39 = .ok (.ireturn, 1) := by decide +kernel
theorem dX11_month_40 : decode cX11_month 40 = .ok (.aload_n 0, 1) := by decide +kernel
theorem dX11_month_41 : decode cX11_month 41 = .ok (.getfield 7, 3) := by decide +kernel
theorem dX11_month_44 : decode cX11_month 44 = .ok (.iload_n 1, 1) := by decide +kernel
theorem dX11_month_45 : decode cX11_month 45 = .ok (.iaload, 1) := by decide +kernel
theorem dX11_month_46 : decode cX11_month 46 = .ok (.bipush 7, 2) := by decide +kernel
theorem dX11_month_48 : decode cX11_month 48 = .ok (.if_icmp .ne 18, 3) := by decide +kernel
theorem dX11_month_51 : decode cX11_month 51 = .ok (.bipush 15, 2) := by decide +kernel
theorem dX11_month_53 : decode cX11_month 53 = .ok (.iload_n 2, 1) := by decide +kernel
theorem dX11_month_54 : decode cX11_month 54 = .ok (.imul, 1) := by decide +kernel
theorem dX11_month_55 : decode cX11_month 55 = .ok (.aload_n 0, 1) := by decide +kernel
theorem dX11_month_56 : decode cX11_month 56 = .ok (.iload_n 1, 1) := by decide +kernel
theorem dX11_month_57 : decode cX11_month 57 = .ok (.bipush 23, 2) := by decide +kernel
theorem dX11_month_59 : decode cX11_month 59 = .ok (.invokevirtual 110, 3) := by decide +kernel
theorem dX11_month_62 : decode cX11_month 62 = .ok (.iadd, 1) := by decide +kernel
theorem dX11_month_63 : decode cX11_month 63 = .ok (.goto 15, 3) := by decide +kernel
theorem dX11_month_66 : decode cX11_month 66 = .ok (.bipush 20, 2) := by decide +kernel
theorem dX11_month_68 : decode cX11_month 68 = .ok (.iload_n 2, 1) := by decide +kernel
theorem dX11_month_69 : decode cX11_month 69 = .ok (.imul, 1) := by decide +kernel
theorem dX11_month_70 : decode cX11_month 70 = .ok (.aload_n 0, 1) := by decide +kernel
theorem dX11_month_71 : decode cX11_month 71 = .ok (.iload_n 1, 1) := by decide +kernel
theorem dX11_month_72 : decode cX11_month 72 = .ok (.bipush 12, 2) := by decide +kernel
theorem dX11_month_74 : decode cX11_month 74 = .ok (.invokevirtual 110, 3) := by decide +kernel
theorem dX11_month_77 : decode cX11_month 77 = .ok (.iadd, 1) := by decide +kernel
theorem dX11_month_78 : decode cX11_month 78 = .ok (.ireturn, 1) := by decide +kernel
theorem dX11_swing_0 : decode cX11_swing 0 = .ok (.aload_n 0, 1) := by decide +kernel
theorem dX11_swing_1 : decode cX11_swing 1 = .ok (.iconst 0, 1) := by decide +kernel
theorem dX11_swing_2 : decode cX11_swing 2 = .ok (.putfield 44, 3) := by decide +kernel
theorem dX11_swing_5 : decode cX11_swing 5 = .ok (.iload_n 1, 1) := by decide +kernel
theorem dX11_swing_6 : decode cX11_swing 6 = .ok (.aload_n 0, 1) := by decide +kernel
theorem dX11_swing_7 : decode cX11_swing 7 = .ok (.getfield 71, 3) := by decide +kernel
theorem dX11_swing_10 : decode cX11_swing 10 = .ok (.if_icmp .ne 5, 3) := by decide +kernel
theorem dX11_swing_13 : decode cX11_swing 13 = .ok (.iconst 0, 1) := by decide +kernel
theorem dX11_swing_14 : decode cX11_swing 14 = .ok (.ireturn, 1) := by decide +kernel
theorem dX11_swing_15 : decode cX11_swing 15 = .ok (.iload_n 1, 1) := by decide +kernel
theorem dX11_swing_16 : decode cX11_swing 16 = .ok (.ifCond .eq 13, 3) := by decide +kernel
theorem dX11_swing_19 : decode cX11_swing 19 = .ok (.aload_n 0, 1) := by decide +kernel
theorem dX11_swing_20 : decode cX11_swing 20 = .ok (.getfield 68, 3) := by decide +kernel
theorem dX11_swing_23 : decode cX11_swing 23 = .ok (.ifCond .le 6, 3) := by decide +kernel
theorem dX11_swing_26 : decode cX11_swing 26 = .ok (.bipush (-103), 2) := by decide +kernel
theorem dX11_swing_28 : decode cX11_swing 28 = .ok (.ireturn, 1) := by decide +kernel
theorem dX11_swing_29 : decode cX11_swing 29 = .ok (.aload_n 0, 1) := by decide +kernel
theorem dX11_swing_30 : decode cX11_swing 30 = .ok (.iload_n 1, 1) := by decide +kernel
theorem dX11_swing_31 : decode cX11_swing 31 = .ok (.putfield 71, 3) := by decide +kernel
theorem dX11_swing_34 : decode cX11_swing 34 = .ok (.iconst 1, 1) := by decide +kernel
theorem dX11_swing_35 : decode cX11_swing 35 = .ok (.ireturn, 1) := by decide +kernel
theorem dX11_rush_0 : decode cX11_rush 0 = .ok (.aload_n 0, 1) := by decide +kernel
theorem dX11_rush_1 : decode cX11_rush 1 = .ok (.iconst 0, 1) := by decide +kernel
theorem dX11_rush_2 : decode cX11_rush 2 = .ok (.putfield 44, 3) := by decide +kernel
theorem dX11_rush_5 : decode cX11_rush 5 = .ok (.iload_n 1, 1) := by decide +kernel
theorem dX11_rush_6 : decode cX11_rush 6 = .ok (.invokestatic 97, 3) := by decide +kernel
theorem dX11_rush_9 : decode cX11_rush 9 = .ok (.ifCond .ne 6, 3) := by decide +kernel
theorem dX11_rush_12 : decode cX11_rush 12 = .ok (.bipush (-102), 2) := by decide +kernel
theorem dX11_rush_14 : decode cX11_rush 14 = .ok (.ireturn, 1) := by decide +kernel
theorem dX11_rush_15 : decode cX11_rush 15 = .ok (.iconst 0, 1) := by decide +kernel
theorem dX11_rush_16 : decode cX11_rush 16 = .ok (.istore_n 2, 1) := by decide +kernel
theorem dX11_rush_17 : decode cX11_rush 17 = .ok (.iconst 0, 1) := by decide +kernel
theorem dX11_rush_18 : decode cX11_rush 18 = .ok (.istore_n 3, 1) := by decide +kernel
theorem dX11_rush_19 : decode cX11_rush 19 = .ok (.iload_n 3, 1) := by decide +kernel
theorem dX11_rush_20 : decode cX11_rush 20 = .ok (.aload_n 0, 1) := by decide +kernel
theorem dX11_rush_21 : decode cX11_rush 21 = .ok (.getfield 47, 3) := by decide +kernel
theorem dX11_rush_24 : decode cX11_rush 24 = .ok (.if_icmp .ge 35, 3) := by decide +kernel
theorem dX11_rush_27 : decode cX11_rush 27 = .ok (.iload_n 2, 1) := by decide +kernel
theorem dX11_rush_28 : decode cX11_rush 28 = .ok (.aload_n 0, 1) := by decide +kernel
theorem dX11_rush_29 : decode cX11_rush 29 = .ok (.getfield 22, 3) := by decide +kernel
theorem dX11_rush_32 : decode cX11_rush 32 = .ok (.iload_n 3, 1) := by decide +kernel
theorem dX11_rush_33 : decode cX11_rush 33 = .ok (.iaload, 1) := by decide +kernel
theorem dX11_rush_34 : decode cX11_rush 34 = .ok (.ifCond .ne 16, 3) := by decide +kernel
theorem dX11_rush_37 : decode cX11_rush 37 = .ok (.aload_n 0, 1) := by decide +kernel
theorem dX11_rush_38 : decode cX11_rush 38 = .ok (.iload_n 3, 1) := by decide +kernel
theorem dX11_rush_39 : decode cX11_rush 39 = .ok (.iload_n 1, 1) := by decide +kernel
theorem dX11_rush_40 : decode cX11_rush 40 = .ok (.invokevirtual 100, 3) := by decide +kernel
theorem dX11_rush_43 : decode cX11_rush 43 = .ok (.ifCond .ne 7, 3) := by decide +kernel
theorem dX11_rush_46 : decode cX11_rush 46 = .ok (.iconst 1, 1) := by decide +kernel
theorem dX11_rush_47 : decode cX11_rush 47 = .ok (.goto 4, 3) := by decide +kernel
theorem dX11_rush_50 : decode cX11_rush 50 = .ok (.iconst 0, 1) := by decide +kernel
theorem dX11_rush_51 : decode cX11_rush 51 = .ok (.iadd, 1) := by decide +kernel
theorem dX11_rush_52 : decode cX11_rush 52 = .ok (.istore_n 2, 1) := by decide +kernel
theorem dX11_rush_53 : decode cX11_rush 53 = .ok (.iinc 3 1, 3) := by decide +kernel
theorem dX11_rush_56 : decode cX11_rush 56 = .ok (.goto (-37), 3) := by decide +kernel
theorem dX11_rush_59 : decode cX11_rush 59 = .ok (.iload_n 2, 1) := by decide +kernel
theorem dX11_rush_60 : decode cX11_rush 60 = .ok (.ireturn, 1) := by decide +kernel
theorem dX11_clear_0 : decode cX11_clear 0 = .ok (.aload_n 0, 1) := by decide +kernel
theorem dX11_clear_1 : decode cX11_clear 1 = .ok (.iconst 0, 1) := by decide +kernel
theorem dX11_clear_2 : decode cX11_clear 2 = .ok (.putfield 44, 3) := by decide +kernel
theorem dX11_clear_5 : decode cX11_clear 5 = .ok (.iconst 0, 1) := by decide +kernel
theorem dX11_clear_6 : decode cX11_clear 6 = .ok (.istore_n 1, 1) := by decide +kernel
theorem dX11_clear_7 : decode cX11_clear 7 = .ok (.aload_n 0, 1) := by decide +kernel
theorem dX11_clear_8 : decode cX11_clear 8 = .ok (.getfield 68, 3) := by decide +kernel
theorem dX11_clear_11 : decode cX11_clear 11 = .ok (.ifCond .le 19, 3) := by decide +kernel
theorem dX11_clear_14 : decode cX11_clear 14 = .ok (.aload_n 0, 1) := by decide +kernel
theorem dX11_clear_15 : decode cX11_clear 15 = .ok (.aload_n 0, 1) := by decide +kernel
theorem dX11_clear_16 : decode cX11_clear 16 = .ok (.getfield 34, 3) := by decide +kernel
theorem dX11_clear_19 : decode cX11_clear 19 = .ok (.iconst 0, 1) := by decide +kernel
theorem dX11_clear_20 : decode cX11_clear 20 = .ok (.iaload, 1) := by decide +kernel
theorem dX11_clear_21 : decode cX11_clear 21 = .ok (.invokevirtual 103, 3) := by decide +kernel
theorem dX11_clear_24 : decode cX11_clear 24 = .ok (.iinc 1 1, 3) := by decide +kernel
theorem dX11_clear_27 : decode cX11_clear 27 = .ok (.goto (-20), 3) := by decide +kernel
theorem dX11_clear_30 : decode cX11_clear 30 = .ok (.iload_n 1, 1) := by decide +kernel
theorem dX11_clear_31 : decode cX11_clear 31 = .ok (.ireturn, 1) := by decide +kernel
theorem dX11_tell_0 : decode cX11_tell 0 = .ok (.aload_n 0, 1) := by decide +kernel
theorem dX11_tell_1 : decode cX11_tell 1 = .ok (.iconst 0, 1) := by decide +kernel
theorem dX11_tell_2 : decode cX11_tell 2 = .ok (.putfield 44, 3) := by decide +kernel
theorem dX11_tell_5 : decode cX11_tell 5 = .ok (.aload_n 0, 1) := by decide +kernel
theorem dX11_tell_6 : decode cX11_tell 6 = .ok (.iload_n 1, 1) := by decide +kernel
theorem dX11_tell_7 : decode cX11_tell 7 = .ok (.invokevirtual 94, 3) := by decide +kernel
theorem dX11_tell_10 : decode cX11_tell 10 = .ok (.ifCond .ne 6, 3) := by decide +kernel
theorem dX11_tell_13 : decode cX11_tell 13 = .ok (.bipush (-101), 2) := by decide +kernel
theorem dX11_tell_15 : decode cX11_tell 15 = .ok (.ireturn, 1) := by decide +kernel
theorem dX11_tell_16 : decode cX11_tell 16 = .ok (.iload_n 2, 1) := by decide +kernel
theorem dX11_tell_17 : decode cX11_tell 17 = .ok (.tableswitch 103 0 7 #[47, 54, 61, 68, 75, 82, 89, 96], 47) := by decide +kernel
theorem dX11_tell_64 : decode cX11_tell 64 = .ok (.aload_n 0, 1) := by decide +kernel
theorem dX11_tell_65 : decode cX11_tell 65 = .ok (.getfield 7, 3) := by decide +kernel
theorem dX11_tell_68 : decode cX11_tell 68 = .ok (.iload_n 1, 1) := by decide +kernel
theorem dX11_tell_69 : decode cX11_tell 69 = .ok (.iaload, 1) := by decide +kernel
theorem dX11_tell_70 : decode cX11_tell 70 = .ok (.ireturn, 1) := by decide +kernel
theorem dX11_tell_71 : decode cX11_tell 71 = .ok (.aload_n 0, 1) := by decide +kernel
theorem dX11_tell_72 : decode cX11_tell 72 = .ok (.getfield 13, 3) := by decide +kernel
theorem dX11_tell_75 : decode cX11_tell 75 = .ok (.iload_n 1, 1) := by decide +kernel
theorem dX11_tell_76 : decode cX11_tell 76 = .ok (.iaload, 1) := by decide +kernel
theorem dX11_tell_77 : decode cX11_tell 77 = .ok (.ireturn, 1) := by decide +kernel
theorem dX11_tell_78 : decode cX11_tell 78 = .ok (.aload_n 0, 1) := by decide +kernel
theorem dX11_tell_79 : decode cX11_tell 79 = .ok (.getfield 16, 3) := by decide +kernel
theorem dX11_tell_82 : decode cX11_tell 82 = .ok (.iload_n 1, 1) := by decide +kernel
theorem dX11_tell_83 : decode cX11_tell 83 = .ok (.iaload, 1) := by decide +kernel
theorem dX11_tell_84 : decode cX11_tell 84 = .ok (.ireturn, 1) := by decide +kernel
theorem dX11_tell_85 : decode cX11_tell 85 = .ok (.aload_n 0, 1) := by decide +kernel
theorem dX11_tell_86 : decode cX11_tell 86 = .ok (.getfield 19, 3) := by decide +kernel
theorem dX11_tell_89 : decode cX11_tell 89 = .ok (.iload_n 1, 1) := by decide +kernel
theorem dX11_tell_90 : decode cX11_tell 90 = .ok (.iaload, 1) := by decide +kernel
theorem dX11_tell_91 : decode cX11_tell 91 = .ok (.ireturn, 1) := by decide +kernel
theorem dX11_tell_92 : decode cX11_tell 92 = .ok (.aload_n 0, 1) := by decide +kernel
theorem dX11_tell_93 : decode cX11_tell 93 = .ok (.getfield 22, 3) := by decide +kernel
theorem dX11_tell_96 : decode cX11_tell 96 = .ok (.iload_n 1, 1) := by decide +kernel
theorem dX11_tell_97 : decode cX11_tell 97 = .ok (.iaload, 1) := by decide +kernel
theorem dX11_tell_98 : decode cX11_tell 98 = .ok (.ireturn, 1) := by decide +kernel
theorem dX11_tell_99 : decode cX11_tell 99 = .ok (.aload_n 0, 1) := by decide +kernel
theorem dX11_tell_100 : decode cX11_tell 100 = .ok (.getfield 25, 3) := by decide +kernel
theorem dX11_tell_103 : decode cX11_tell 103 = .ok (.iload_n 1, 1) := by decide +kernel
theorem dX11_tell_104 : decode cX11_tell 104 = .ok (.iaload, 1) := by decide +kernel
theorem dX11_tell_105 : decode cX11_tell 105 = .ok (.ireturn, 1) := by decide +kernel
theorem dX11_tell_106 : decode cX11_tell 106 = .ok (.aload_n 0, 1) := by decide +kernel
theorem dX11_tell_107 : decode cX11_tell 107 = .ok (.getfield 28, 3) := by decide +kernel
theorem dX11_tell_110 : decode cX11_tell 110 = .ok (.iload_n 1, 1) := by decide +kernel
theorem dX11_tell_111 : decode cX11_tell 111 = .ok (.iaload, 1) := by decide +kernel
theorem dX11_tell_112 : decode cX11_tell 112 = .ok (.ireturn, 1) := by decide +kernel
theorem dX11_tell_113 : decode cX11_tell 113 = .ok (.aload_n 0, 1) := by decide +kernel
theorem dX11_tell_114 : decode cX11_tell 114 = .ok (.getfield 31, 3) := by decide +kernel
theorem dX11_tell_117 : decode cX11_tell 117 = .ok (.iload_n 1, 1) := by decide +kernel
theorem dX11_tell_118 : decode cX11_tell 118 = .ok (.iaload, 1) := by decide +kernel
theorem dX11_tell_119 : decode cX11_tell 119 = .ok (.ireturn, 1) := by decide +kernel
theorem dX11_tell_120 : decode cX11_tell 120 = .ok (.bipush (-102), 2) := by decide +kernel
theorem dX11_tell_122 : decode cX11_tell 122 = .ok (.ireturn, 1) := by decide +kernel
theorem dX11_deck_0 : decode cX11_deck 0 = .ok (.aload_n 0, 1) := by decide +kernel
theorem dX11_deck_1 : decode cX11_deck 1 = .ok (.iconst 0, 1) := by decide +kernel
theorem dX11_deck_2 : decode cX11_deck 2 = .ok (.putfield 44, 3) := by decide +kernel
theorem dX11_deck_5 : decode cX11_deck 5 = .ok (.iload_n 1, 1) := by decide +kernel
theorem dX11_deck_6 : decode cX11_deck 6 = .ok (.iconst 0, 1) := by decide +kernel
theorem dX11_deck_7 : decode cX11_deck 7 = .ok (.aload_n 0, 1) := by decide +kernel
theorem dX11_deck_8 : decode cX11_deck 8 = .ok (.getfield 68, 3) := by decide +kernel
theorem dX11_deck_11 : decode cX11_deck 11 = .ok (.iconst 1, 1) := by decide +kernel
theorem dX11_deck_12 : decode cX11_deck 12 = .ok (.isub, 1) := by decide +kernel
theorem dX11_deck_13 : decode cX11_deck 13 = .ok (.invokestatic 50, 3) := by decide +kernel
theorem dX11_deck_16 : decode cX11_deck 16 = .ok (.ifCond .eq 12, 3) := by decide +kernel
theorem dX11_deck_19 : decode cX11_deck 19 = .ok (.aload_n 0, 1) := by decide +kernel
theorem dX11_deck_20 : decode cX11_deck 20 = .ok (.getfield 34, 3) := by decide +kernel
theorem dX11_deck_23 : decode cX11_deck 23 = .ok (.iload_n 1, 1) := by decide +kernel
theorem dX11_deck_24 : decode cX11_deck 24 = .ok (.iaload, 1) := by decide +kernel
theorem dX11_deck_25 : decode cX11_deck 25 = .ok (.goto 5, 3) := by decide +kernel
theorem dX11_deck_28 : decode cX11_deck 28 = .ok (.bipush (-101), 2) := by decide +kernel
theorem dX11_deck_30 : decode cX11_deck 30 = .ok (.ireturn, 1) := by decide +kernel
theorem dX11_began_0 : decode cX11_began 0 = .ok (.aload_n 0, 1) := by decide +kernel
theorem dX11_began_1 : decode cX11_began 1 = .ok (.iconst 0, 1) := by decide +kernel
theorem dX11_began_2 : decode cX11_began 2 = .ok (.putfield 44, 3) := by decide +kernel
theorem dX11_began_5 : decode cX11_began 5 = .ok (.iload_n 1, 1) := by decide +kernel
theorem dX11_began_6 : decode cX11_began 6 = .ok (.iconst 0, 1) := by decide +kernel
theorem dX11_began_7 : decode cX11_began 7 = .ok (.bipush 8, 2) := by decide +kernel
theorem dX11_began_9 : decode cX11_began 9 = .ok (.invokestatic 50, 3) := by decide +kernel
theorem dX11_began_12 : decode cX11_began 12 = .ok (.ifCond .eq 12, 3) := by decide +kernel
theorem dX11_began_15 : decode cX11_began 15 = .ok (.aload_n 0, 1) := by decide +kernel
theorem dX11_began_16 : decode cX11_began 16 = .ok (.getfield 37, 3) := by decide +kernel
theorem dX11_began_19 : decode cX11_began 19 = .ok (.iload_n 1, 1) := by decide +kernel
theorem dX11_began_20 : decode cX11_began 20 = .ok (.iaload, 1) := by decide +kernel
theorem dX11_began_21 : decode cX11_began 21 = .ok (.goto 5, 3) := by decide +kernel
theorem dX11_began_24 : decode cX11_began 24 = .ok (.bipush (-102), 2) := by decide +kernel
theorem dX11_began_26 : decode cX11_began 26 = .ok (.ireturn, 1) := by decide +kernel
theorem dX11_count_0 : decode cX11_count 0 = .ok (.aload_n 0, 1) := by decide +kernel
theorem dX11_count_1 : decode cX11_count 1 = .ok (.iconst 0, 1) := by decide +kernel
theorem dX11_count_2 : decode cX11_count 2 = .ok (.putfield 44, 3) := by decide +kernel
theorem dX11_count_5 : decode cX11_count 5 = .ok (.iload_n 1, 1) := by decide +kernel
theorem dX11_count_6 : decode cX11_count 6 = .ok (.tableswitch 76 0 5 #[38, 43, 48, 53, 66, 71], 38) := by decide +kernel
theorem dX11_count_44 : decode cX11_count 44 = .ok (.aload_n 0, 1) := by decide +kernel
theorem dX11_count_45 : decode cX11_count 45 = .ok (.getfield 47, 3) := by decide +kernel
theorem dX11_count_48 : decode cX11_count 48 = .ok (.ireturn, 1) := by decide +kernel
theorem dX11_count_49 : decode cX11_count 49 = .ok (.aload_n 0, 1) := by decide +kernel
theorem dX11_count_50 : decode cX11_count 50 = .ok (.getfield 68, 3) := by decide +kernel
theorem dX11_count_53 : decode cX11_count 53 = .ok (.ireturn, 1) := by decide +kernel
theorem dX11_count_54 : decode cX11_count 54 = .ok (.aload_n 0, 1) := by decide +kernel
theorem dX11_count_55 : decode cX11_count 55 = .ok (.getfield 40, 3) := by decide +kernel
theorem dX11_count_58 : decode cX11_count 58 = .ok (.ireturn, 1) := by decide +kernel
theorem dX11_count_59 : decode cX11_count 59 = .ok (.aload_n 0, 1) := by decide +kernel
theorem dX11_count_60 : decode cX11_count 60 = .ok (.getfield 71, 3) := by decide +kernel
theorem dX11_count_63 : decode cX11_count 63 = .ok (.ifCond .eq 7, 3) := by decide +kernel
theorem dX11_count_66 : decode cX11_count 66 = .ok (.iconst 0, 1) := by decide +kernel
theorem dX11_count_67 : decode cX11_count 67 = .ok (.goto 4, 3) := by decide +kernel
theorem dX11_count_70 : decode cX11_count 70 = .ok (.iconst 1, 1) := by decide +kernel
theorem dX11_count_71 : decode cX11_count 71 = .ok (.ireturn, 1) := by decide +kernel
theorem dX11_count_72 : decode cX11_count 72 = .ok (.aload_n 0, 1) := by decide +kernel
theorem dX11_count_73 : decode cX11_count 73 = .ok (.getfield 81, 3) := by decide +kernel
theorem dX11_count_76 : decode cX11_count 76 = .ok (.ireturn, 1) := by decide +kernel
theorem dX11_count_77 : decode cX11_count 77 = .ok (.aload_n 0, 1) := by decide +kernel
theorem dX11_count_78 : decode cX11_count 78 = .ok (.getfield 65, 3) := by decide +kernel
theorem dX11_count_81 : decode cX11_count 81 = .ok (.ireturn, 1) := by decide +kernel
theorem dX11_count_82 : decode cX11_count 82 = .ok (.bipush (-102), 2) := by decide +kernel
theorem dX11_count_84 : decode cX11_count 84 = .ok (.ireturn, 1) := by decide +kernel
end
section
theorem dL_toll_0 : decode cL_toll 0 = .ok (.aload_n 3, 1) := by decide +kernel
theorem dL_toll_1 : decode cL_toll 1 = .ok (.iconst 0, 1) := by decide +kernel
theorem dL_toll_2 : decode cL_toll 2 = .ok (.aload_n 0, 1) := by decide +kernel
theorem dL_toll_3 : decode cL_toll 3 = .ok (.iload_n 1, 1) := by decide +kernel
theorem dL_toll_4 : decode cL_toll 4 = .ok (.iload_n 2, 1) := by decide +kernel
theorem dL_toll_5 : decode cL_toll 5 = .ok (.invokevirtual 7, 3) := by decide +kernel
theorem dL_toll_8 : decode cL_toll 8 = .ok (.i2l, 1) := by decide +kernel
theorem dL_toll_9 : decode cL_toll 9 = .ok (.lastore, 1) := by decide +kernel
theorem dL_toll_10 : decode cL_toll 10 = .ok (.goto 7, 3) := by decide +kernel
theorem dL_toll_13 : decode cL_toll 13 = .ok (.astore 4, 2) := by decide +kernel
theorem dL_toll_15 : decode cL_toll 15 = .ok (.iconst 1, 1) := by decide +kernel
theorem dL_toll_16 : decode cL_toll 16 = .ok (.ireturn, 1) := by decide +kernel
theorem dL_toll_17 : decode cL_toll 17 = .ok (.iconst 0, 1) := by decide +kernel
theorem dL_toll_18 : decode cL_toll 18 = .ok (.ireturn, 1) := by decide +kernel
theorem dL_enter_0 : decode cL_enter 0 = .ok (.aload_n 3, 1) := by decide +kernel
theorem dL_enter_1 : decode cL_enter 1 = .ok (.iconst 0, 1) := by decide +kernel
theorem dL_enter_2 : decode cL_enter 2 = .ok (.aload_n 0, 1) := by decide +kernel
theorem dL_enter_3 : decode cL_enter 3 = .ok (.iload_n 1, 1) := by decide +kernel
theorem dL_enter_4 : decode cL_enter 4 = .ok (.iload_n 2, 1) := by decide +kernel
theorem dL_enter_5 : decode cL_enter 5 = .ok (.invokevirtual 15, 3) := by decide +kernel
theorem dL_enter_8 : decode cL_enter 8 = .ok (.i2l, 1) := by decide +kernel
theorem dL_enter_9 : decode cL_enter 9 = .ok (.lastore, 1) := by decide +kernel
theorem dL_enter_10 : decode cL_enter 10 = .ok (.goto 11, 3) := by decide +kernel
theorem dL_enter_13 : decode cL_enter 13 = .ok (.astore 4, 2) := by decide +kernel
theorem dL_enter_15 : decode cL_enter 15 = .ok (.iconst 1, 1) := by decide +kernel
theorem dL_enter_16 : decode cL_enter 16 = .ok (.ireturn, 1) := by decide +kernel
theorem dL_enter_17 : decode cL_enter 17 = .ok (.astore 4, 2) := by decide +kernel
theorem dL_enter_19 : decode cL_enter 19 = .ok (.iconst 2, 1) := by decide +kernel
theorem dL_enter_20 : decode cL_enter 20 = .ok (.ireturn, 1) := by decide +kernel
theorem dL_enter_21 : decode cL_enter 21 = .ok (.iconst 0, 1) := by decide +kernel
theorem dL_enter_22 : decode cL_enter 22 = .ok (.ireturn, 1) := by decide +kernel
theorem dL_law_0 : decode cL_law 0 = .ok (.new 8, 3) := by decide +kernel
theorem dL_law_3 : decode cL_law 3 = .ok (.dup, 1) := by decide +kernel
theorem dL_law_4 : decode cL_law 4 = .ok (.invokespecial 20, 3) := by decide +kernel
theorem dL_law_7 : decode cL_law 7 = .ok (.astore_n 1, 1) := by decide +kernel
theorem dL_law_8 : decode cL_law 8 = .ok (.new 21, 3) := by decide +kernel
theorem dL_law_11 : decode cL_law 11 = .ok (.dup, 1) := by decide +kernel
theorem dL_law_12 : decode cL_law 12 = .ok (.invokespecial 23, 3) := by decide +kernel
theorem dL_law_15 : decode cL_law 15 = .ok (.astore_n 2, 1) := by decide +kernel
theorem dL_law_16 : decode cL_law 16 = .ok (.iconst 1, 1) := by decide +kernel
theorem dL_law_17 : decode cL_law 17 = .ok (.newarray .long, 2) := by decide +kernel
theorem dL_law_19 : decode cL_law 19 = .ok (.astore_n 3, 1) := by decide +kernel
theorem dL_law_20 : decode cL_law 20 = .ok (.iconst 0, 1) := by decide +kernel
theorem dL_law_21 : decode cL_law 21 = .ok (.istore 4, 2) := by decide +kernel
theorem dL_law_23 : decode cL_law 23 = .ok (.iload 4, 2) := by decide +kernel
theorem dL_law_25 : decode cL_law 25 = .ok (.aload_n 0, 1) := by decide +kernel
theorem dL_law_26 : decode cL_law 26 = .ok (.arraylength, 1) := by decide +kernel
theorem dL_law_27 : decode cL_law 27 = .ok (.iconst 5, 1) := by decide +kernel
theorem dL_law_28 : decode cL_law 28 = .ok (.isub, 1) := by decide +kernel
theorem dL_law_29 : decode cL_law 29 = .ok (.if_icmp .gt 655, 3) := by decide +kernel
theorem dL_law_32 : decode cL_law 32 = .ok (.aload_n 0, 1) := by decide +kernel
theorem dL_law_33 : decode cL_law 33 = .ok (.iload 4, 2) := by decide +kernel
theorem dL_law_35 : decode cL_law 35 = .ok (.iaload, 1) := by decide +kernel
theorem dL_law_36 : decode cL_law 36 = .ok (.bipush 15, 2) := by decide +kernel
theorem dL_law_38 : decode cL_law 38 = .ok (.iand, 1) := by decide +kernel
theorem dL_law_39 : decode cL_law 39 = .ok (.tableswitch 639 0 15 #[77, 138, 163, 231, 256, 324, 349, 374, 411, 448, 489, 514, 527, 564, 589, 614], 77) := by decide +kernel
theorem dL_law_116 : decode cL_law 116 = .ok (.aload_n 1, 1) := by decide +kernel
theorem dL_law_117 : decode cL_law 117 = .ok (.aload_n 0, 1) := by decide +kernel
theorem dL_law_118 : decode cL_law 118 = .ok (.iload 4, 2) := by decide +kernel
theorem dL_law_120 : decode cL_law 120 = .ok (.iconst 1, 1) := by decide +kernel
theorem dL_law_121 : decode cL_law 121 = .ok (.iadd, 1) := by decide +kernel
theorem dL_law_122 : decode cL_law 122 = .ok (.iaload, 1) := by decide +kernel
theorem dL_law_123 : decode cL_law 123 = .ok (.aload_n 0, 1) := by decide +kernel
theorem dL_law_124 : decode cL_law 124 = .ok (.iload 4, 2) := by decide +kernel
theorem dL_law_126 : decode cL_law 126 = .ok (.iconst 2, 1) := by decide +kernel
theorem dL_law_127 : decode cL_law 127 = .ok (.iadd, 1) := by decide +kernel
theorem dL_law_128 : decode cL_law 128 = .ok (.iaload, 1) := by decide +kernel
theorem dL_law_129 : decode cL_law 129 = .ok (.aload_n 0, 1) := by decide +kernel
theorem dL_law_130 : decode cL_law 130 = .ok (.iload 4, 2) := by decide +kernel
theorem dL_law_132 : decode cL_law 132 = .ok (.iconst 3, 1) := by decide +kernel
theorem dL_law_133 : decode cL_law 133 = .ok (.iadd, 1) := by decide +kernel
theorem dL_law_134 : decode cL_law 134 = .ok (.iaload, 1) := by decide +kernel
theorem dL_law_135 : decode cL_law 135 = .ok (.aload_n 0, 1) := by decide +kernel
theorem dL_law_136 : decode cL_law 136 = .ok (.iload 4, 2) := by decide +kernel
theorem dL_law_138 : decode cL_law 138 = .ok (.iconst 4, 1) := by decide +kernel
theorem dL_law_139 : decode cL_law 139 = .ok (.iadd, 1) := by decide +kernel
theorem dL_law_140 : decode cL_law 140 = .ok (.iaload, 1) := by decide +kernel
theorem dL_law_141 : decode cL_law 141 = .ok (.invokevirtual 24, 3) := by decide +kernel
theorem dL_law_144 : decode cL_law 144 = .ok (.aload_n 2, 1) := by decide +kernel
theorem dL_law_145 : decode cL_law 145 = .ok (.aload_n 0, 1) := by decide +kernel
theorem dL_law_146 : decode cL_law 146 = .ok (.iload 4, 2) := by decide +kernel
theorem dL_law_148 : decode cL_law 148 = .ok (.iconst 1, 1) := by decide +kernel
theorem dL_law_149 : decode cL_law 149 = .ok (.iadd, 1) := by decide +kernel
theorem dL_law_150 : decode cL_law 150 = .ok (.iaload, 1) := by decide +kernel
theorem dL_law_151 : decode cL_law 151 = .ok (.aload_n 0, 1) := by decide +kernel
theorem dL_law_152 : decode cL_law 152 = .ok (.iload 4, 2) := by decide +kernel
theorem dL_law_154 : decode cL_law 154 = .ok (.iconst 2, 1) := by decide +kernel
theorem dL_law_155 : decode cL_law 155 = .ok (.iadd, 1) := by decide +kernel
theorem dL_law_156 : decode cL_law 156 = .ok (.iaload, 1) := by decide +kernel
theorem dL_law_157 : decode cL_law 157 = .ok (.aload_n 0, 1) := by decide +kernel
theorem dL_law_158 : decode cL_law 158 = .ok (.iload 4, 2) := by decide +kernel
theorem dL_law_160 : decode cL_law 160 = .ok (.iconst 3, 1) := by decide +kernel
theorem dL_law_161 : decode cL_law 161 = .ok (.iadd, 1) := by decide +kernel
theorem dL_law_162 : decode cL_law 162 = .ok (.iaload, 1) := by decide +kernel
theorem dL_law_163 : decode cL_law 163 = .ok (.aload_n 0, 1) := by decide +kernel
theorem dL_law_164 : decode cL_law 164 = .ok (.iload 4, 2) := by decide +kernel
theorem dL_law_166 : decode cL_law 166 = .ok (.iconst 4, 1) := by decide +kernel
theorem dL_law_167 : decode cL_law 167 = .ok (.iadd, 1) := by decide +kernel
theorem dL_law_168 : decode cL_law 168 = .ok (.iaload, 1) := by decide +kernel
theorem dL_law_169 : decode cL_law 169 = .ok (.invokevirtual 28, 3) := by decide +kernel
theorem dL_law_172 : decode cL_law 172 = .ok (.if_icmp .eq 506, 3) := by decide +kernel
theorem dL_law_175 : decode cL_law 175 = .ok (.iconst 0, 1) := by decide +kernel
theorem dL_law_176 : decode cL_law 176 = .ok (.ireturn, 1) := by decide +kernel
theorem dL_law_177 : decode cL_law 177 = .ok (.aload_n 1, 1) := by decide +kernel
theorem dL_law_178 : decode cL_law 178 = .ok (.aload_n 0, 1) := by decide +kernel
theorem dL_law_179 : decode cL_law 179 = .ok (.iload 4, 2) := by decide +kernel
theorem dL_law_181 : decode cL_law 181 = .ok (.iconst 1, 1) := by decide +kernel
theorem dL_law_182 : decode cL_law 182 = .ok (.iadd, 1) := by decide +kernel
theorem dL_law_183 : decode cL_law 183 = .ok (.iaload, 1) := by decide +kernel
theorem dL_law_184 : decode cL_law 184 = .ok (.invokevirtual 29, 3) := by decide +kernel
theorem dL_law_187 : decode cL_law 187 = .ok (.aload_n 2, 1) := by decide +kernel
theorem dL_law_188 : decode cL_law 188 = .ok (.aload_n 0, 1) := by decide +kernel
theorem dL_law_189 : decode cL_law 189 = .ok (.iload 4, 2) := by decide +kernel
theorem dL_law_191 : decode cL_law 191 = .ok (.iconst 1, 1) := by decide +kernel
theorem dL_law_192 : decode cL_law 192 = .ok (.iadd, 1) := by decide +kernel
theorem dL_law_193 : decode cL_law 193 = .ok (.iaload, 1) := by decide +kernel
theorem dL_law_194 : decode cL_law 194 = .ok (.invokevirtual 33, 3) := by decide +kernel
theorem dL_law_197 : decode cL_law 197 = .ok (.if_icmp .eq 481, 3) := by decide +kernel
theorem dL_law_200 : decode cL_law 200 = .ok (.iconst 0, 1) := by decide +kernel
theorem dL_law_201 : decode cL_law 201 = .ok (.ireturn, 1) := by decide +kernel
theorem dL_law_202 : decode cL_law 202 = .ok (.aload_n 1, 1) := by decide +kernel
theorem dL_law_203 : decode cL_law 203 = .ok (.aload_n 0, 1) := by decide +kernel
theorem dL_law_204 : decode cL_law 204 = .ok (.iload 4, 2) := by decide +kernel
theorem dL_law_206 : decode cL_law 206 = .ok (.iconst 1, 1) := by decide +kernel
theorem dL_law_207 : decode cL_law 207 = .ok (.iadd, 1) := by decide +kernel
theorem dL_law_208 : decode cL_law 208 = .ok (.iaload, 1) := by decide +kernel
theorem dL_law_209 : decode cL_law 209 = .ok (.aload_n 0, 1) := by decide +kernel
theorem dL_law_210 : decode cL_law 210 = .ok (.iload 4, 2) := by decide +kernel
theorem dL_law_212 : decode cL_law 212 = .ok (.iconst 2, 1) := by decide +kernel
theorem dL_law_213 : decode cL_law 213 = .ok (.iadd, 1) := by decide +kernel
theorem dL_law_214 : decode cL_law 214 = .ok (.iaload, 1) := by decide +kernel
theorem dL_law_215 : decode cL_law 215 = .ok (.aload_n 3, 1) := by decide +kernel
theorem dL_law_216 : decode cL_law 216 = .ok (.invokestatic 34, 3) := by decide +kernel
theorem dL_law_219 : decode cL_law 219 = .ok (.istore 5, 2) := by decide +kernel
theorem dL_law_221 : decode cL_law 221 = .ok (.aload_n 2, 1) := by decide +kernel
theorem dL_law_222 : decode cL_law 222 = .ok (.aload_n 0, 1) := by decide +kernel
theorem dL_law_223 : decode cL_law 223 = .ok (.iload 4, 2) := by decide +kernel
theorem dL_law_225 : decode cL_law 225 = .ok (.iconst 1, 1) := by decide +kernel
theorem dL_law_226 : decode cL_law 226 = .ok (.iadd, 1) := by decide +kernel
theorem dL_law_227 : decode cL_law 227 = .ok (.iaload, 1) := by decide +kernel
theorem dL_law_228 : decode cL_law 228 = .ok (.aload_n 0, 1) := by decide +kernel
theorem dL_law_229 : decode cL_law 229 = .ok (.iload 4, 2) := by decide +kernel
theorem dL_law_231 : decode cL_law 231 = .ok (.iconst 2, 1) := by decide +kernel
theorem dL_law_232 : decode cL_law 232 = .ok (.iadd, 1) := by decide +kernel
theorem dL_law_233 : decode cL_law 233 = .ok (.iaload, 1) := by decide +kernel
theorem dL_law_234 : decode cL_law 234 = .ok (.invokevirtual 39, 3) := by decide +kernel
theorem dL_law_237 : decode cL_law 237 = .ok (.istore 6, 2) := by decide +kernel
theorem dL_law_239 : decode cL_law 239 = .ok (.aload_n 2, 1) := by decide +kernel
theorem dL_law_240 : decode cL_law 240 = .ok (.invokevirtual 40, 3) := by decide +kernel
theorem dL_law_243 : decode cL_law 243 = .ok (.iload 5, 2) := by decide +kernel
theorem dL_law_245 : decode cL_law 245 = .ok (.if_icmp .eq 5, 3) := by decide +kernel
theorem dL_law_248 : decode cL_law 248 = .ok (.iconst 0, 1) := by decide +kernel
theorem dL_law_249 : decode cL_law 249 = .ok (.ireturn, 1) := by decide +kernel
theorem dL_law_250 : decode cL_law 250 = .ok (.iload 5, 2) := by decide +kernel
theorem dL_law_252 : decode cL_law 252 = .ok (.ifCond .ne 15, 3) := by decide +kernel
theorem dL_law_255 : decode cL_law 255 = .ok (.aload_n 3, 1) := by decide +kernel
theorem dL_law_256 : decode cL_law 256 = .ok (.iconst 0, 1) := by decide +kernel
theorem dL_law_257 : decode cL_law 257 = .ok (.laload, 1) := by decide +kernel
theorem dL_law_258 : decode cL_law 258 = .ok (.iload 6, 2) := by decide +kernel
theorem dL_law_260 : decode cL_law 260 = .ok (.i2l, 1) := by decide +kernel
theorem dL_law_261 : decode cL_law 261 = .ok (.lcmp, 1) := by decide +kernel
theorem dL_law_262 : decode cL_law 262 = .ok (.ifCond .eq 5, 3) := by decide +kernel
theorem dL_law_265 : decode cL_law 265 = .ok (.iconst 0, 1) := by decide +kernel
theorem dL_law_266 : decode cL_law 266 = .ok (.ireturn, 1) := by decide +kernel
theorem dL_law_267 : decode cL_law 267 = .ok (.goto 411, 3) := by decide +kernel
theorem dL_law_270 : decode cL_law 270 = .ok (.aload_n 1, 1) := by decide +kernel
theorem dL_law_271 : decode cL_law 271 = .ok (.aload_n 0, 1) := by decide +kernel
theorem dL_law_272 : decode cL_law 272 = .ok (.iload 4, 2) := by decide +kernel
theorem dL_law_274 : decode cL_law 274 = .ok (.iconst 1, 1) := by decide +kernel
theorem dL_law_275 : decode cL_law 275 = .ok (.iadd, 1) := by decide +kernel
theorem dL_law_276 : decode cL_law 276 = .ok (.iaload, 1) := by decide +kernel
theorem dL_law_277 : decode cL_law 277 = .ok (.invokevirtual 44, 3) := by decide +kernel
theorem dL_law_280 : decode cL_law 280 = .ok (.aload_n 2, 1) := by decide +kernel
theorem dL_law_281 : decode cL_law 281 = .ok (.aload_n 0, 1) := by decide +kernel
theorem dL_law_282 : decode cL_law 282 = .ok (.iload 4, 2) := by decide +kernel
theorem dL_law_284 : decode cL_law 284 = .ok (.iconst 1, 1) := by decide +kernel
theorem dL_law_285 : decode cL_law 285 = .ok (.iadd, 1) := by decide +kernel
theorem dL_law_286 : decode cL_law 286 = .ok (.iaload, 1) := by decide +kernel
theorem dL_law_287 : decode cL_law 287 = .ok (.invokevirtual 47, 3) := by decide +kernel
theorem dL_law_290 : decode cL_law 290 = .ok (.if_icmp .eq 388, 3) := by decide +kernel
theorem dL_law_293 : decode cL_law 293 = .ok (.iconst 0, 1) := by decide +kernel
theorem dL_law_294 : decode cL_law 294 = .ok (.ireturn, 1) := by decide +kernel
theorem dL_law_295 : decode cL_law 295 = .ok (.aload_n 1, 1) := by decide +kernel
theorem dL_law_296 : decode cL_law 296 = .ok (.aload_n 0, 1) := by decide +kernel
theorem dL_law_297 : decode cL_law 297 = .ok (.iload 4, 2) := by decide +kernel
theorem dL_law_299 : decode cL_law 299 = .ok (.iconst 1, 1) := by decide +kernel
theorem dL_law_300 : decode cL_law 300 = .ok (.iadd, 1) := by decide +kernel
theorem dL_law_301 : decode cL_law 301 = .ok (.iaload, 1) := by decide +kernel
theorem dL_law_302 : decode cL_law 302 = .ok (.aload_n 0, 1) := by decide +kernel
theorem dL_law_303 : decode cL_law 303 = .ok (.iload 4, 2) := by decide +kernel
theorem dL_law_305 : decode cL_law 305 = .ok (.iconst 2, 1) := by decide +kernel
theorem dL_law_306 : decode cL_law 306 = .ok (.iadd, 1) := by decide +kernel
theorem dL_law_307 : decode cL_law 307 = .ok (.iaload, 1) := by decide +kernel
theorem dL_law_308 : decode cL_law 308 = .ok (.aload_n 3, 1) := by decide +kernel
theorem dL_law_309 : decode cL_law 309 = .ok (.invokestatic 48, 3) := by decide +kernel
theorem dL_law_312 : decode cL_law 312 = .ok (.istore 5, 2) := by decide +kernel
theorem dL_law_314 : decode cL_law 314 = .ok (.aload_n 2, 1) := by decide +kernel
theorem dL_law_315 : decode cL_law 315 = .ok (.aload_n 0, 1) := by decide +kernel
theorem dL_law_316 : decode cL_law 316 = .ok (.iload 4, 2) := by decide +kernel
theorem dL_law_318 : decode cL_law 318 = .ok (.iconst 1, 1) := by decide +kernel
theorem dL_law_319 : decode cL_law 319 = .ok (.iadd, 1) := by decide +kernel
theorem dL_law_320 : decode cL_law 320 = .ok (.iaload, 1) := by decide +kernel
theorem dL_law_321 : decode cL_law 321 = .ok (.aload_n 0, 1) := by decide +kernel
theorem dL_law_322 : decode cL_law 322 = .ok (.iload 4, 2) := by decide +kernel
theorem dL_law_324 : decode cL_law 324 = .ok (.iconst 2, 1) := by decide +kernel
theorem dL_law_325 : decode cL_law 325 = .ok (.iadd, 1) := by decide +kernel
theorem dL_law_326 : decode cL_law 326 = .ok (.iaload, 1) := by decide +kernel
theorem dL_law_327 : decode cL_law 327 = .ok (.invokevirtual 50, 3) := by decide +kernel
theorem dL_law_330 : decode cL_law 330 = .ok (.istore 6, 2) := by decide +kernel
theorem dL_law_332 : decode cL_law 332 = .ok (.aload_n 2, 1) := by decide +kernel
theorem dL_law_333 : decode cL_law 333 = .ok (.invokevirtual 40, 3) := by decide +kernel
theorem dL_law_336 : decode cL_law 336 = .ok (.iload 5, 2) := by decide +kernel
theorem dL_law_338 : decode cL_law 338 = .ok (.if_icmp .eq 5, 3) := by decide +kernel
theorem dL_law_341 : decode cL_law 341 = .ok (.iconst 0, 1) := by decide +kernel
theorem dL_law_342 : decode cL_law 342 = .ok (.ireturn, 1) := by decide +kernel
theorem dL_law_343 : decode cL_law 343 = .ok (.iload 5, 2) := by decide +kernel
theorem dL_law_345 : decode cL_law 345 = .ok (.ifCond .ne 15, 3) := by decide +kernel
theorem dL_law_348 : decode cL_law 348 = .ok (.aload_n 3, 1) := by decide +kernel
theorem dL_law_349 : decode cL_law 349 = .ok (.iconst 0, 1) := by decide +kernel
theorem dL_law_350 : decode cL_law 350 = .ok (.laload, 1) := by decide +kernel
theorem dL_law_351 : decode cL_law 351 = .ok (.iload 6, 2) := by decide +kernel
theorem dL_law_353 : decode cL_law 353 = .ok (.i2l, 1) := by decide +kernel
theorem dL_law_354 : decode cL_law 354 = .ok (.lcmp, 1) := by decide +kernel
theorem dL_law_355 : decode cL_law 355 = .ok (.ifCond .eq 5, 3) := by decide +kernel
theorem dL_law_358 : decode cL_law 358 = .ok (.iconst 0, 1) := by decide +kernel
theorem dL_law_359 : decode cL_law 359 = .ok (.ireturn, 1) := by decide +kernel
theorem dL_law_360 : decode cL_law 360 = .ok (.goto 318, 3) := by decide +kernel
theorem dL_law_363 : decode cL_law 363 = .ok (.aload_n 1, 1) := by decide +kernel
theorem dL_law_364 : decode cL_law 364 = .ok (.aload_n 0, 1) := by decide +kernel
theorem dL_law_365 : decode cL_law 365 = .ok (.iload 4, 2) := by decide +kernel
theorem dL_law_367 : decode cL_law 367 = .ok (.iconst 1, 1) := by decide +kernel
theorem dL_law_368 : decode cL_law 368 = .ok (.iadd, 1) := by decide +kernel
theorem dL_law_369 : decode cL_law 369 = .ok (.iaload, 1) := by decide +kernel
theorem dL_law_370 : decode cL_law 370 = .ok (.invokevirtual 51, 3) := by decide +kernel
theorem dL_law_373 : decode cL_law 373 = .ok (.aload_n 2, 1) := by decide +kernel
theorem dL_law_374 : decode cL_law 374 = .ok (.aload_n 0, 1) := by decide +kernel
theorem dL_law_375 : decode cL_law 375 = .ok (.iload 4, 2) := by decide +kernel
theorem dL_law_377 : decode cL_law 377 = .ok (.iconst 1, 1) := by decide +kernel
theorem dL_law_378 : decode cL_law 378 = .ok (.iadd, 1) := by decide +kernel
theorem dL_law_379 : decode cL_law 379 = .ok (.iaload, 1) := by decide +kernel
theorem dL_law_380 : decode cL_law 380 = .ok (.invokevirtual 54, 3) := by decide +kernel
theorem dL_law_383 : decode cL_law 383 = .ok (.if_icmp .eq 295, 3) := by decide +kernel
theorem dL_law_386 : decode cL_law 386 = .ok (.iconst 0, 1) := by decide +kernel
theorem dL_law_387 : decode cL_law 387 = .ok (.ireturn, 1) := by decide +kernel
theorem dL_law_388 : decode cL_law 388 = .ok (.aload_n 1, 1) := by decide +kernel
theorem dL_law_389 : decode cL_law 389 = .ok (.aload_n 0, 1) := by decide +kernel
theorem dL_law_390 : decode cL_law 390 = .ok (.iload 4, 2) := by decide +kernel
theorem dL_law_392 : decode cL_law 392 = .ok (.iconst 1, 1) := by decide +kernel
theorem dL_law_393 : decode cL_law 393 = .ok (.iadd, 1) := by decide +kernel
theorem dL_law_394 : decode cL_law 394 = .ok (.iaload, 1) := by decide +kernel
theorem dL_law_395 : decode cL_law 395 = .ok (.invokevirtual 55, 3) := by decide +kernel
theorem dL_law_398 : decode cL_law 398 = .ok (.aload_n 2, 1) := by decide +kernel
theorem dL_law_399 : decode cL_law 399 = .ok (.aload_n 0, 1) := by decide +kernel
theorem dL_law_400 : decode cL_law 400 = .ok (.iload 4, 2) := by decide +kernel
theorem dL_law_402 : decode cL_law 402 = .ok (.iconst 1, 1) := by decide +kernel
theorem dL_law_403 : decode cL_law 403 = .ok (.iadd, 1) := by decide +kernel
theorem dL_law_404 : decode cL_law 404 = .ok (.iaload, 1) := by decide +kernel
theorem dL_law_405 : decode cL_law 405 = .ok (.invokevirtual 58, 3) := by decide +kernel
theorem dL_law_408 : decode cL_law 408 = .ok (.if_icmp .eq 270, 3) := by decide +kernel
theorem dL_law_411 : decode cL_law 411 = .ok (.iconst 0, 1) := by decide +kernel
theorem dL_law_412 : decode cL_law 412 = .ok (.ireturn, 1) := by decide +kernel
theorem dL_law_413 : decode cL_law 413 = .ok (.aload_n 1, 1) := by decide +kernel
theorem dL_law_414 : decode cL_law 414 = .ok (.aload_n 0, 1) := by decide +kernel
theorem dL_law_415 : decode cL_law 415 = .ok (.iload 4, 2) := by decide +kernel
theorem dL_law_417 : decode cL_law 417 = .ok (.iconst 1, 1) := by decide +kernel
theorem dL_law_418 : decode cL_law 418 = .ok (.iadd, 1) := by decide +kernel
theorem dL_law_419 : decode cL_law 419 = .ok (.iaload, 1) := by decide +kernel
theorem dL_law_420 : decode cL_law 420 = .ok (.aload_n 0, 1) := by decide +kernel
theorem dL_law_421 : decode cL_law 421 = .ok (.iload 4, 2) := by decide +kernel
theorem dL_law_423 : decode cL_law 423 = .ok (.iconst 2, 1) := by decide +kernel
theorem dL_law_424 : decode cL_law 424 = .ok (.iadd, 1) := by decide +kernel
theorem dL_law_425 : decode cL_law 425 = .ok (.iaload, 1) := by decide +kernel
theorem dL_law_426 : decode cL_law 426 = .ok (.invokevirtual 59, 3) := by decide +kernel
theorem dL_law_429 : decode cL_law 429 = .ok (.aload_n 2, 1) := by decide +kernel
theorem dL_law_430 : decode cL_law 430 = .ok (.aload_n 0, 1) := by decide +kernel
theorem dL_law_431 : decode cL_law 431 = .ok (.iload 4, 2) := by decide +kernel
theorem dL_law_433 : decode cL_law 433 = .ok (.iconst 1, 1) := by decide +kernel
theorem dL_law_434 : decode cL_law 434 = .ok (.iadd, 1) := by decide +kernel
theorem dL_law_435 : decode cL_law 435 = .ok (.iaload, 1) := by decide +kernel
theorem dL_law_436 : decode cL_law 436 = .ok (.aload_n 0, 1) := by decide +kernel
theorem dL_law_437 : decode cL_law 437 = .ok (.iload 4, 2) := by decide +kernel
theorem dL_law_439 : decode cL_law 439 = .ok (.iconst 2, 1) := by decide +kernel
theorem dL_law_440 : decode cL_law 440 = .ok (.iadd, 1) := by decide +kernel
theorem dL_law_441 : decode cL_law 441 = .ok (.iaload, 1) := by decide +kernel
theorem dL_law_442 : decode cL_law 442 = .ok (.invokevirtual 62, 3) := by decide +kernel
theorem dL_law_445 : decode cL_law 445 = .ok (.if_icmp .eq 233, 3) := by decide +kernel
theorem dL_law_448 : decode cL_law 448 = .ok (.iconst 0, 1) := by decide +kernel
theorem dL_law_449 : decode cL_law 449 = .ok (.ireturn, 1) := by decide +kernel
theorem dL_law_450 : decode cL_law 450 = .ok (.aload_n 1, 1) := by decide +kernel
theorem dL_law_451 : decode cL_law 451 = .ok (.aload_n 0, 1) := by decide +kernel
theorem dL_law_452 : decode cL_law 452 = .ok (.iload 4, 2) := by decide +kernel
theorem dL_law_454 : decode cL_law 454 = .ok (.iconst 1, 1) := by decide +kernel
theorem dL_law_455 : decode cL_law 455 = .ok (.iadd, 1) := by decide +kernel
theorem dL_law_456 : decode cL_law 456 = .ok (.iaload, 1) := by decide +kernel
theorem dL_law_457 : decode cL_law 457 = .ok (.aload_n 0, 1) := by decide +kernel
theorem dL_law_458 : decode cL_law 458 = .ok (.iload 4, 2) := by decide +kernel
theorem dL_law_460 : decode cL_law 460 = .ok (.iconst 2, 1) := by decide +kernel
theorem dL_law_461 : decode cL_law 461 = .ok (.iadd, 1) := by decide +kernel
theorem dL_law_462 : decode cL_law 462 = .ok (.iaload, 1) := by decide +kernel
theorem dL_law_463 : decode cL_law 463 = .ok (.invokevirtual 63, 3) := by decide +kernel
theorem dL_law_466 : decode cL_law 466 = .ok (.aload_n 2, 1) := by decide +kernel
theorem dL_law_467 : decode cL_law 467 = .ok (.aload_n 0, 1) := by decide +kernel
theorem dL_law_468 : decode cL_law 468 = .ok (.iload 4, 2) := by decide +kernel
theorem dL_law_470 : decode cL_law 470 = .ok (.iconst 1, 1) := by decide +kernel
theorem dL_law_471 : decode cL_law 471 = .ok (.iadd, 1) := by decide +kernel
theorem dL_law_472 : decode cL_law 472 = .ok (.iaload, 1) := by decide +kernel
theorem dL_law_473 : decode cL_law 473 = .ok (.aload_n 0, 1) := by decide +kernel
theorem dL_law_474 : decode cL_law 474 = .ok (.iload 4, 2) := by decide +kernel
theorem dL_law_476 : decode cL_law 476 = .ok (.iconst 2, 1) := by decide +kernel
theorem dL_law_477 : decode cL_law 477 = .ok (.iadd, 1) := by decide +kernel
theorem dL_law_478 : decode cL_law 478 = .ok (.iaload, 1) := by decide +kernel
theorem dL_law_479 : decode cL_law 479 = .ok (.invokevirtual 66, 3) := by decide +kernel
theorem dL_law_482 : decode cL_law 482 = .ok (.if_icmp .eq 196, 3) := by decide +kernel
theorem dL_law_485 : decode cL_law 485 = .ok (.iconst 0, 1) := by decide +kernel
theorem dL_law_486 : decode cL_law 486 = .ok (.ireturn, 1) := by decide +kernel
theorem dL_law_487 : decode cL_law 487 = .ok (.aload_n 1, 1) := by decide +kernel
theorem dL_law_488 : decode cL_law 488 = .ok (.aload_n 0, 1) := by decide +kernel
theorem dL_law_489 : decode cL_law 489 = .ok (.iload 4, 2) := by decide +kernel
theorem dL_law_491 : decode cL_law 491 = .ok (.iconst 1, 1) := by decide +kernel
theorem dL_law_492 : decode cL_law 492 = .ok (.iadd, 1) := by decide +kernel
theorem dL_law_493 : decode cL_law 493 = .ok (.iaload, 1) := by decide +kernel
theorem dL_law_494 : decode cL_law 494 = .ok (.ifCond .eq 7, 3) := by decide +kernel
theorem dL_law_497 : decode cL_law 497 = .ok (.iconst 1, 1) := by decide +kernel
theorem dL_law_498 : decode cL_law 498 = .ok (.goto 4, 3) := by decide +kernel
theorem dL_law_501 : decode cL_law 501 = .ok (.iconst 0, 1) := by decide +kernel
theorem dL_law_502 : decode cL_law 502 = .ok (.invokevirtual 67, 3) := by decide +kernel
theorem dL_law_505 : decode cL_law 505 = .ok (.aload_n 2, 1) := by decide +kernel
theorem dL_law_506 : decode cL_law 506 = .ok (.aload_n 0, 1) := by decide +kernel
theorem dL_law_507 : decode cL_law 507 = .ok (.iload 4, 2) := by decide +kernel
theorem dL_law_509 : decode cL_law 509 = .ok (.iconst 1, 1) := by decide +kernel
theorem dL_law_510 : decode cL_law 510 = .ok (.iadd, 1) := by decide +kernel
theorem dL_law_511 : decode cL_law 511 = .ok (.iaload, 1) := by decide +kernel
theorem dL_law_512 : decode cL_law 512 = .ok (.ifCond .eq 7, 3) := by decide +kernel
theorem dL_law_515 : decode cL_law 515 = .ok (.iconst 1, 1) := by decide +kernel
theorem dL_law_516 : decode cL_law 516 = .ok (.goto 4, 3) := by decide +kernel
theorem dL_law_519 : decode cL_law 519 = .ok (.iconst 0, 1) := by decide +kernel
theorem dL_law_520 : decode cL_law 520 = .ok (.invokevirtual 71, 3) := by decide +kernel
theorem dL_law_523 : decode cL_law 523 = .ok (.if_icmp .eq 155, 3) := by decide +kernel
theorem dL_law_526 : decode cL_law 526 = .ok (.iconst 0, 1) := by decide +kernel
theorem dL_law_527 : decode cL_law 527 = .ok (.ireturn, 1) := by decide +kernel
theorem dL_law_528 : decode cL_law 528 = .ok (.aload_n 1, 1) := by decide +kernel
theorem dL_law_529 : decode cL_law 529 = .ok (.aload_n 0, 1) := by decide +kernel
theorem dL_law_530 : decode cL_law 530 = .ok (.iload 4, 2) := by decide +kernel
theorem dL_law_532 : decode cL_law 532 = .ok (.iconst 1, 1) := by decide +kernel
theorem dL_law_533 : decode cL_law 533 = .ok (.iadd, 1) := by decide +kernel
theorem dL_law_534 : decode cL_law 534 = .ok (.iaload, 1) := by decide +kernel
theorem dL_law_535 : decode cL_law 535 = .ok (.invokevirtual 72, 3) := by decide +kernel
theorem dL_law_538 : decode cL_law 538 = .ok (.aload_n 2, 1) := by decide +kernel
theorem dL_law_539 : decode cL_law 539 = .ok (.aload_n 0, 1) := by decide +kernel
theorem dL_law_540 : decode cL_law 540 = .ok (.iload 4, 2) := by decide +kernel
theorem dL_law_542 : decode cL_law 542 = .ok (.iconst 1, 1) := by decide +kernel
theorem dL_law_543 : decode cL_law 543 = .ok (.iadd, 1) := by decide +kernel
theorem dL_law_544 : decode cL_law 544 = .ok (.iaload, 1) := by decide +kernel
theorem dL_law_545 : decode cL_law 545 = .ok (.invokevirtual 75, 3) := by decide +kernel
theorem dL_law_548 : decode cL_law 548 = .ok (.if_icmp .eq 130, 3) := by decide +kernel
theorem dL_law_551 : decode cL_law 551 = .ok (.iconst 0, 1) := by decide +kernel
theorem dL_law_552 : decode cL_law 552 = .ok (.ireturn, 1) := by decide +kernel
theorem dL_law_553 : decode cL_law 553 = .ok (.aload_n 1, 1) := by decide +kernel
theorem dL_law_554 : decode cL_law 554 = .ok (.invokevirtual 76, 3) := by decide +kernel
theorem dL_law_557 : decode cL_law 557 = .ok (.aload_n 2, 1) := by decide +kernel
theorem dL_law_558 : decode cL_law 558 = .ok (.invokevirtual 79, 3) := by decide +kernel
theorem dL_law_561 : decode cL_law 561 = .ok (.if_icmp .eq 117, 3) := by decide +kernel
theorem dL_law_564 : decode cL_law 564 = .ok (.iconst 0, 1) := by decide +kernel
theorem dL_law_565 : decode cL_law 565 = .ok (.ireturn, 1) := by decide +kernel
theorem dL_law_566 : decode cL_law 566 = .ok (.aload_n 1, 1) := by decide +kernel
theorem dL_law_567 : decode cL_law 567 = .ok (.aload_n 0, 1) := by decide +kernel
theorem dL_law_568 : decode cL_law 568 = .ok (.iload 4, 2) := by decide +kernel
theorem dL_law_570 : decode cL_law 570 = .ok (.iconst 1, 1) := by decide +kernel
theorem dL_law_571 : decode cL_law 571 = .ok (.iadd, 1) := by decide +kernel
theorem dL_law_572 : decode cL_law 572 = .ok (.iaload, 1) := by decide +kernel
theorem dL_law_573 : decode cL_law 573 = .ok (.aload_n 0, 1) := by decide +kernel
theorem dL_law_574 : decode cL_law 574 = .ok (.iload 4, 2) := by decide +kernel
theorem dL_law_576 : decode cL_law 576 = .ok (.iconst 2, 1) := by decide +kernel
theorem dL_law_577 : decode cL_law 577 = .ok (.iadd, 1) := by decide +kernel
theorem dL_law_578 : decode cL_law 578 = .ok (.iaload, 1) := by decide +kernel
theorem dL_law_579 : decode cL_law 579 = .ok (.invokevirtual 80, 3) := by decide +kernel
theorem dL_law_582 : decode cL_law 582 = .ok (.aload_n 2, 1) := by decide +kernel
theorem dL_law_583 : decode cL_law 583 = .ok (.aload_n 0, 1) := by decide +kernel
theorem dL_law_584 : decode cL_law 584 = .ok (.iload 4, 2) := by decide +kernel
theorem dL_law_586 : decode cL_law 586 = .ok (.iconst 1, 1) := by decide +kernel
theorem dL_law_587 : decode cL_law 587 = .ok (.iadd, 1) := by decide +kernel
theorem dL_law_588 : decode cL_law 588 = .ok (.iaload, 1) := by decide +kernel
theorem dL_law_589 : decode cL_law 589 = .ok (.aload_n 0, 1) := by decide +kernel
theorem dL_law_590 : decode cL_law 590 = .ok (.iload 4, 2) := by decide +kernel
theorem dL_law_592 : decode cL_law 592 = .ok (.iconst 2, 1) := by decide +kernel
theorem dL_law_593 : decode cL_law 593 = .ok (.iadd, 1) := by decide +kernel
theorem dL_law_594 : decode cL_law 594 = .ok (.iaload, 1) := by decide +kernel
theorem dL_law_595 : decode cL_law 595 = .ok (.invokevirtual 83, 3) := by decide +kernel
theorem dL_law_598 : decode cL_law 598 = .ok (.if_icmp .eq 80, 3) := by decide +kernel
theorem dL_law_601 : decode cL_law 601 = .ok (.iconst 0, 1) := by decide +kernel
theorem dL_law_602 : decode cL_law 602 = .ok (.ireturn, 1) := by decide +kernel
theorem dL_law_603 : decode cL_law 603 = .ok (.aload_n 1, 1) := by decide +kernel
theorem dL_law_604 : decode cL_law 604 = .ok (.aload_n 0, 1) := by decide +kernel
theorem dL_law_605 : decode cL_law 605 = .ok (.iload 4, 2) := by decide +kernel
theorem dL_law_607 : decode cL_law 607 = .ok (.iconst 1, 1) := by decide +kernel
theorem dL_law_608 : decode cL_law 608 = .ok (.iadd, 1) := by decide +kernel
theorem dL_law_609 : decode cL_law 609 = .ok (.iaload, 1) := by decide +kernel
theorem dL_law_610 : decode cL_law 610 = .ok (.invokevirtual 84, 3) := by decide +kernel
theorem dL_law_613 : decode cL_law 613 = .ok (.aload_n 2, 1) := by decide +kernel
theorem dL_law_614 : decode cL_law 614 = .ok (.aload_n 0, 1) := by decide +kernel
theorem dL_law_615 : decode cL_law 615 = .ok (.iload 4, 2) := by decide +kernel
theorem dL_law_617 : decode cL_law 617 = .ok (.iconst 1, 1) := by decide +kernel
theorem dL_law_618 : decode cL_law 618 = .ok (.iadd, 1) := by decide +kernel
theorem dL_law_619 : decode cL_law 619 = .ok (.iaload, 1) := by decide +kernel
theorem dL_law_620 : decode cL_law 620 = .ok (.invokevirtual 87, 3) := by decide +kernel
theorem dL_law_623 : decode cL_law 623 = .ok (.if_icmp .eq 55, 3) := by decide +kernel
theorem dL_law_626 : decode cL_law 626 = .ok (.iconst 0, 1) := by decide +kernel
theorem dL_law_627 : decode cL_law 627 = .ok (.ireturn, 1) := by decide +kernel
theorem dL_law_628 : decode cL_law 628 = .ok (.aload_n 1, 1) := by decide +kernel
theorem dL_law_629 : decode cL_law 629 = .ok (.aload_n 0, 1) := by decide +kernel
theorem dL_law_630 : decode cL_law 630 = .ok (.iload 4, 2) := by decide +kernel
theorem dL_law_632 : decode cL_law 632 = .ok (.iconst 1, 1) := by decide +kernel
theorem dL_law_633 : decode cL_law 633 = .ok (.iadd, 1) := by decide +kernel
theorem dL_law_634 : decode cL_law 634 = .ok (.iaload, 1) := by decide +kernel
theorem dL_law_635 : decode cL_law 635 = .ok (.invokevirtual 88, 3) := by decide +kernel
theorem dL_law_638 : decode cL_law 638 = .ok (.aload_n 2, 1) := by decide +kernel
theorem dL_law_639 : decode cL_law 639 = .ok (.aload_n 0, 1) := by decide +kernel
theorem dL_law_640 : decode cL_law 640 = .ok (.iload 4, 2) := by decide +kernel
theorem dL_law_642 : decode cL_law 642 = .ok (.iconst 1, 1) := by decide +kernel
theorem dL_law_643 : decode cL_law 643 = .ok (.iadd, 1) := by decide +kernel
theorem dL_law_644 : decode cL_law 644 = .ok (.iaload, 1) := by decide +kernel
theorem dL_law_645 : decode cL_law 645 = .ok (.invokevirtual 91, 3) := by decide +kernel
theorem dL_law_648 : decode cL_law 648 = .ok (.if_icmp .eq 30, 3) := by decide +kernel
theorem dL_law_651 : decode cL_law 651 = .ok (.iconst 0, 1) := by decide +kernel
theorem dL_law_652 : decode cL_law 652 = .ok (.ireturn, 1) := by decide +kernel
theorem dL_law_653 : decode cL_law 653 = .ok (.aload_n 1, 1) := by decide +kernel
theorem dL_law_654 : decode cL_law 654 = .ok (.aload_n 0, 1) := by decide +kernel
theorem dL_law_655 : decode cL_law 655 = .ok (.iload 4, 2) := by decide +kernel
theorem dL_law_657 : decode cL_law 657 = .ok (.iconst 1, 1) := by decide +kernel
theorem dL_law_658 : decode cL_law 658 = .ok (.iadd, 1) := by decide +kernel
theorem dL_law_659 : decode cL_law 659 = .ok (.iaload, 1) := by decide +kernel
theorem dL_law_660 : decode cL_law 660 = .ok (.invokevirtual 92, 3) := by decide +kernel
theorem dL_law_663 : decode cL_law 663 = .ok (.aload_n 2, 1) := by decide +kernel
theorem dL_law_664 : decode cL_law 664 = .ok (.aload_n 0, 1) := by decide +kernel
theorem dL_law_665 : decode cL_law 665 = .ok (.iload 4, 2) := by decide +kernel
theorem dL_law_667 : decode cL_law 667 = .ok (.iconst 1, 1) := by decide +kernel
theorem dL_law_668 : decode cL_law 668 = .ok (.iadd, 1) := by decide +kernel
theorem dL_law_669 : decode cL_law 669 = .ok (.iaload, 1) := by decide +kernel
theorem dL_law_670 : decode cL_law 670 = .ok (.invokevirtual 95, 3) := by decide +kernel
theorem dL_law_673 : decode cL_law 673 = .ok (.if_icmp .eq 5, 3) := by decide +kernel
theorem dL_law_676 : decode cL_law 676 = .ok (.iconst 0, 1) := by decide +kernel
theorem dL_law_677 : decode cL_law 677 = .ok (.ireturn, 1) := by decide +kernel
theorem dL_law_678 : decode cL_law 678 = .ok (.iinc 4 5, 3) := by decide +kernel
theorem dL_law_681 : decode cL_law 681 = .ok (.goto (-658), 3) := by decide +kernel
theorem dL_law_684 : decode cL_law 684 = .ok (.iconst 1, 1) := by decide +kernel
theorem dL_law_685 : decode cL_law 685 = .ok (.ireturn, 1) := by decide +kernel
end
section
/-! ===== BEGIN words of one list among another's, by their places ===== -/
theorem goodIn_r {big : List Cond} (ws : List Cond) (ps : List Nat) (hp : ws = ps.filterMap (fun i => big[i]?)) (h : ws.all goodWord = true) : GoodIn big ws := by
  intro w hw
  have h1 := List.all_eq_true.mp h w hw
  rw [hp] at hw
  obtain ⟨i, -, hi⟩ := List.mem_filterMap.mp hw
  have hm : w ∈ big := by first | exact List.mem_of_getElem? hi | exact List.getElem?_mem hi
  exact ⟨hm, good_of_word h1⟩
theorem goodIn_app {big a b : List Cond} (ha : GoodIn big a) (hb : GoodIn big b) : GoodIn big (a ++ b) := fun w h => (List.mem_append.mp h).elim (ha w) (hb w)
theorem goodIn_ca {big a b : List Cond} {c : Cond} (ha : GoodIn big (c :: a)) (hb : GoodIn big b) : GoodIn big (c :: (a ++ b)) := fun w h => (List.mem_cons.mp h).elim (fun e => ha w (List.mem_cons.mpr (Or.inl e))) (fun h => (List.mem_append.mp h).elim (fun h => ha w (List.mem_cons.mpr (Or.inr h))) (hb w))
theorem goodIn_sub {big ws : List Cond} (hm : ∀ w ∈ ws, w ∈ big) (h : ws.all goodWord = true) : GoodIn big ws := fun w hw => ⟨hm w hw, good_of_word (List.all_eq_true.mp h w hw)⟩
/-! ===== END ===== -/

/-! ===== BEGIN exceptions that leave a method, and their catching by the caller (launches without stack traces) ===== -/
section VXA
/-! The laws vx_back, vx_callV, vx_callS, vx_callSW, vx_throw0, vx_throwS follow proofs of the library, with one case more: JvmDerived/Free/Laws.lean (Back.of_free), Shelf42/LK1.lean (callV, callS), Shelf/KitTraced.lean (throwNew0V, throwNewS). -/
/-- where a method has thrown q: the class by its name, the cell, what was written, the world -/
def vx_T (XC : String → State → State → Prop) (st : State) (q : Addr) (t : State) (mc ms : Nat) (free : Addr → Prop) : Prop :=
  ∃ (E : String) (ce : Cell) (L : List Loc), XC E st t ∧ t.heap[q]? = some ce ∧ ce.vm = .none ∧ st.vm.findClass E = some ce.cls ∧ st.WarmedH t.vm ∧ st.sameButNew ({ t with vm := st.vm } : State) L mc ms ∧ ∀ z ∈ L, free z.base
def vx_Q (Qc : Array Value → State → Outcome → State → Prop) (XC : String → State → State → Prop) (mc ms : Nat) (free : Addr → Prop) : Array Value → State → Outcome → State → Prop := fun a st o t =>
  (Qc a st o t ∧ ∃ L, FrameEnd st o t L mc ms ∧ ∀ q ∈ L, free q.base) ∨ ∃ q, o = .threw q ∧ vx_T XC st q t mc ms free
/-- a callee that returns or throws -/
def vx_Met (l : Launch) (y : MethodName) (ws : List Cond) (rm : Room) (Pc : Array Value → State → Prop) (Qc : Array Value → State → Outcome → State → Prop) (XC : String → State → State → Prop) (mc ms : Nat) (free : Addr → Prop) : Prop :=
  MetFree l y (headSpec ws rm) Pc (fun _ _ _ _ _ => True) (vx_Q Qc XC mc ms free)
def vx_Post (XC : String → State → State → Prop) (mc ms : Nat) (free : Addr → Prop) : Pt → Array Value → Addr → Pt → Prop := fun A a q B =>
  ∃ (g : JFrame) (mk : MethodId) (t : State) (L : List Loc) (E : String) (ce : Cell), B.U.heap = t.heap ∧ B.U.vm = t.vm ∧ XC E (A.U.calling g mk a) t ∧ t.heap[q]? = some ce ∧ ce.vm = .none ∧ A.U.vm.findClass E = some ce.cls ∧ B.locs = A.locs ++ L ∧ (∀ z ∈ L, free z.base) ∧ B.cells = A.cells + mc ∧ B.slots = A.slots + ms
def vx_Back (l : Launch) (R : Room) (p : Program) (e : Env) (below : List Frame) (s : State) (sargs : Array Value) (y : MethodName) (len W9 : Nat)
    (Pre : Pt → Array Value → Prop) (Post : Pt → Array Value → Option Value → Pt → Prop) (PostX : Pt → Array Value → Addr → Pt → Prop) : Prop :=
  ∀ (m : MethodId) (meth : Method) (c : Code) (A : Pt) (g : JFrame) (ig : Instr) (mk : MethodId) (a : Array Value),
    Stand p l e R s m sargs below meth c A.U A.locs A.cells A.slots → g.method = m → g.locals.size = c.maxLocals → decode c.code g.pc = .ok (ig, len) →
    2 * g.monitorRoom + (g.stack.map fun v => v.category).sum ≤ W9 → A.U.methodNamed? y = some mk → Pre A a →
    (∃ (v : Option Value) (B : Pt), Stand p l e R s m sargs below meth c B.U B.locs B.cells B.slots ∧ Post A a v B ∧
      Steps p.tables e below (doInvoke e (A.U.setTop g) [] mk a).1 (B.U.setTop { g with pc := g.pc + len, stack := v.toList ++ g.stack })) ∨
    (∃ (q : Addr) (B : Pt), Stand p l e R s m sargs below meth c B.U B.locs B.cells B.slots ∧ PostX A a q B ∧
      Steps p.tables e below (doInvoke e (A.U.setTop g) [] mk a).1 ((B.U.setTop g).pushFrame (.throwing q)))
section Payer
variable {l : Launch} {R : Room} {p : Program} {e : Env} {below : List Frame} {s : State} {sargs : Array Value} {y : MethodName} {len W9 : Nat}
theorem vx_back {ws : List Cond} {rm : Room} {Pc : Array Value → State → Prop} {Qc : Array Value → State → Outcome → State → Prop} {XC : String → State → State → Prop} {mc ms : Nat} {free : Addr → Prop} {bytes : ByteArray} {maxL : Nat} {ret : Option FieldType}
    (hM : vx_Met l y ws rm Pc Qc XC mc ms free) (hblind : FrameBlind Pc) (hrc : rm.cells = mc) (hrs : rm.slots = ms)
    (hframes : rm.frames + 1 ≤ R.frames) (hlocals : W9 + (maxL + 11) + rm.locals ≤ R.locals)
    (hws : ∀ w ∈ ws, ∀ a' U, s.WarmedH U.vm → w.before a' U = true) (hcode : Cond.code y bytes maxL ret ∈ ws) (hinit : ∀ a' U, s.WarmedH U.vm → (Cond.initialized y.cls).before a' U = true) :
    vx_Back l R p e below s sargs y len W9 (PreOf R mc ms Pc) (PostOf Qc mc ms free) (vx_Post XC mc ms free) := by
  intro m meth c A g ig mk a X hg hsize hdg hW hn hp
  have h1 : (headSpec ws rm).pre.before a A.U = true := atoms_intro fun w hw => hws w hw _ _ X.warmed
  have h2 : (Cond.code y bytes maxL ret).before a A.U = true := hws _ hcode _ _ X.warmed
  have h3 : (Cond.initialized y.cls).before a A.U = true := hinit _ _ X.warmed
  have h4 : A.cells + (headSpec ws rm).room.cells ≤ R.cells := by rw [show (headSpec ws rm).room.cells = mc from hrc]; exact hp.1
  have h5 : A.slots + (headSpec ws rm).room.slots ≤ R.slots := by rw [show (headSpec ws rm).room.slots = ms from hrs]; exact hp.2.1
  have hPc : Pc a (A.U.calling g mk a) := hblind _ _ _ _ hp.2.2
  obtain ⟨U, Ls, c0, s0⟩ := A
  dsimp only [Pt.U, Pt.locs, Pt.cells, Pt.slots] at h1 h2 h3 h4 h5 X hn hPc ⊢
  obtain ⟨methY, cY, hmY, hcY, -, hlY, -, -, -, -⟩ := Cond.code_spec hn h2
  obtain ⟨kY, hkY, -⟩ := className_of_methodNamed hn
  have hinitY : kY.init = .initialized := Cond.initialized_spec (findClass_of_methodNamed hn) hkY h3
  have h : At U g.method c below := by rw [hg]; exact X.here
  have hlocals9 : W9 + (maxL + 11) + (headSpec ws rm).room.locals ≤ R.locals := hlocals
  have happ : (headSpec ws rm).appliesLoose y e.platform (U.calling g mk a) = true :=
    Spec.appliesLoose_calling (g := g) h hdg hn hkY hinitY
      (X.room_calling (g := g) (R' := (headSpec ws rm).room) hsize hmY hcY hframes (by rw [hlY]; omega) h4 h5) h1
  obtain ⟨mid, hmid⟩ := h.above
  have hfr : (U.setTop g).frames = (.java g :: mid) ++ below := by rw [State.frames_setTop' g h.top, hmid]; rfl
  obtain ⟨o, s₂, hsteps, -, hend, hq⟩ := Steps.callFree hM p X.admits X.cas X.clock (acts := []) hfr happ hPc trivial
  have hq' : vx_Q Qc XC mc ms free a (U.calling g mk a) o s₂ := hq
  rw [State.frames_setTop' g h.top] at hend
  obtain ⟨g₀, hg0⟩ := Option.isSome_iff_exists.mp h.top
  obtain ⟨r, hr⟩ := State.topJava?_eq_some.mp hg0
  have hr' : (({ U with heap := s₂.heap, slotsUsed := s₂.slotsUsed } : State).setVm s₂.vm).frames = .java g₀ :: r := hr
  rcases hq' with ⟨hqc, L, hfe, hL⟩ | ⟨q, rfl, E, ce, L, hx, hce, hcv, hcl, hW₂, hsm, hL⟩
  · obtain ⟨⟨v, rfl⟩, hW₂, e2, q2, q3, q4, q5, q6⟩ := id hfe
    have e3 : s₂ = ({ (U.calling g mk a).setFrames s₂.frames with heap := s₂.heap, slotsUsed := s₂.slotsUsed } : State).setVm s₂.vm := by
      have : s₂ = ({ s₂ with vm := (U.calling g mk a).vm } : State).setVm s₂.vm := rfl
      rw [e2] at this
      exact this
    obtain ⟨c₂, i₂, len₂, hc₂, hd₂, hf₂⟩ := hend
    have hW' : U.WarmedH s₂.vm := hW₂
    have hcc : c₂ = c := by
      have h1 : s₂.code? g.method = U.code? g.method := by
        rw [State.code?_eq, State.code?_eq, hW'.alike.method?]
      exact Option.some.inj (hc₂.symm.trans (h1.trans h.code))
    subst hcc
    have hlen : len₂ = len := by rw [hdg] at hd₂; cases hd₂; rfl
    subst hlen
    have hs₂ : s₂ = (({ U with heap := s₂.heap, slotsUsed := s₂.slotsUsed } : State).setVm s₂.vm).setTop { g with pc := g.pc + len₂, stack := v.toList ++ g.stack } := by
      refine e3.trans ?_
      rw [hf₂, State.calling_eq h.top, State.setFrames_setFrames, State.setTop_of_frames _ hr', hr]
      rfl
    have hsame : U.sameButNew ({ U with heap := s₂.heap, slotsUsed := s₂.slotsUsed } : State) L mc ms := by
      refine ⟨?_, q2, q3, q4, q5, q6⟩
      obtain ⟨t, ht, -⟩ := State.frames_cons hr
      show ({ U with heap := s₂.heap, slotsUsed := s₂.slotsUsed } : State) = { U.setFrames U.frames with heap := s₂.heap, slotsUsed := s₂.slotsUsed }
      rw [State.setFrames_self ht]
    subst hg
    refine Or.inl ⟨v, ⟨(({ U with heap := s₂.heap, slotsUsed := s₂.slotsUsed } : State).setVm s₂.vm), Ls ++ L, c0 + mc, s0 + ms⟩,
      ⟨X.admits, X.cas, X.clock, X.frames, X.room, X.hears, X.method, X.code, (X.here.setHeapUsed s₂.heap s₂.slotsUsed).setVm hW'.alike, X.tail, State.WarmedH.trans X.warmed hW', X.limits, X.bytes, X.same.trans (hsame.setVm s.vm)⟩,
      ⟨g, mk, s₂, L, rfl, rfl, hqc, rfl, hL, rfl, rfl⟩, ?_⟩
    show Steps p.tables e below _ ((({ U with heap := s₂.heap, slotsUsed := s₂.slotsUsed } : State).setVm s₂.vm).setTop { g with pc := g.pc + len₂, stack := v.toList ++ g.stack })
    rw [← hs₂]
    exact hsteps
  · obtain ⟨e2, q2, q3, q4, q5, q6⟩ := id hsm
    have e3 : s₂ = ({ (U.calling g mk a).setFrames s₂.frames with heap := s₂.heap, slotsUsed := s₂.slotsUsed } : State).setVm s₂.vm := by
      have : s₂ = ({ s₂ with vm := (U.calling g mk a).vm } : State).setVm s₂.vm := rfl
      rw [e2] at this
      exact this
    have hf₂ : s₂.frames = .throwing q :: .java g :: U.frames.tail := hend
    have hW' : U.WarmedH s₂.vm := hW₂
    have hs₂ : s₂ = ((({ U with heap := s₂.heap, slotsUsed := s₂.slotsUsed } : State).setVm s₂.vm).setTop g).pushFrame (.throwing q) := by
      refine e3.trans ?_
      rw [hf₂, State.calling_eq h.top, State.setFrames_setFrames, State.pushFrame, State.frames_setTop _ hr', State.setTop_of_frames _ hr', State.setFrames_setFrames, hr]
      rfl
    have hsame : U.sameButNew ({ U with heap := s₂.heap, slotsUsed := s₂.slotsUsed } : State) L mc ms := by
      refine ⟨?_, q2, q3, q4, q5, q6⟩
      obtain ⟨t, ht, -⟩ := State.frames_cons hr
      show ({ U with heap := s₂.heap, slotsUsed := s₂.slotsUsed } : State) = { U.setFrames U.frames with heap := s₂.heap, slotsUsed := s₂.slotsUsed }
      rw [State.setFrames_self ht]
    subst hg
    refine Or.inr ⟨q, ⟨(({ U with heap := s₂.heap, slotsUsed := s₂.slotsUsed } : State).setVm s₂.vm), Ls ++ L, c0 + mc, s0 + ms⟩,
      ⟨X.admits, X.cas, X.clock, X.frames, X.room, X.hears, X.method, X.code, (X.here.setHeapUsed s₂.heap s₂.slotsUsed).setVm hW'.alike, X.tail, State.WarmedH.trans X.warmed hW', X.limits, X.bytes, X.same.trans (hsame.setVm s.vm)⟩,
      ⟨g, mk, s₂, L, E, ce, rfl, rfl, hx, hce, hcv, hcl, rfl, hL, rfl, rfl⟩, ?_⟩
    show Steps p.tables e below _ (((({ U with heap := s₂.heap, slotsUsed := s₂.slotsUsed } : State).setVm s₂.vm).setTop g).pushFrame (.throwing q))
    rw [← hs₂]
    exact hsteps
end Payer
section Calls
variable {p : Program} {l : Launch} {e : Env} {R : Room} {s : State} {m : MethodId} {args : Array Value} {below : List Frame} {meth : Method} {c : Code} {T : State} {locs : List Loc} {cells slots : Nat}
theorem vx_callV (X : Stand p l e R s m args below meth c T locs cells slots) (hexec : p.tables.exec = Jvm.exec) {own C : String} {index : Nat} {y : MethodName} {bytes : ByteArray} {maxL : Nat} {ret : Option FieldType}
    (hown : s.vm.findClass own = some m.cls) (hlink : (Cond.methodLink own index y).before args s = true) (hinst : (Cond.instanceMethod y).before args s = true) (hsel : (Cond.selects C y y).before args s = true)
    (hcode : (Cond.code y bytes maxL ret).before args s = true) (hy : y.cls ≠ "java/lang/invoke/MethodHandle" ∧ y.cls ≠ "java/lang/invoke/VarHandle")
    {W9 : Nat} {Pre : Pt → Array Value → Prop} {Post : Pt → Array Value → Option Value → Pt → Prop} {PostX : Pt → Array Value → Addr → Pt → Prop} (hK : vx_Back l R p e below s args y 3 W9 Pre Post PostX)
    {b : Addr} {cellB : Cell} (hcell : T.heap[b]? = some cellB) (hobj : cellB.vm.isStatics = false) (hcls : s.vm.findClass C = some cellB.cls)
    {g : JFrame} (hg : g.method = m) (hsize : g.locals.size = c.maxLocals) {argsL rest : List Value} (hlen : ∀ sig, parseMethodDescriptor y.desc = some sig → argsL.length = sig.parameters.length)
    (hstack : g.stack = argsL.reverse ++ .ref b :: rest) (hW : 2 * g.monitorRoom + (rest.map fun v => v.category).sum ≤ W9) (hdg : decode c.code g.pc = .ok (.invokevirtual index, 3))
    (hpre : ∀ vm₁, s.WarmedH vm₁ → Pre ⟨T.setVm vm₁, locs, cells, slots⟩ (Value.ref b :: argsL).toArray) :
    (∃ (v : Option Value) (vm₁ : Vm) (B : Pt), s.WarmedH vm₁ ∧ Stand p l e R s m args below meth c B.U B.locs B.cells B.slots ∧ Post ⟨T.setVm vm₁, locs, cells, slots⟩ (Value.ref b :: argsL).toArray v B ∧
      ∀ target, Steps p.tables e below (B.U.setTop { g with pc := g.pc + 3, stack := v.toList ++ rest }) target → Steps p.tables e below (T.setTop g) target) ∨
    (∃ (q : Addr) (vm₁ : Vm) (B : Pt), s.WarmedH vm₁ ∧ Stand p l e R s m args below meth c B.U B.locs B.cells B.slots ∧ PostX ⟨T.setVm vm₁, locs, cells, slots⟩ (Value.ref b :: argsL).toArray q B ∧
      Steps p.tables e below (T.setTop g) ((B.U.setTop { g with stack := rest }).pushFrame (.throwing q))) := by
  obtain ⟨mk, methM, hnamed, hmethM, hstM, habM⟩ := Cond.instanceMethod_spec hinst
  obtain ⟨methM', cM, hmethM', -, -, -, -, -, -, hsigM⟩ := Cond.code_spec hnamed hcode
  cases hmethM.symm.trans hmethM'
  obtain ⟨c2, r2, m2, q1, q2, q3, q4, kP, hkP, hkPi⟩ := Cond.selects_spec hsel
  cases hcls.symm.trans q1
  cases (State.methodFound?_of_named hnamed hy).symm.trans q2
  cases hnamed.symm.trans q3
  have hselP : selectMethod e.platform s.vm cellB.cls mk = .method mk := by rw [Launch.admits_selectMethod X.admits]; exact q4
  obtain ⟨vm₁, X₁, hstep₁⟩ := X.invokevirtual hexec hown hlink hnamed hmethM hstM hkP hkPi hy (a := b) (cell := cellB) hcell
    (fun z h => by rw [h] at hobj; cases hobj) hselP hmethM habM hkP hkPi (g := g) hg (argsL := argsL) (rest := rest) (hlen _ hsigM) hstack hdg
  rcases hK m meth c ⟨T.setVm vm₁, locs, cells, slots⟩ { g with stack := rest } (.invokevirtual index) mk (Value.ref b :: argsL).toArray X₁ hg hsize hdg hW (X₁.named hnamed) (hpre vm₁ X₁.warmed) with ⟨v, B, X', hpost, hsteps⟩ | ⟨q, B, X', hpost, hsteps⟩
  · exact Or.inl ⟨v, vm₁, B, X₁.warmed, X', hpost, fun target h => hstep₁ _ fun acts => by rw [doInvoke_state]; exact hsteps.trans h⟩
  · exact Or.inr ⟨q, vm₁, B, X₁.warmed, X', hpost, hstep₁ _ fun acts => by rw [doInvoke_state]; exact hsteps⟩
theorem vx_callS (X : Stand p l e R s m args below meth c T locs cells slots) (hexec : p.tables.exec = Jvm.exec) {own : String} {index : Nat} {y : MethodName} {bytes : ByteArray} {maxL : Nat} {ret : Option FieldType}
    (hown : s.vm.findClass own = some m.cls) (hlink : (Cond.methodLink own index y).before args s = true) (hstat : (Cond.static y).before args s = true) (hinit : (Cond.initialized y.cls).before args s = true)
    (hcode : (Cond.code y bytes maxL ret).before args s = true) (hy : y.cls ≠ "java/lang/invoke/MethodHandle" ∧ y.cls ≠ "java/lang/invoke/VarHandle")
    {W9 : Nat} {Pre : Pt → Array Value → Prop} {Post : Pt → Array Value → Option Value → Pt → Prop} {PostX : Pt → Array Value → Addr → Pt → Prop} (hK : vx_Back l R p e below s args y 3 W9 Pre Post PostX)
    {g : JFrame} (hg : g.method = m) (hsize : g.locals.size = c.maxLocals) {argsL rest : List Value} (hlen : ∀ sig, parseMethodDescriptor y.desc = some sig → argsL.length = sig.parameters.length)
    (hstack : g.stack = argsL.reverse ++ rest) (hW : 2 * g.monitorRoom + (rest.map fun v => v.category).sum ≤ W9) (hdg : decode c.code g.pc = .ok (.invokestatic index, 3))
    (hpre : ∀ vm₁, s.WarmedH vm₁ → Pre ⟨T.setVm vm₁, locs, cells, slots⟩ argsL.toArray) :
    (∃ (v : Option Value) (vm₁ : Vm) (B : Pt), s.WarmedH vm₁ ∧ Stand p l e R s m args below meth c B.U B.locs B.cells B.slots ∧ Post ⟨T.setVm vm₁, locs, cells, slots⟩ argsL.toArray v B ∧
      ∀ target, Steps p.tables e below (B.U.setTop { g with pc := g.pc + 3, stack := v.toList ++ rest }) target → Steps p.tables e below (T.setTop g) target) ∨
    (∃ (q : Addr) (vm₁ : Vm) (B : Pt), s.WarmedH vm₁ ∧ Stand p l e R s m args below meth c B.U B.locs B.cells B.slots ∧ PostX ⟨T.setVm vm₁, locs, cells, slots⟩ argsL.toArray q B ∧
      Steps p.tables e below (T.setTop g) ((B.U.setTop { g with stack := rest }).pushFrame (.throwing q))) := by
  obtain ⟨mk, hnamed⟩ := Cond.code_named hcode
  obtain ⟨methM, cM, hmethM, -, -, -, -, -, -, hsigM⟩ := Cond.code_spec hnamed hcode
  have hstatic : methM.isStatic = true := Cond.static_spec hnamed hmethM hstat
  obtain ⟨kP, hkP, -⟩ := className_of_methodNamed hnamed
  have hinitP : kP.init = .initialized := Cond.initialized_spec (findClass_of_methodNamed hnamed) hkP hinit
  obtain ⟨vm₁, X₁, hstep₁⟩ := X.invokestatic hexec hown hlink hnamed hmethM hstatic hkP hinitP hy (g := g) hg (argsL := argsL) (rest := rest) (hlen _ hsigM) hstack hdg
  rcases hK m meth c ⟨T.setVm vm₁, locs, cells, slots⟩ { g with stack := rest } (.invokestatic index) mk argsL.toArray X₁ hg hsize hdg hW (X₁.named hnamed) (hpre vm₁ X₁.warmed) with ⟨v, B, X', hpost, hsteps⟩ | ⟨q, B, X', hpost, hsteps⟩
  · exact Or.inl ⟨v, vm₁, B, X₁.warmed, X', hpost, fun target h => hstep₁ _ fun acts => by rw [doInvoke_state]; exact hsteps.trans h⟩
  · exact Or.inr ⟨q, vm₁, B, X₁.warmed, X', hpost, hstep₁ _ fun acts => by rw [doInvoke_state]; exact hsteps⟩
end Calls
theorem vx_cls {s : State} {T : State} {vm₁ : Vm} {E : String} {k : ClassId} (hW : s.WarmedH vm₁) (h : (T.setVm vm₁).vm.findClass E = some k) : s.vm.findClass E = some k := by
  have h1 : vm₁.findClass E = some k := h
  rw [hW.alike.findClass] at h1
  exact h1
/-- the method's frame g, with q thrown over it -/
def vx_W (p : Program) (l : Launch) (e : Env) (R : Room) (s : State) (m : MethodId) (args : Array Value) (below : List Frame) (meth : Method) (c : Code) (H : Heap) (locs : List Loc) (cells slots : Nat) (Q : State → Prop) (g : JFrame) (q : Addr) : Prop :=
  ∀ T : State, T.heap = H → Stand p l e R s m args below meth c T locs cells slots → ∃ t, Steps p.tables e below ((T.setTop g).pushFrame (.throwing q)) t ∧ Q t
def vx_Run (p : Program) (l : Launch) (e : Env) (R : Room) (s : State) (m : MethodId) (args : Array Value) (below : List Frame) (meth : Method) (c : Code) (H : Heap) (locs : List Loc) (cells slots mc ms : Nat) (g : JFrame) (rest : List Value) (Qa : State → Outcome → State → Prop) (XC : String → State → State → Prop) (free : Addr → Prop) : Prop :=
  ∀ T : State, T.heap = H → Stand p l e R s m args below meth c T locs cells slots →
    (∃ (v : Option Value) (st₀ t T' : State) (L : List Loc), st₀.heap = H ∧ Stand p l e R s m args below meth c T' (locs ++ L) (cells + mc) (slots + ms) ∧ (∀ q ∈ L, free q.base) ∧ T'.heap = t.heap ∧ T'.vm = t.vm ∧ Qa st₀ (.returned v) t ∧
      Goes p e below T g T' { g with pc := g.pc + 3, stack := v.toList ++ rest }) ∨
    (∃ (q : Addr) (st₀ t T' : State) (L : List Loc) (E : String) (ce : Cell), st₀.heap = H ∧ Stand p l e R s m args below meth c T' (locs ++ L) (cells + mc) (slots + ms) ∧ (∀ z ∈ L, free z.base) ∧ T'.heap = t.heap ∧ T'.vm = t.vm ∧ XC E st₀ t ∧ t.heap[q]? = some ce ∧ ce.vm = .none ∧ s.vm.findClass E = some ce.cls ∧
      Steps p.tables e below (T.setTop g) ((T'.setTop { g with stack := rest }).pushFrame (.throwing q)))
def vx_X {S : Type} (px : S → Prop) (B : String → S → State → Prop) (A : Nat → Prop) : String → State → State → Prop := fun E st t => ∃ u : S, px u ∧ B E u t ∧ va_F A st t
section Runs
variable {p : Program} {l : Launch} {e : Env} {R : Room} {s : State} {m : MethodId} {args : Array Value} {below : List Frame} {meth : Method} {c : Code} {H : Heap} {locs : List Loc} {cells slots : Nat}
variable {y : MethodName} {bytes cc : ByteArray} {maxL nL mc ms n index : Nat} {ret : Option FieldType} {ws : List Cond} {rm : Room} {Pc : Array Value → State → Prop} {Qc : Array Value → State → Outcome → State → Prop} {XC : String → State → State → Prop} {free : Addr → Prop} {Ts : List Cond} {own C : String} {b : Addr} {As rest : List Value} {g : JFrame}
theorem vx_callBack (cb : CallB R s args own index y bytes maxL ret ws rm mc ms n) (hM : vx_Met l y ws rm Pc Qc XC mc ms free) (hbl : FrameBlind Pc) : vx_Back l R p e below s args y 3 8 (PreOf R mc ms Pc) (PostOf Qc mc ms free) (vx_Post XC mc ms free) := by
  obtain ⟨hrc, hrs, hfr, hlo, hws, hcw, -, hini, -⟩ := cb
  exact vx_back (bytes := bytes) (maxL := maxL) (ret := ret) hM hbl hrc hrs hfr hlo hws hcw (fun a' U hW => word_at hW (Or.inl (by first | rfl | simp [Cond.onTables, Cond.keeps, Cond.steady])) hini)
theorem vx_runV (S : CallFix p m c cc nL s args Ts own) (hM : vx_Met l y ws rm Pc Qc XC mc ms free) (cw : CallW R s args own C index y bytes maxL ret ws rm mc ms n) (hp : PreV s H C b Pc As)
    (hg : g.method = m) (hn : As.length = n) (hsize : g.locals.size = nL) (hstack : g.stack = As.reverse ++ .ref b :: rest) (hW : 2 * g.monitorRoom + (rest.map fun v => v.category).sum ≤ 8) (hdg : decode cc g.pc = .ok (.invokevirtual index, 3)) (hf : cells + mc ≤ R.cells ∧ slots + ms ≤ R.slots) :
    vx_Run p l e R s m args below meth c H locs cells slots mc ms g rest (Qc (Value.ref b :: As).toArray) XC free := by
  have hK : vx_Back l R p e below s args y 3 8 (PreOf R mc ms Pc) (PostOf Qc mc ms free) (vx_Post XC mc ms free) := vx_callBack cw.1 hM hp.1
  obtain ⟨⟨-, -, -, -, -, -, hcode, -, hy, hlen, hl⟩, hin, hse⟩ := cw
  obtain ⟨hx, hb, hml, ho, -⟩ := S
  obtain ⟨-, ⟨cellB, hcB, hoB, hclB⟩, hPc⟩ := hp
  intro T hT X
  rcases vx_callV X hx (C := C) (bytes := bytes) (maxL := maxL) (ret := ret) ho hl hin hse hcode hy hK (by rw [hT]; exact hcB) hoB hclB hg (hsize.trans hml.symm) (argsL := As) (rest := rest) (fun sig h => hn.trans (hlen sig h)) hstack hW (by rw [hb]; exact hdg)
    (fun vm₁ hW₁ => ⟨hf.1, hf.2, hPc (T.setVm vm₁) hT hW₁⟩) with ⟨v, vm₁, ⟨U', l2, c2, s2⟩, hW₁, X', ⟨g', mk, t, L, e1, e2, hq, h1, hL, h2, h3⟩, st⟩ | ⟨q, vm₁, ⟨U', l2, c2, s2⟩, hW₁, X', ⟨g', mk, t, L, E, ce, e1, e2, hq, hce, hcv, hcl, h1, hL, h2, h3⟩, st⟩
  · dsimp only [Pt.U, Pt.locs, Pt.cells, Pt.slots] at X' e1 e2 h1 h2 h3 st
    subst h1; subst h2; subst h3
    exact Or.inl ⟨v, (T.setVm vm₁).calling g' mk (Value.ref b :: As).toArray, t, U', L, hT, X', hL, e1, e2, hq, st⟩
  · dsimp only [Pt.U, Pt.locs, Pt.cells, Pt.slots] at X' e1 e2 h1 h2 h3 st hcl
    subst h1; subst h2; subst h3
    exact Or.inr ⟨q, (T.setVm vm₁).calling g' mk (Value.ref b :: As).toArray, t, U', L, E, ce, hT, X', hL, e1, e2, hq, hce, hcv, vx_cls hW₁ hcl, st⟩
theorem vx_runS (S : CallFix p m c cc nL s args Ts own) (hM : vx_Met l y ws rm Pc Qc XC mc ms free) (cw : CallB R s args own index y bytes maxL ret ws rm mc ms n ∧ (Cond.static y).before args s = true) (hp : PreS s H Pc As)
    (hg : g.method = m) (hn : As.length = n) (hsize : g.locals.size = nL) (hstack : g.stack = As.reverse ++ rest) (hW : 2 * g.monitorRoom + (rest.map fun v => v.category).sum ≤ 8) (hdg : decode cc g.pc = .ok (.invokestatic index, 3)) (hf : cells + mc ≤ R.cells ∧ slots + ms ≤ R.slots) :
    vx_Run p l e R s m args below meth c H locs cells slots mc ms g rest (Qc As.toArray) XC free := by
  have hK : vx_Back l R p e below s args y 3 8 (PreOf R mc ms Pc) (PostOf Qc mc ms free) (vx_Post XC mc ms free) := vx_callBack cw.1 hM hp.1
  obtain ⟨⟨-, -, -, -, -, -, hcode, hini, hy, hlen, hl⟩, hstt⟩ := cw
  obtain ⟨hx, hb, hml, ho, -⟩ := S
  intro T hT X
  rcases vx_callS X hx (bytes := bytes) (maxL := maxL) (ret := ret) ho hl hstt hini hcode hy hK hg (hsize.trans hml.symm) (argsL := As) (rest := rest) (fun sig h => hn.trans (hlen sig h)) hstack hW (by rw [hb]; exact hdg)
    (fun vm₁ hW₁ => ⟨hf.1, hf.2, hp.2 (T.setVm vm₁) hT hW₁⟩) with ⟨v, vm₁, ⟨U', l2, c2, s2⟩, hW₁, X', ⟨g', mk, t, L, e1, e2, hq, h1, hL, h2, h3⟩, st⟩ | ⟨q, vm₁, ⟨U', l2, c2, s2⟩, hW₁, X', ⟨g', mk, t, L, E, ce, e1, e2, hq, hce, hcv, hcl, h1, hL, h2, h3⟩, st⟩
  · dsimp only [Pt.U, Pt.locs, Pt.cells, Pt.slots] at X' e1 e2 h1 h2 h3 st
    subst h1; subst h2; subst h3
    exact Or.inl ⟨v, (T.setVm vm₁).calling g' mk As.toArray, t, U', L, hT, X', hL, e1, e2, hq, st⟩
  · dsimp only [Pt.U, Pt.locs, Pt.cells, Pt.slots] at X' e1 e2 h1 h2 h3 st hcl
    subst h1; subst h2; subst h3
    exact Or.inr ⟨q, (T.setVm vm₁).calling g' mk As.toArray, t, U', L, E, ce, hT, X', hL, e1, e2, hq, hce, hcv, vx_cls hW₁ hcl, st⟩
end Runs
section Rows
variable {p : Program} {l : Launch} {e : Env} {R : Room} {s : State} {m : MethodId} {args : Array Value} {below : List Frame} {meth : Method} {c : Code} {H : Heap} {locs : List Loc} {cells slots : Nat} {Q : State → Prop}
variable {mc ms : Nat} {free : Addr → Prop} {A0 A1 : Nat → Prop} {H0 : Heap} {a : Array Value} {pc : Nat} {ls : Array Slot} {st0 rest : List Value}
theorem vx_keep {st₀ t T' : State} {L : List Loc} (h0 : st₀.heap = H) (e1 : T'.heap = t.heap) (hS : va_S A0 H0 H locs) (hA : ∀ q, q < H.size → A1 q → A0 q) (hf : ∀ q, free q → A0 q) (hL : ∀ q ∈ L, free q.base) (hF : va_F A1 st₀ t) :
    H.size ≤ T'.heap.size ∧ (∀ q : Nat, q < H.size → ¬ A1 q → T'.heap[q]? = H[q]?) ∧ va_S A0 H0 T'.heap (locs ++ L) := by
  obtain ⟨hz, hk⟩ := hF
  rw [h0] at hz hk
  exact ⟨by rw [e1]; exact hz, fun q h1 h2 => by rw [e1]; exact hk q h1 h2,
    ⟨Nat.le_trans hS.1 (by rw [e1]; exact hz), fun q h1 h2 => by rw [e1, hk q (Nat.lt_of_lt_of_le h1 hS.1) (fun z => h2 (hA q (Nat.lt_of_lt_of_le h1 hS.1) z))]; exact hS.2.1 q h1 h2, fun q hq => by
      rcases List.mem_append.mp hq with h | h
      · exact hS.2.2 q h
      · exact hf _ (hL q h)⟩⟩
theorem vx_calli {S SX : Type} {post : Int32 → S → Prop} {px : SX → Prop} {B : S → State → Prop} {BX : String → SX → State → Prop} {AX : Nat → Prop} (hr : vx_Run p l e R s m args below meth c H locs cells slots mc ms (F0 m pc ls st0) rest (va_Qi post B A1 a) (vx_X px BX AX) free) (hS : va_S A0 H0 H locs) (hA : ∀ q, q < H.size → A1 q → A0 q) (hf : ∀ q, free q → A0 q) (hAX : ∀ q, q < H.size → AX q → A0 q)
    (kx : ∀ (E : String) (ce : Cell) (q9 : Addr) (u : SX) (t : State) (H1 : Heap) (locs1 : List Loc), t.heap = H1 → s.vm.Alike t.vm → px u → BX E u t → H.size ≤ H1.size → (∀ q : Nat, q < H.size → ¬ AX q → H1[q]? = H[q]?) → va_S A0 H0 H1 locs1 → H1[q9]? = some ce → ce.vm = .none → s.vm.findClass E = some ce.cls → vx_W p l e R s m args below meth c H1 locs1 (cells + mc) (slots + ms) Q (F0 m pc ls rest) q9)
    (kk : ∀ (r : Int32) (u : S) (t : State) (H1 : Heap) (locs1 : List Loc), t.heap = H1 → s.vm.Alike t.vm → post r u → B u t → H.size ≤ H1.size → (∀ q : Nat, q < H.size → ¬ A1 q → H1[q]? = H[q]?) → va_S A0 H0 H1 locs1 → W p l e R s m args below meth c H1 locs1 (cells + mc) (slots + ms) Q (F0 m (pc + 3) ls (.int r :: rest))) : W p l e R s m args below meth c H locs cells slots Q (F0 m pc ls st0) := by
  intro T hT X
  rcases hr T hT X with ⟨v, st₀, t, T', L, h0, X', hL, e1, e2, ⟨⟨r, u, hv, hp, hb⟩, hF⟩, st⟩ | ⟨q, st₀, t, T', L, E, ce, h0, X', hL, e1, e2, ⟨u, hp, hb, hF⟩, hce, hcv, hcl, st⟩
  · cases hv
    obtain ⟨k1, k2, k3⟩ := vx_keep h0 e1 hS hA hf hL hF
    obtain ⟨t2, a1, b1⟩ := kk r u t T'.heap (locs ++ L) e1.symm (by rw [← e2]; exact X'.warmed.alike) hp hb k1 k2 k3 T' rfl X'
    exact ⟨t2, st t2 a1, b1⟩
  · obtain ⟨k1, k2, k3⟩ := vx_keep h0 e1 hS hAX hf hL hF
    obtain ⟨t2, a1, b1⟩ := kx E ce q u t T'.heap (locs ++ L) e1.symm (by rw [← e2]; exact X'.warmed.alike) hp hb k1 k2 k3 (by rw [e1]; exact hce) hcv hcl T' rfl X'
    exact ⟨t2, st.trans a1, b1⟩
theorem vx_calll {S SX : Type} {post : Int64 → S → Prop} {px : SX → Prop} {B : S → State → Prop} {BX : String → SX → State → Prop} {AX : Nat → Prop} (hr : vx_Run p l e R s m args below meth c H locs cells slots mc ms (F0 m pc ls st0) rest (va_Ql post B A1 a) (vx_X px BX AX) free) (hS : va_S A0 H0 H locs) (hA : ∀ q, q < H.size → A1 q → A0 q) (hf : ∀ q, free q → A0 q) (hAX : ∀ q, q < H.size → AX q → A0 q)
    (kx : ∀ (E : String) (ce : Cell) (q9 : Addr) (u : SX) (t : State) (H1 : Heap) (locs1 : List Loc), t.heap = H1 → s.vm.Alike t.vm → px u → BX E u t → H.size ≤ H1.size → (∀ q : Nat, q < H.size → ¬ AX q → H1[q]? = H[q]?) → va_S A0 H0 H1 locs1 → H1[q9]? = some ce → ce.vm = .none → s.vm.findClass E = some ce.cls → vx_W p l e R s m args below meth c H1 locs1 (cells + mc) (slots + ms) Q (F0 m pc ls rest) q9)
    (kk : ∀ (r : Int64) (u : S) (t : State) (H1 : Heap) (locs1 : List Loc), t.heap = H1 → s.vm.Alike t.vm → post r u → B u t → H.size ≤ H1.size → (∀ q : Nat, q < H.size → ¬ A1 q → H1[q]? = H[q]?) → va_S A0 H0 H1 locs1 → W p l e R s m args below meth c H1 locs1 (cells + mc) (slots + ms) Q (F0 m (pc + 3) ls (.long r :: rest))) : W p l e R s m args below meth c H locs cells slots Q (F0 m pc ls st0) := by
  intro T hT X
  rcases hr T hT X with ⟨v, st₀, t, T', L, h0, X', hL, e1, e2, ⟨⟨r, u, hv, hp, hb⟩, hF⟩, st⟩ | ⟨q, st₀, t, T', L, E, ce, h0, X', hL, e1, e2, ⟨u, hp, hb, hF⟩, hce, hcv, hcl, st⟩
  · cases hv
    obtain ⟨k1, k2, k3⟩ := vx_keep h0 e1 hS hA hf hL hF
    obtain ⟨t2, a1, b1⟩ := kk r u t T'.heap (locs ++ L) e1.symm (by rw [← e2]; exact X'.warmed.alike) hp hb k1 k2 k3 T' rfl X'
    exact ⟨t2, st t2 a1, b1⟩
  · obtain ⟨k1, k2, k3⟩ := vx_keep h0 e1 hS hAX hf hL hF
    obtain ⟨t2, a1, b1⟩ := kx E ce q u t T'.heap (locs ++ L) e1.symm (by rw [← e2]; exact X'.warmed.alike) hp hb k1 k2 k3 (by rw [e1]; exact hce) hcv hcl T' rfl X'
    exact ⟨t2, st.trans a1, b1⟩
theorem vx_callf {S SX : Type} {post : UInt32 → S → Prop} {px : SX → Prop} {B : S → State → Prop} {BX : String → SX → State → Prop} {AX : Nat → Prop} (hr : vx_Run p l e R s m args below meth c H locs cells slots mc ms (F0 m pc ls st0) rest (va_Qf post B A1 a) (vx_X px BX AX) free) (hS : va_S A0 H0 H locs) (hA : ∀ q, q < H.size → A1 q → A0 q) (hf : ∀ q, free q → A0 q) (hAX : ∀ q, q < H.size → AX q → A0 q)
    (kx : ∀ (E : String) (ce : Cell) (q9 : Addr) (u : SX) (t : State) (H1 : Heap) (locs1 : List Loc), t.heap = H1 → s.vm.Alike t.vm → px u → BX E u t → H.size ≤ H1.size → (∀ q : Nat, q < H.size → ¬ AX q → H1[q]? = H[q]?) → va_S A0 H0 H1 locs1 → H1[q9]? = some ce → ce.vm = .none → s.vm.findClass E = some ce.cls → vx_W p l e R s m args below meth c H1 locs1 (cells + mc) (slots + ms) Q (F0 m pc ls rest) q9)
    (kk : ∀ (r : UInt32) (u : S) (t : State) (H1 : Heap) (locs1 : List Loc), t.heap = H1 → s.vm.Alike t.vm → post r u → B u t → H.size ≤ H1.size → (∀ q : Nat, q < H.size → ¬ A1 q → H1[q]? = H[q]?) → va_S A0 H0 H1 locs1 → W p l e R s m args below meth c H1 locs1 (cells + mc) (slots + ms) Q (F0 m (pc + 3) ls (.float r :: rest))) : W p l e R s m args below meth c H locs cells slots Q (F0 m pc ls st0) := by
  intro T hT X
  rcases hr T hT X with ⟨v, st₀, t, T', L, h0, X', hL, e1, e2, ⟨⟨r, u, hv, hp, hb⟩, hF⟩, st⟩ | ⟨q, st₀, t, T', L, E, ce, h0, X', hL, e1, e2, ⟨u, hp, hb, hF⟩, hce, hcv, hcl, st⟩
  · cases hv
    obtain ⟨k1, k2, k3⟩ := vx_keep h0 e1 hS hA hf hL hF
    obtain ⟨t2, a1, b1⟩ := kk r u t T'.heap (locs ++ L) e1.symm (by rw [← e2]; exact X'.warmed.alike) hp hb k1 k2 k3 T' rfl X'
    exact ⟨t2, st t2 a1, b1⟩
  · obtain ⟨k1, k2, k3⟩ := vx_keep h0 e1 hS hAX hf hL hF
    obtain ⟨t2, a1, b1⟩ := kx E ce q u t T'.heap (locs ++ L) e1.symm (by rw [← e2]; exact X'.warmed.alike) hp hb k1 k2 k3 (by rw [e1]; exact hce) hcv hcl T' rfl X'
    exact ⟨t2, st.trans a1, b1⟩
theorem vx_calld {S SX : Type} {post : UInt64 → S → Prop} {px : SX → Prop} {B : S → State → Prop} {BX : String → SX → State → Prop} {AX : Nat → Prop} (hr : vx_Run p l e R s m args below meth c H locs cells slots mc ms (F0 m pc ls st0) rest (va_Qd post B A1 a) (vx_X px BX AX) free) (hS : va_S A0 H0 H locs) (hA : ∀ q, q < H.size → A1 q → A0 q) (hf : ∀ q, free q → A0 q) (hAX : ∀ q, q < H.size → AX q → A0 q)
    (kx : ∀ (E : String) (ce : Cell) (q9 : Addr) (u : SX) (t : State) (H1 : Heap) (locs1 : List Loc), t.heap = H1 → s.vm.Alike t.vm → px u → BX E u t → H.size ≤ H1.size → (∀ q : Nat, q < H.size → ¬ AX q → H1[q]? = H[q]?) → va_S A0 H0 H1 locs1 → H1[q9]? = some ce → ce.vm = .none → s.vm.findClass E = some ce.cls → vx_W p l e R s m args below meth c H1 locs1 (cells + mc) (slots + ms) Q (F0 m pc ls rest) q9)
    (kk : ∀ (r : UInt64) (u : S) (t : State) (H1 : Heap) (locs1 : List Loc), t.heap = H1 → s.vm.Alike t.vm → post r u → B u t → H.size ≤ H1.size → (∀ q : Nat, q < H.size → ¬ A1 q → H1[q]? = H[q]?) → va_S A0 H0 H1 locs1 → W p l e R s m args below meth c H1 locs1 (cells + mc) (slots + ms) Q (F0 m (pc + 3) ls (.double r :: rest))) : W p l e R s m args below meth c H locs cells slots Q (F0 m pc ls st0) := by
  intro T hT X
  rcases hr T hT X with ⟨v, st₀, t, T', L, h0, X', hL, e1, e2, ⟨⟨r, u, hv, hp, hb⟩, hF⟩, st⟩ | ⟨q, st₀, t, T', L, E, ce, h0, X', hL, e1, e2, ⟨u, hp, hb, hF⟩, hce, hcv, hcl, st⟩
  · cases hv
    obtain ⟨k1, k2, k3⟩ := vx_keep h0 e1 hS hA hf hL hF
    obtain ⟨t2, a1, b1⟩ := kk r u t T'.heap (locs ++ L) e1.symm (by rw [← e2]; exact X'.warmed.alike) hp hb k1 k2 k3 T' rfl X'
    exact ⟨t2, st t2 a1, b1⟩
  · obtain ⟨k1, k2, k3⟩ := vx_keep h0 e1 hS hAX hf hL hF
    obtain ⟨t2, a1, b1⟩ := kx E ce q u t T'.heap (locs ++ L) e1.symm (by rw [← e2]; exact X'.warmed.alike) hp hb k1 k2 k3 (by rw [e1]; exact hce) hcv hcl T' rfl X'
    exact ⟨t2, st.trans a1, b1⟩
theorem vx_callv {S SX : Type} {post : S → Prop} {px : SX → Prop} {B : S → State → Prop} {BX : String → SX → State → Prop} {AX : Nat → Prop} (hr : vx_Run p l e R s m args below meth c H locs cells slots mc ms (F0 m pc ls st0) rest (va_Qv post B A1 a) (vx_X px BX AX) free) (hS : va_S A0 H0 H locs) (hA : ∀ q, q < H.size → A1 q → A0 q) (hf : ∀ q, free q → A0 q) (hAX : ∀ q, q < H.size → AX q → A0 q)
    (kx : ∀ (E : String) (ce : Cell) (q9 : Addr) (u : SX) (t : State) (H1 : Heap) (locs1 : List Loc), t.heap = H1 → s.vm.Alike t.vm → px u → BX E u t → H.size ≤ H1.size → (∀ q : Nat, q < H.size → ¬ AX q → H1[q]? = H[q]?) → va_S A0 H0 H1 locs1 → H1[q9]? = some ce → ce.vm = .none → s.vm.findClass E = some ce.cls → vx_W p l e R s m args below meth c H1 locs1 (cells + mc) (slots + ms) Q (F0 m pc ls rest) q9)
    (kk : ∀ (u : S) (t : State) (H1 : Heap) (locs1 : List Loc), t.heap = H1 → s.vm.Alike t.vm → post u → B u t → H.size ≤ H1.size → (∀ q : Nat, q < H.size → ¬ A1 q → H1[q]? = H[q]?) → va_S A0 H0 H1 locs1 → W p l e R s m args below meth c H1 locs1 (cells + mc) (slots + ms) Q (F0 m (pc + 3) ls (rest))) : W p l e R s m args below meth c H locs cells slots Q (F0 m pc ls st0) := by
  intro T hT X
  rcases hr T hT X with ⟨v, st₀, t, T', L, h0, X', hL, e1, e2, ⟨⟨u, hv, hp, hb⟩, hF⟩, st⟩ | ⟨q, st₀, t, T', L, E, ce, h0, X', hL, e1, e2, ⟨u, hp, hb, hF⟩, hce, hcv, hcl, st⟩
  · cases hv
    obtain ⟨k1, k2, k3⟩ := vx_keep h0 e1 hS hA hf hL hF
    obtain ⟨t2, a1, b1⟩ := kk u t T'.heap (locs ++ L) e1.symm (by rw [← e2]; exact X'.warmed.alike) hp hb k1 k2 k3 T' rfl X'
    exact ⟨t2, st t2 a1, b1⟩
  · obtain ⟨k1, k2, k3⟩ := vx_keep h0 e1 hS hAX hf hL hF
    obtain ⟨t2, a1, b1⟩ := kx E ce q u t T'.heap (locs ++ L) e1.symm (by rw [← e2]; exact X'.warmed.alike) hp hb k1 k2 k3 (by rw [e1]; exact hce) hcv hcl T' rfl X'
    exact ⟨t2, st.trans a1, b1⟩
end Rows
section Ends
variable {p : Program} {l : Launch} {e : Env} {R : Room} {s : State} {m : MethodId} {args : Array Value} {below : List Frame} {meth : Method} {c : Code} {H : Heap} {locs : List Loc} {cells slots : Nat} {Q : State → Prop}
variable {mc ms : Nat} {free : Addr → Prop} {A0 A1 : Nat → Prop} {H0 : Heap} {a : Array Value} {ls : Array Slot} {st0 rest : List Value}
variable {Qc : Array Value → State → Outcome → State → Prop} {XC : String → State → State → Prop}
/-- what a body that may throw owes at its end -/
def vx_MQ (below : List Frame) (Qc : Array Value → State → Outcome → State → Prop) (XC : String → State → State → Prop) (a : Array Value) (s : State) (mc ms : Nat) (free : Addr → Prop) : State → Prop := fun t =>
  ∃ o, t.status = .running ∧ Ended t below o ∧ vx_Q Qc XC mc ms free a s o t
theorem vx_ret {g : JFrame} {mc ms : Nat} (k : W p l e R s m args below meth c H locs cells slots (MQ below Qc args s mc ms free) g) : W p l e R s m args below meth c H locs cells slots (vx_MQ below Qc XC args s mc ms free) g := by
  intro T hT X
  obtain ⟨t, a1, o, b1, b2, b3, b4⟩ := k T hT X
  exact ⟨t, a1, o, b1, b2, Or.inl ⟨b3, b4⟩⟩
/-- not caught here: it goes on to the caller -/
theorem vx_widen {g : JFrame} {q : Addr} {k n : Nat} (h1 : cells ≤ k) (h2 : slots ≤ n) (kk : vx_W p l e R s m args below meth c H locs k n Q g q) : vx_W p l e R s m args below meth c H locs cells slots Q g q := fun T hT X => kk T hT (stand_widen X h1 h2)
theorem vx_out {pc : Nat} {E : String} {ce : Cell} {q : Addr} {mc ms : Nat} (hout : ∀ x ∈ c.exceptionTable.toList, covers x pc = false) (hlocks : meth.locks = false) (hcell : H[q]? = some ce) (hv : ce.vm = .none) (hcl : s.vm.findClass E = some ce.cls)
    (hx : ∀ t : State, t.heap = H → s.vm.Alike t.vm → XC E s t) (hf : ∀ z ∈ locs, free z.base) (hc : cells ≤ mc) (hs : slots ≤ ms) :
    vx_W p l e R s m args below meth c H locs cells slots (vx_MQ below Qc XC args s mc ms free) (F0 m pc ls rest) q := by
  intro T hT X
  obtain ⟨st1, hrun, hend, hW, hsm⟩ := X.leaveThrown q (g := F0 m pc ls rest) rfl rfl rfl hout hlocks
  have hcell9 : (T.setFrames (.throwing q :: below)).heap[q]? = some ce := by
    show T.heap[q]? = some ce
    rw [hT]; exact hcell
  exact ⟨_, st1, .threw q, hrun, hend, Or.inr ⟨q, rfl, E, ce, locs, hx _ hT hW.alike, hcell9, hv, hcl, hW, hsm.mono hc hs, hf⟩⟩
end Ends
section Bodies
variable {l : Launch}
theorem vx_ofW {y : MethodName} {ws ws' : List Cond} {rm : Room} {Pc : Array Value → State → Prop} {Qc : Array Value → State → Outcome → State → Prop} {XC : String → State → State → Prop} {mc ms : Nat} {free : Addr → Prop} {cc : ByteArray} {maxL : Nat} {ret : Option FieldType}
    (hy : plainName y.cls = true) (hw : ws = Cond.code y cc maxL ret :: ws')
    (body : ∀ p e s m args below meth c s₁, BodyLoose p l y (headSpec ws rm) cc maxL ret e s m args below meth c s₁ → c.maxLocals = maxL → (∀ x ∈ c.exceptionTable.toList, False) → Pc args s →
      W p l e (headSpec ws rm).room s m args below meth c s.heap [] 0 0 (vx_MQ below Qc XC args s mc ms free) (entryFrame m args maxL)) : vx_Met l y ws rm Pc Qc XC mc ms free := by
  refine MetFree.of_bodyS (code := cc) (maxLocals := maxL) (ret := ret) hy ?_ ?_
  · intro args s m h hn
    obtain ⟨meth, c, h1, h2, h3, h4, h5, h6, -, -⟩ := Cond.code_spec hn (atoms_spec (ws := ws) h _ (by rw [hw]; exact List.mem_cons_self))
    exact ⟨meth, c, h1, h2, h3, h4, h5, h6⟩
  · intro p e s m args below meth c s₁ B hml hP _
    have hh0 : s₁.heap = s.heap := by rw [B.state]; rfl
    have ht : ∀ x ∈ c.exceptionTable.toList, False := by
      obtain ⟨meth9, c9, h1, h2, -, -, -, -, h7, -⟩ := Cond.code_spec B.named (atoms_spec (ws := ws) B.pre _ (by rw [hw]; exact List.mem_cons_self))
      cases Option.some.inj (h1.symm.trans B.method)
      cases Option.some.inj (h2.symm.trans (Stand.of_body B).code)
      intro x hx
      rw [Array.isEmpty_iff.mp h7] at hx
      cases hx
    obtain ⟨t, a1, o, b1, b2, b3⟩ := body p e s m args below meth c s₁ B hml ht hP s₁ hh0 (Stand.of_body B)
    exact ⟨t, o, a1, b1, b2, b3⟩
/-- the table of a body with handlers -/
theorem vx_table {p : Program} {x y : MethodName} {S : Spec} {cc bytes : ByteArray} {maxL maxL' : Nat} {ret ret' : Option FieldType} {e : Env} {s s₁ : State} {m : MethodId} {args : Array Value} {below : List Frame} {meth : Method} {c : Code} {hh : List (Nat × Nat × Nat × Nat)}
    (B : BodyLoose p l y S cc maxL ret e s m args below meth c s₁) (h : (Cond.codeWith y bytes maxL' ret' hh).before args s = true) : c.exceptionTable.toList = tableOf hh := by
  obtain ⟨m9, meth9, c9, hn9, h1, h2, -, -, h6, -⟩ := Cond.codeWith_spec h
  cases Option.some.inj (hn9.symm.trans B.named)
  cases Option.some.inj (h1.symm.trans B.method)
  cases Option.some.inj (h2.symm.trans (Stand.of_body B).code)
  rw [← h6, table_eq]
end Bodies
end VXA
/-- a thing of a world lies in the heap -/
theorem vx_lt {D : va_G} {cl : List vw_C} {ws : va_W} {H1 : Heap} (h : va_P D cl ws H1) {k : Nat} {q : Nat × va_E} (hk : ws[k]? = some q) : q.1 < H1.size := (h k q hk).lt
section
variable {l : Launch} {R : Room} {p : Program} {e : Env} {below : List Frame} {s : State} {sargs : Array Value} {y : MethodName} {len W9 : Nat}
theorem vx_backW {ws : List Cond} {rm : Room} {Pc : Array Value → State → Prop} {Qc : Array Value → State → Outcome → State → Prop} {XC : String → State → State → Prop} {mc ms : Nat} {free : Addr → Prop} {bytes : ByteArray} {maxL : Nat} {ret : Option FieldType} {hh : List (Nat × Nat × Nat × Nat)}
    (hM : vx_Met l y ws rm Pc Qc XC mc ms free) (hblind : FrameBlind Pc) (hrc : rm.cells = mc) (hrs : rm.slots = ms)
    (hframes : rm.frames + 1 ≤ R.frames) (hlocals : W9 + (maxL + 11) + rm.locals ≤ R.locals)
    (hws : ∀ w ∈ ws, ∀ a' U, s.WarmedH U.vm → w.before a' U = true) (hcode : Cond.codeWith y bytes maxL ret hh ∈ ws) (hinit : ∀ a' U, s.WarmedH U.vm → (Cond.initialized y.cls).before a' U = true) :
    vx_Back l R p e below s sargs y len W9 (PreOf R mc ms Pc) (PostOf Qc mc ms free) (vx_Post XC mc ms free) := by
  intro m meth c A g ig mk a X hg hsize hdg hW hn hp
  have h1 : (headSpec ws rm).pre.before a A.U = true := atoms_intro fun w hw => hws w hw _ _ X.warmed
  have h2 : (Cond.codeWith y bytes maxL ret hh).before a A.U = true := hws _ hcode _ _ X.warmed
  have h3 : (Cond.initialized y.cls).before a A.U = true := hinit _ _ X.warmed
  have h4 : A.cells + (headSpec ws rm).room.cells ≤ R.cells := by rw [show (headSpec ws rm).room.cells = mc from hrc]; exact hp.1
  have h5 : A.slots + (headSpec ws rm).room.slots ≤ R.slots := by rw [show (headSpec ws rm).room.slots = ms from hrs]; exact hp.2.1
  have hPc : Pc a (A.U.calling g mk a) := hblind _ _ _ _ hp.2.2
  obtain ⟨U, Ls, c0, s0⟩ := A
  dsimp only [Pt.U, Pt.locs, Pt.cells, Pt.slots] at h1 h2 h3 h4 h5 X hn hPc ⊢
  obtain ⟨m9, methY, cY, hn9, hmY, hcY, -, hlY, -⟩ := Cond.codeWith_spec h2
  cases Option.some.inj (hn9.symm.trans hn)
  obtain ⟨kY, hkY, -⟩ := className_of_methodNamed hn
  have hinitY : kY.init = .initialized := Cond.initialized_spec (findClass_of_methodNamed hn) hkY h3
  have h : At U g.method c below := by rw [hg]; exact X.here
  have hlocals9 : W9 + (maxL + 11) + (headSpec ws rm).room.locals ≤ R.locals := hlocals
  have happ : (headSpec ws rm).appliesLoose y e.platform (U.calling g mk a) = true :=
    Spec.appliesLoose_calling (g := g) h hdg hn hkY hinitY
      (X.room_calling (g := g) (R' := (headSpec ws rm).room) hsize hmY hcY hframes (by rw [hlY]; omega) h4 h5) h1
  obtain ⟨mid, hmid⟩ := h.above
  have hfr : (U.setTop g).frames = (.java g :: mid) ++ below := by rw [State.frames_setTop' g h.top, hmid]; rfl
  obtain ⟨o, s₂, hsteps, -, hend, hq⟩ := Steps.callFree hM p X.admits X.cas X.clock (acts := []) hfr happ hPc trivial
  have hq' : vx_Q Qc XC mc ms free a (U.calling g mk a) o s₂ := hq
  rw [State.frames_setTop' g h.top] at hend
  obtain ⟨g₀, hg0⟩ := Option.isSome_iff_exists.mp h.top
  obtain ⟨r, hr⟩ := State.topJava?_eq_some.mp hg0
  have hr' : (({ U with heap := s₂.heap, slotsUsed := s₂.slotsUsed } : State).setVm s₂.vm).frames = .java g₀ :: r := hr
  rcases hq' with ⟨hqc, L, hfe, hL⟩ | ⟨q, rfl, E, ce, L, hx, hce, hcv, hcl, hW₂, hsm, hL⟩
  · obtain ⟨⟨v, rfl⟩, hW₂, e2, q2, q3, q4, q5, q6⟩ := id hfe
    have e3 : s₂ = ({ (U.calling g mk a).setFrames s₂.frames with heap := s₂.heap, slotsUsed := s₂.slotsUsed } : State).setVm s₂.vm := by
      have : s₂ = ({ s₂ with vm := (U.calling g mk a).vm } : State).setVm s₂.vm := rfl
      rw [e2] at this
      exact this
    obtain ⟨c₂, i₂, len₂, hc₂, hd₂, hf₂⟩ := hend
    have hW' : U.WarmedH s₂.vm := hW₂
    have hcc : c₂ = c := by
      have h1 : s₂.code? g.method = U.code? g.method := by
        rw [State.code?_eq, State.code?_eq, hW'.alike.method?]
      exact Option.some.inj (hc₂.symm.trans (h1.trans h.code))
    subst hcc
    have hlen : len₂ = len := by rw [hdg] at hd₂; cases hd₂; rfl
    subst hlen
    have hs₂ : s₂ = (({ U with heap := s₂.heap, slotsUsed := s₂.slotsUsed } : State).setVm s₂.vm).setTop { g with pc := g.pc + len₂, stack := v.toList ++ g.stack } := by
      refine e3.trans ?_
      rw [hf₂, State.calling_eq h.top, State.setFrames_setFrames, State.setTop_of_frames _ hr', hr]
      rfl
    have hsame : U.sameButNew ({ U with heap := s₂.heap, slotsUsed := s₂.slotsUsed } : State) L mc ms := by
      refine ⟨?_, q2, q3, q4, q5, q6⟩
      obtain ⟨t, ht, -⟩ := State.frames_cons hr
      show ({ U with heap := s₂.heap, slotsUsed := s₂.slotsUsed } : State) = { U.setFrames U.frames with heap := s₂.heap, slotsUsed := s₂.slotsUsed }
      rw [State.setFrames_self ht]
    subst hg
    refine Or.inl ⟨v, ⟨(({ U with heap := s₂.heap, slotsUsed := s₂.slotsUsed } : State).setVm s₂.vm), Ls ++ L, c0 + mc, s0 + ms⟩,
      ⟨X.admits, X.cas, X.clock, X.frames, X.room, X.hears, X.method, X.code, (X.here.setHeapUsed s₂.heap s₂.slotsUsed).setVm hW'.alike, X.tail, State.WarmedH.trans X.warmed hW', X.limits, X.bytes, X.same.trans (hsame.setVm s.vm)⟩,
      ⟨g, mk, s₂, L, rfl, rfl, hqc, rfl, hL, rfl, rfl⟩, ?_⟩
    show Steps p.tables e below _ ((({ U with heap := s₂.heap, slotsUsed := s₂.slotsUsed } : State).setVm s₂.vm).setTop { g with pc := g.pc + len₂, stack := v.toList ++ g.stack })
    rw [← hs₂]
    exact hsteps
  · obtain ⟨e2, q2, q3, q4, q5, q6⟩ := id hsm
    have e3 : s₂ = ({ (U.calling g mk a).setFrames s₂.frames with heap := s₂.heap, slotsUsed := s₂.slotsUsed } : State).setVm s₂.vm := by
      have : s₂ = ({ s₂ with vm := (U.calling g mk a).vm } : State).setVm s₂.vm := rfl
      rw [e2] at this
      exact this
    have hf₂ : s₂.frames = .throwing q :: .java g :: U.frames.tail := hend
    have hW' : U.WarmedH s₂.vm := hW₂
    have hs₂ : s₂ = ((({ U with heap := s₂.heap, slotsUsed := s₂.slotsUsed } : State).setVm s₂.vm).setTop g).pushFrame (.throwing q) := by
      refine e3.trans ?_
      rw [hf₂, State.calling_eq h.top, State.setFrames_setFrames, State.pushFrame, State.frames_setTop _ hr', State.setTop_of_frames _ hr', State.setFrames_setFrames, hr]
      rfl
    have hsame : U.sameButNew ({ U with heap := s₂.heap, slotsUsed := s₂.slotsUsed } : State) L mc ms := by
      refine ⟨?_, q2, q3, q4, q5, q6⟩
      obtain ⟨t, ht, -⟩ := State.frames_cons hr
      show ({ U with heap := s₂.heap, slotsUsed := s₂.slotsUsed } : State) = { U.setFrames U.frames with heap := s₂.heap, slotsUsed := s₂.slotsUsed }
      rw [State.setFrames_self ht]
    subst hg
    refine Or.inr ⟨q, ⟨(({ U with heap := s₂.heap, slotsUsed := s₂.slotsUsed } : State).setVm s₂.vm), Ls ++ L, c0 + mc, s0 + ms⟩,
      ⟨X.admits, X.cas, X.clock, X.frames, X.room, X.hears, X.method, X.code, (X.here.setHeapUsed s₂.heap s₂.slotsUsed).setVm hW'.alike, X.tail, State.WarmedH.trans X.warmed hW', X.limits, X.bytes, X.same.trans (hsame.setVm s.vm)⟩,
      ⟨g, mk, s₂, L, E, ce, rfl, rfl, hx, hce, hcv, hcl, rfl, hL, rfl, rfl⟩, ?_⟩
    show Steps p.tables e below _ (((({ U with heap := s₂.heap, slotsUsed := s₂.slotsUsed } : State).setVm s₂.vm).setTop g).pushFrame (.throwing q))
    rw [← hs₂]
    exact hsteps
end
theorem vx_ofWH {l : Launch} {y : MethodName} {ws ws' : List Cond} {rm : Room} {Pc : Array Value → State → Prop} {Qc : Array Value → State → Outcome → State → Prop} {XC : String → State → State → Prop} {mc ms : Nat} {free : Addr → Prop} {cc : ByteArray} {maxL : Nat} {ret : Option FieldType} {hh : List (Nat × Nat × Nat × Nat)}
    (hy : plainName y.cls = true) (hw : ws = Cond.codeWith y cc maxL ret hh :: ws')
    (body : ∀ p e s m args below meth c s₁, BodyLoose p l y (headSpec ws rm) cc maxL ret e s m args below meth c s₁ → c.maxLocals = maxL → Pc args s →
      W p l e (headSpec ws rm).room s m args below meth c s.heap [] 0 0 (vx_MQ below Qc XC args s mc ms free) (entryFrame m args maxL)) : vx_Met l y ws rm Pc Qc XC mc ms free := by
  refine MetFree.of_bodyS (code := cc) (maxLocals := maxL) (ret := ret) hy ?_ ?_
  · intro args s m h hn
    obtain ⟨m9, meth, c, hn9, h1, h2, h3, h4, -, h5, h6, -⟩ := Cond.codeWith_spec (atoms_spec (ws := ws) h _ (by rw [hw]; exact List.mem_cons_self))
    cases hn.symm.trans hn9
    exact ⟨meth, c, h1, h2, h3, h4, h5, h6⟩
  · intro p e s m args below meth c s₁ B hml hP _
    have hh0 : s₁.heap = s.heap := by rw [B.state]; rfl
    obtain ⟨t, a1, o, b1, b2, b3⟩ := body p e s m args below meth c s₁ B hml hP s₁ hh0 (Stand.of_body B)
    exact ⟨t, o, a1, b1, b2, b3⟩
/-! ===== END ===== -/
end
section
/-! THE STATE. (F, B, G, dk): F i k: field k of vehicle i (2 kind, 3 mass, 4 share, 5 load, 6 place, 7 paid, 8 times, 9 meter); B: begun; G: 3 limit, 4 shut, 5 stops, 6 failures; dk: the deck's row, by numbers.
P: the addresses: pS object, pB bridge, pV vehicles, pD deck, pN begun; pR, pI: array classes; pn: how many vehicles; pa i, pk i: address and kind of vehicle i. -/
abbrev SwSt : Type := (Nat → Nat → Int32) × (Nat → Int32) × (Nat → Int32) × List Nat
abbrev SwP : Type := (Nat → Nat) × (Nat → Nat) × (Nat → Nat)
def pS (P : SwP) : Nat := P.1 0
def pB (P : SwP) : Nat := P.1 1
def pV (P : SwP) : Nat := P.1 2
def pD (P : SwP) : Nat := P.1 3
def pN (P : SwP) : Nat := P.1 4
def pR (P : SwP) : Nat := P.1 5
def pI (P : SwP) : Nat := P.1 6
def pn (P : SwP) : Nat := P.1 7
def pa (P : SwP) : Nat → Nat := P.2.1
def pk (P : SwP) : Nat → Nat := P.2.2
def uF (F : Nat → Nat → Int32) (i k : Nat) (v : Int32) : Nat → Nat → Int32 := fun a b => if a = i ∧ b = k then v else F a b
def iB (B : Nat → Int32) (j : Nat) : Nat → Int32 := upd B j (B j + 1)
/-- the classes of the worlds: 0..8 the kinds by their numbers, 9 Bridge, 10 SwingBridge, 11 the reference -/
abbrev sCl : List vw_C := [(RX4, TX4, 10), (RX9, TX4, 10), (RX3, TX4, 10), (RX2, TX4, 10), (RX7, TX4, 10), (RX8, TX4, 10), (RX1, TX4, 10), (RX6, TX4, 10), (RX5, TX4, 10), (RX0, TX0, 7), (RX10, TX10, 3), (RX11, TX11, 18)]
def cN (k : Nat) : String := match k with
  | 0 => RX4 | 1 => RX9 | 2 => RX3 | 3 => RX2 | 4 => RX7 | 5 => RX8 | 6 => RX1 | 7 => RX6 | _ => RX5
theorem sCl_k {k : Nat} (h : k < 9) : sCl[k]? = some (cN k, TX4, 10) := by
  match k, h with
  | 0, _ => rfl
  | 1, _ => rfl
  | 2, _ => rfl
  | 3, _ => rfl
  | 4, _ => rfl
  | 5, _ => rfl
  | 6, _ => rfl
  | 7, _ => rfl
  | 8, _ => rfl
  | k + 9, h => exact absurd h (by omega)
theorem inX4 : ∀ w ∈ u_ws RX4 TX4 10, w ∈ wB := by decide +kernel
theorem inX9 : ∀ w ∈ u_ws RX9 TX4 10, w ∈ wB := by decide +kernel
theorem inX3 : ∀ w ∈ u_ws RX3 TX4 10, w ∈ wB := by decide +kernel
theorem inX2 : ∀ w ∈ u_ws RX2 TX4 10, w ∈ wB := by decide +kernel
theorem inX7 : ∀ w ∈ u_ws RX7 TX4 10, w ∈ wB := by decide +kernel
theorem inX8 : ∀ w ∈ u_ws RX8 TX4 10, w ∈ wB := by decide +kernel
theorem inX1 : ∀ w ∈ u_ws RX1 TX4 10, w ∈ wB := by decide +kernel
theorem inX6 : ∀ w ∈ u_ws RX6 TX4 10, w ∈ wB := by decide +kernel
theorem inX5 : ∀ w ∈ u_ws RX5 TX4 10, w ∈ wB := by decide +kernel
theorem inX0 : ∀ w ∈ u_ws RX0 TX0 7, w ∈ wB := by decide +kernel
theorem inX10 : ∀ w ∈ u_ws RX10 TX10 3, w ∈ wB := by decide +kernel
theorem inX11 : ∀ w ∈ u_ws RX11 TX11 18, w ∈ wB := by decide +kernel
theorem inK {k : Nat} (h : k < 9) : ∀ w ∈ u_ws (cN k) TX4 10, w ∈ wB := by
  match k, h with
  | 0, _ => exact inX4
  | 1, _ => exact inX9
  | 2, _ => exact inX3
  | 3, _ => exact inX2
  | 4, _ => exact inX7
  | 5, _ => exact inX8
  | 6, _ => exact inX1
  | 7, _ => exact inX6
  | 8, _ => exact inX5
  | k + 9, h => exact absurd h (by omega)
/-- a vehicle's cell, the bridge's fields, the object's world -/
def vfs (P : SwP) (F : Nat → Nat → Int32) (i : Nat) : List Value := [.ref (pB P), .int (nI i), .int (F i 2), .int (F i 3), .int (F i 4), .int (F i 5), .int (F i 6), .int (F i 7), .int (F i 8), .int (F i 9)]
def vcell (P : SwP) (F : Nat → Nat → Int32) (i : Nat) : Nat × va_E := (pa P i, .inr (pk P i, vfs P F i))
def bfs (P : SwP) (n : Int32) (G : Nat → Int32) : List Value := [.ref (pD P), .ref (pN P), .int n, .int (G 3), .int (G 4), .int (G 5), .int (G 6)]
def vfd (P : SwP) : Nat → Option Nat := fun k => if k < pn P then some (pa P k) else none
def dfd (P : SwP) (dk : List Nat) : Nat → Option Nat := fun k => (dk[k]?).map (pa P)
def xfix (P : SwP) (B G : Nat → Int32) (n : Int32) (fd : Nat → Option Nat) : va_W := [(pS P, .inr (10, [.ref (pB P), .ref (pV P), .int (nI (pn P))])), (pB P, .inr (9, bfs P n G)), (pV P, .inl (pR P, 24, .inr (.inr (.inr (.inr (vfd P)))))), (pD P, .inl (pR P, 24, .inr (.inr (.inr (.inr fd))))), (pN P, .inl (pI P, 9, .inl B))]
def xws (P : SwP) (F : Nat → Nat → Int32) (B G : Nat → Int32) (n : Int32) (fd : Nat → Option Nat) : va_W := xfix P B G n fd ++ (List.range (pn P)).map (vcell P F)
abbrev xty (P : SwP) : List (ClassId × FieldType) := [(pR P, .object RX4), (pI P, .int)]
/-- the world, raw: at a state's tables s and a heap H -/
def XwR (D : va_G) (A : Nat → Prop) (P : SwP) (F : Nat → Nat → Int32) (B G : Nat → Int32) (n : Int32) (fd : Nat → Option Nat) (s : State) (H : Heap) : Prop :=
  va_K D sCl (xty P) s ∧ va_P D sCl (xws P F B G n fd) H ∧ va_D A (xws P F B G n fd)
/-- the world of a state -/
abbrev XwH (D : va_G) (A : Nat → Prop) (P : SwP) (z : SwSt) (s : State) (H : Heap) : Prop := XwR D A P z.1 z.2.1 z.2.2.1 (nI z.2.2.2.length) (dfd P z.2.2.2) s H
theorem XwR.moved {D : va_G} {A : Nat → Prop} {P : SwP} {F : Nat → Nat → Int32} {B G : Nat → Int32} {n : Int32} {fd : Nat → Option Nat} {s u : State} {H : Heap} (h : XwR D A P F B G n fd s H) (hvm : s.vm.Alike u.vm) : XwR D A P F B G n fd u H := ⟨va_K.moved hvm h.1, h.2.1, h.2.2⟩
theorem xws_v {P : SwP} {F : Nat → Nat → Int32} {B G : Nat → Int32} {n : Int32} {fd : Nat → Option Nat} {i : Nat} (hi : i < pn P) : (xws P F B G n fd)[5 + i]? = some (pa P i, .inr (pk P i, vfs P F i)) := by
  unfold xws
  rw [List.getElem?_append_right (by simp [xfix])]
  simp [xfix, hi, vcell]
theorem vfs_set {P : SwP} {F : Nat → Nat → Int32} {i k : Nat} {v : Int32} (h5 : 5 ≤ k) (h9 : k < 10) : (vfs P F i).set k (.int v) = vfs P (uF F i k v) i := by
  rcases (show k = 5 ∨ k = 6 ∨ k = 7 ∨ k = 8 ∨ k = 9 by omega) with rfl | rfl | rfl | rfl | rfl <;> simp [vfs, uF]
theorem vfs_ne {P : SwP} {F : Nat → Nat → Int32} {i j k : Nat} {v : Int32} (h : j ≠ i) : vfs P (uF F i k v) j = vfs P F j := by
  simp [vfs, uF, h]
theorem xws_set_v {P : SwP} {F : Nat → Nat → Int32} {B G : Nat → Int32} {n : Int32} {fd : Nat → Option Nat} {i k : Nat} {v : Int32} (hi : i < pn P) (h5 : 5 ≤ k) (h9 : k < 10) : (xws P F B G n fd).set (5 + i) (pa P i, .inr (pk P i, (vfs P F i).set k (.int v))) = xws P (uF F i k v) B G n fd := by
  unfold xws
  rw [List.set_append_right _ _ (by simp [xfix])]
  congr 1
  rw [vfs_set h5 h9]
  refine List.ext_getElem? (fun j => ?_)
  simp only [List.length_cons, List.length_nil, xfix]
  rw [show (5 + i - (0 + 1 + 1 + 1 + 1 + 1)) = i by omega]
  rw [List.getElem?_set]
  by_cases hj : i = j
  · subst hj
    simp [hi, vcell]
  · rw [if_neg hj]
    by_cases hjn : j < pn P
    · simp [hjn, vcell, vfs_ne (fun e => hj e.symm)]
    · simp [hjn]
end
section
/-! ROWS over the object's world: one for each kind of access that the classes' code does. -/
theorem tx4_decl {k : Nat} (h : k < 10) : (TX4 k).1 = "SwingBridge$Cart" := by
  rcases (show k = 0 ∨ k = 1 ∨ k = 2 ∨ k = 3 ∨ k = 4 ∨ k = 5 ∨ k = 6 ∨ k = 7 ∨ k = 8 ∨ k = 9 by omega) with rfl | rfl | rfl | rfl | rfl | rfl | rfl | rfl | rfl | rfl <;> rfl
theorem tx4_put {k : Nat} (h5 : 5 ≤ k) (h : k < 10) : (TX4 k).2.2.2 = false ∧ parseFieldDescriptor (TX4 k).2.2.1 = some .int := by
  rcases (show k = 5 ∨ k = 6 ∨ k = 7 ∨ k = 8 ∨ k = 9 by omega) with rfl | rfl | rfl | rfl | rfl <;> exact ⟨rfl, by decide +kernel⟩
section XRows
variable {p : Program} {l : Launch} {e : Env} {R : Room} {s : State} {m : MethodId} {args : Array Value} {below : List Frame} {meth : Method} {c : Code} {H : Heap} {locs : List Loc} {cells slots : Nat} {Q : State → Prop}
variable {cc : ByteArray} {nL index pc : Nat} {ls : Array Slot} {rest : List Value} {own ref : String} {D : va_G} {A : Nat → Prop} {P : SwP} {F : Nat → Nat → Int32} {B G : Nat → Int32} {n : Int32} {fd : Nat → Option Nat} {i : Nat} {H0 : Heap}
/-- a vehicle's field -/
theorem xv_get (C : CallFix p m c cc nL s args wB own) (hw : XwR D A P F B G n fd s H) (hi : i < pn P) (hk : pk P i < 9) (k : Nat) (hk10 : k < 10) (hl : Cond.fieldLink own index ref (TX4 k).2.1 (TX4 k).2.2.1 ∈ wB) (hs : ref = "SwingBridge$Cart" ∨ Cond.sameField ref "SwingBridge$Cart" (TX4 k).2.1 (TX4 k).2.2.1 ∈ wB) {v : Value} (hv : (vfs P F i)[k]? = some v) (hdg : decode cc pc = .ok (.getfield index, 3))
    (kk : W p l e R s m args below meth c H locs cells slots Q (F0 m (pc + 3) ls (v :: rest))) : W p l e R s m args below meth c H locs cells slots Q (F0 m pc ls (.ref (pa P i) :: rest)) :=
  va_get (D := D) (ci := pk P i) (C := cN (pk P i)) (T := TX4) (N := 10) (ref := ref) C.1 C.2.1 C.2.2.2.2 (inK hk) C.2.2.2.1 hw.1 hw.2.1 (5 + i) (xws_v hi) (sCl_k hk) k hk10 (C.2.2.2.2 _ hl) (fun x hx => by
    rw [tx4_decl hk10] at hx
    rcases hs with rfl | hs
    · exact hx
    · exact u_same (C.2.2.2.2 _ hs) x hx) hv hdg kk
theorem xv_put (C : CallFix p m c cc nL s args wB own) (hw : XwR D A P F B G n fd s H) (hS : va_S A H0 H locs) (hi : i < pn P) (hk : pk P i < 9) (k : Nat) (h5 : 5 ≤ k) (hk10 : k < 10) (hl : Cond.fieldLink own index ref (TX4 k).2.1 (TX4 k).2.2.1 ∈ wB) (hs : ref = "SwingBridge$Cart" ∨ Cond.sameField ref "SwingBridge$Cart" (TX4 k).2.1 (TX4 k).2.2.1 ∈ wB) {v : Int32} (hdg : decode cc pc = .ok (.putfield index, 3))
    (kk : ∀ (H1 : Heap) (locs1 : List Loc), XwR D A P (uF F i k v) B G n fd s H1 → va_S A H0 H1 locs1 → W p l e R s m args below meth c H1 locs1 cells slots Q (F0 m (pc + 3) ls rest)) : W p l e R s m args below meth c H locs cells slots Q (F0 m pc ls (.int v :: .ref (pa P i) :: rest)) := by
  refine va_put (D := D) (ci := pk P i) (v := .int v) (ty := .int) (C := cN (pk P i)) (T := TX4) (N := 10) (ref := ref) C.1 C.2.1 C.2.2.2.2 (inK hk) tyX4 tyX4_ok nmX4 C.2.2.2.1 hw.1 hw.2.1 hw.2.2 hS (5 + i) (xws_v hi) (sCl_k hk) k hk10 (C.2.2.2.2 _ hl) (fun x hx => by
    rw [tx4_decl hk10] at hx
    rcases hs with rfl | hs
    · exact hx
    · exact u_same (C.2.2.2.2 _ hs) x hx) (tx4_put h5 hk10).1 (tx4_put h5 hk10).2 rfl rfl (by simpa [vfs] using hk10) hdg (fun H1 locs1 h1 h2 h3 => ?_)
  rw [xws_set_v hi h5 hk10] at h1 h2
  exact kk H1 locs1 ⟨hw.1, h1, h2⟩ h3
/-- the bridge's fields -/
theorem xb_get (C : CallFix p m c cc nL s args wB own) (hw : XwR D A P F B G n fd s H) (k : Nat) (hk7 : k < 7) (hl : Cond.fieldLink own index (TX0 k).1 (TX0 k).2.1 (TX0 k).2.2.1 ∈ wB) {v : Value} (hv : (bfs P n G)[k]? = some v) (hdg : decode cc pc = .ok (.getfield index, 3))
    (kk : W p l e R s m args below meth c H locs cells slots Q (F0 m (pc + 3) ls (v :: rest))) : W p l e R s m args below meth c H locs cells slots Q (F0 m pc ls (.ref (pB P) :: rest)) :=
  va_get (D := D) (ci := 9) (C := RX0) (T := TX0) (N := 7) (ref := (TX0 k).1) C.1 C.2.1 C.2.2.2.2 inX0 C.2.2.2.1 hw.1 hw.2.1 1 rfl rfl k hk7 (C.2.2.2.2 _ hl) (fun x hx => hx) hv hdg kk
theorem xb_puti (C : CallFix p m c cc nL s args wB own) (hw : XwR D A P F B G n fd s H) (hS : va_S A H0 H locs) (k : Nat) (hk7 : k = 3 ∨ k = 5 ∨ k = 6) (hl : Cond.fieldLink own index (TX0 k).1 (TX0 k).2.1 (TX0 k).2.2.1 ∈ wB) {v : Int32} (hdg : decode cc pc = .ok (.putfield index, 3))
    (kk : ∀ (H1 : Heap) (locs1 : List Loc), XwR D A P F B (upd G k v) n fd s H1 → va_S A H0 H1 locs1 → W p l e R s m args below meth c H1 locs1 cells slots Q (F0 m (pc + 3) ls rest)) : W p l e R s m args below meth c H locs cells slots Q (F0 m pc ls (.int v :: .ref (pB P) :: rest)) := by
  refine va_put (D := D) (ci := 9) (v := .int v) (ty := .int) (C := RX0) (T := TX0) (N := 7) (ref := (TX0 k).1) C.1 C.2.1 C.2.2.2.2 inX0 tyX0 tyX0_ok nmX0 C.2.2.2.1 hw.1 hw.2.1 hw.2.2 hS 1 rfl rfl k (by omega) (C.2.2.2.2 _ hl) (fun x hx => hx) (by rcases hk7 with rfl | rfl | rfl <;> rfl) (by rcases hk7 with rfl | rfl | rfl <;> decide +kernel) rfl rfl (by rcases hk7 with rfl | rfl | rfl <;> exact Nat.le_of_ble_eq_true rfl) hdg (fun H1 locs1 h1 h2 h3 => ?_)
  have he : (xws P F B G n fd).set 1 (pB P, .inr (9, (bfs P n G).set k (.int v))) = xws P F B (upd G k v) n fd := by
    rcases hk7 with rfl | rfl | rfl <;> rfl
  rw [he] at h1 h2
  exact kk H1 locs1 ⟨hw.1, h1, h2⟩ h3
theorem xb_putz (C : CallFix p m c cc nL s args wB own) (hw : XwR D A P F B G n fd s H) (hS : va_S A H0 H locs) (hl : Cond.fieldLink own index (TX0 4).1 (TX0 4).2.1 (TX0 4).2.2.1 ∈ wB) {v : Int32} (hv : v = 0 ∨ v = 1) (hdg : decode cc pc = .ok (.putfield index, 3))
    (kk : ∀ (H1 : Heap) (locs1 : List Loc), XwR D A P F B (upd G 4 v) n fd s H1 → va_S A H0 H1 locs1 → W p l e R s m args below meth c H1 locs1 cells slots Q (F0 m (pc + 3) ls rest)) : W p l e R s m args below meth c H locs cells slots Q (F0 m pc ls (.int v :: .ref (pB P) :: rest)) := by
  refine va_put (D := D) (ci := 9) (v := .int v) (ty := .boolean) (C := RX0) (T := TX0) (N := 7) (ref := (TX0 4).1) C.1 C.2.1 C.2.2.2.2 inX0 tyX0 tyX0_ok nmX0 C.2.2.2.1 hw.1 hw.2.1 hw.2.2 hS 1 rfl rfl 4 (by omega) (C.2.2.2.2 _ hl) (fun x hx => hx) rfl (by decide +kernel) (by rcases hv with rfl | rfl <;> rfl) (by rcases hv with rfl | rfl <;> rfl) (Nat.le_of_ble_eq_true rfl) hdg (fun H1 locs1 h1 h2 h3 => ?_)
  have he : (xws P F B G n fd).set 1 (pB P, .inr (9, (bfs P n G).set 4 (.int v))) = xws P F B (upd G 4 v) n fd := rfl
  rw [he] at h1 h2
  exact kk H1 locs1 ⟨hw.1, h1, h2⟩ h3
theorem xb_putn (C : CallFix p m c cc nL s args wB own) (hw : XwR D A P F B G n fd s H) (hS : va_S A H0 H locs) (hl : Cond.fieldLink own index (TX0 2).1 (TX0 2).2.1 (TX0 2).2.2.1 ∈ wB) {v : Int32} (hdg : decode cc pc = .ok (.putfield index, 3))
    (kk : ∀ (H1 : Heap) (locs1 : List Loc), XwR D A P F B G v fd s H1 → va_S A H0 H1 locs1 → W p l e R s m args below meth c H1 locs1 cells slots Q (F0 m (pc + 3) ls rest)) : W p l e R s m args below meth c H locs cells slots Q (F0 m pc ls (.int v :: .ref (pB P) :: rest)) := by
  refine va_put (D := D) (ci := 9) (v := .int v) (ty := .int) (C := RX0) (T := TX0) (N := 7) (ref := (TX0 2).1) C.1 C.2.1 C.2.2.2.2 inX0 tyX0 tyX0_ok nmX0 C.2.2.2.1 hw.1 hw.2.1 hw.2.2 hS 1 rfl rfl 2 (by omega) (C.2.2.2.2 _ hl) (fun x hx => hx) rfl (by decide +kernel) rfl rfl (Nat.le_of_ble_eq_true rfl) hdg (fun H1 locs1 h1 h2 h3 => ?_)
  have he : (xws P F B G n fd).set 1 (pB P, .inr (9, (bfs P n G).set 2 (.int v))) = xws P F B G v fd := rfl
  rw [he] at h1 h2
  exact kk H1 locs1 ⟨hw.1, h1, h2⟩ h3
/-- the object's own fields -/
theorem xs_get (C : CallFix p m c cc nL s args wB own) (hw : XwR D A P F B G n fd s H) (k : Nat) (hk : k < 3) (hl : Cond.fieldLink own index (TX10 k).1 (TX10 k).2.1 (TX10 k).2.2.1 ∈ wB) {v : Value} (hv : ([.ref (pB P), .ref (pV P), .int (nI (pn P))] : List Value)[k]? = some v) (hdg : decode cc pc = .ok (.getfield index, 3))
    (kk : W p l e R s m args below meth c H locs cells slots Q (F0 m (pc + 3) ls (v :: rest))) : W p l e R s m args below meth c H locs cells slots Q (F0 m pc ls (.ref (pS P) :: rest)) :=
  va_get (D := D) (ci := 10) (C := RX10) (T := TX10) (N := 3) (ref := (TX10 k).1) C.1 C.2.1 C.2.2.2.2 inX10 C.2.2.2.1 hw.1 hw.2.1 0 rfl rfl k hk (C.2.2.2.2 _ hl) (fun x hx => hx) hv hdg kk
/-- arrays: lengths, loads, stores -/
theorem xV_len (C : CallFix p m c cc nL s args wB own) (hw : XwR D A P F B G n fd s H) (hdg : decode cc pc = .ok (.arraylength, 1)) (kk : W p l e R s m args below meth c H locs cells slots Q (F0 m (pc + 1) ls (.int 24 :: rest))) : W p l e R s m args below meth c H locs cells slots Q (F0 m pc ls (.ref (pV P) :: rest)) :=
  va_alen C.1 C.2.1 hw.1 hw.2.1 2 0 rfl rfl rfl hdg kk
theorem xD_len (C : CallFix p m c cc nL s args wB own) (hw : XwR D A P F B G n fd s H) (hdg : decode cc pc = .ok (.arraylength, 1)) (kk : W p l e R s m args below meth c H locs cells slots Q (F0 m (pc + 1) ls (.int 24 :: rest))) : W p l e R s m args below meth c H locs cells slots Q (F0 m pc ls (.ref (pD P) :: rest)) :=
  va_alen C.1 C.2.1 hw.1 hw.2.1 3 0 rfl rfl rfl hdg kk
theorem xN_len (C : CallFix p m c cc nL s args wB own) (hw : XwR D A P F B G n fd s H) (hdg : decode cc pc = .ok (.arraylength, 1)) (kk : W p l e R s m args below meth c H locs cells slots Q (F0 m (pc + 1) ls (.int 9 :: rest))) : W p l e R s m args below meth c H locs cells slots Q (F0 m pc ls (.ref (pN P) :: rest)) :=
  va_alen C.1 C.2.1 hw.1 hw.2.1 4 1 rfl rfl rfl hdg kk
theorem xV_ld (C : CallFix p m c cc nL s args wB own) (hw : XwR D A P F B G n fd s H) {j : Nat} (hj : j < 24) {x : Int32} (hx : x = nI j) (hdg : decode cc pc = .ok (.aaload, 1)) (kk : W p l e R s m args below meth c H locs cells slots Q (F0 m (pc + 1) ls (va_rf (vfd P j) :: rest))) : W p l e R s m args below meth c H locs cells slots Q (F0 m pc ls (.int x :: .ref (pV P) :: rest)) := by
  subst hx
  refine va_aldq C.1 C.2.1 hw.1 hw.2.1 2 0 rfl rfl (vp_in_nI hj (by omega)) hdg ?_
  rw [nI_clamp (by omega)]
  exact kk
theorem xD_ld (C : CallFix p m c cc nL s args wB own) (hw : XwR D A P F B G n fd s H) {j : Nat} (hj : j < 24) {x : Int32} (hx : x = nI j) (hdg : decode cc pc = .ok (.aaload, 1)) (kk : W p l e R s m args below meth c H locs cells slots Q (F0 m (pc + 1) ls (va_rf (fd j) :: rest))) : W p l e R s m args below meth c H locs cells slots Q (F0 m pc ls (.int x :: .ref (pD P) :: rest)) := by
  subst hx
  refine va_aldq C.1 C.2.1 hw.1 hw.2.1 3 0 rfl rfl (vp_in_nI hj (by omega)) hdg ?_
  rw [nI_clamp (by omega)]
  exact kk
theorem xN_ld (C : CallFix p m c cc nL s args wB own) (hw : XwR D A P F B G n fd s H) {j : Nat} (hj : j < 9) {x : Int32} (hx : x = nI j) (hdg : decode cc pc = .ok (.iaload, 1)) (kk : W p l e R s m args below meth c H locs cells slots Q (F0 m (pc + 1) ls (.int (B j) :: rest))) : W p l e R s m args below meth c H locs cells slots Q (F0 m pc ls (.int x :: .ref (pN P) :: rest)) := by
  subst hx
  refine va_iald C.1 C.2.1 hw.1 hw.2.1 4 1 rfl rfl (vp_in_nI hj (by omega)) hdg ?_
  rw [nI_clamp (by omega)]
  exact kk
theorem xN_st (C : CallFix p m c cc nL s args wB own) (hw : XwR D A P F B G n fd s H) (hS : va_S A H0 H locs) {j : Nat} (hj : j < 9) {x v : Int32} (hx : x = nI j) (hdg : decode cc pc = .ok (.iastore, 1))
    (kk : ∀ (H1 : Heap) (locs1 : List Loc), XwR D A P F (upd B j v) G n fd s H1 → va_S A H0 H1 locs1 → W p l e R s m args below meth c H1 locs1 cells slots Q (F0 m (pc + 1) ls rest)) : W p l e R s m args below meth c H locs cells slots Q (F0 m pc ls (.int v :: .int x :: .ref (pN P) :: rest)) := by
  subst hx
  refine va_iast C.1 C.2.1 hw.1 hw.2.1 hw.2.2 hS 4 1 rfl rfl (vp_in_nI hj (by omega)) hdg (fun H1 locs1 h1 h2 h3 => ?_)
  rw [nI_clamp (by omega)] at h1 h2
  exact kk H1 locs1 ⟨hw.1, h1, h2⟩ h3
theorem xD_stN (C : CallFix p m c cc nL s args wB own) (hw : XwR D A P F B G n fd s H) (hS : va_S A H0 H locs) {j : Nat} (hj : j < 24) {x : Int32} (hx : x = nI j) (hdg : decode cc pc = .ok (.aastore, 1))
    (kk : ∀ (H1 : Heap) (locs1 : List Loc), XwR D A P F B G n (va_up fd j none) s H1 → va_S A H0 H1 locs1 → W p l e R s m args below meth c H1 locs1 cells slots Q (F0 m (pc + 1) ls rest)) : W p l e R s m args below meth c H locs cells slots Q (F0 m pc ls (.null :: .int x :: .ref (pD P) :: rest)) := by
  subst hx
  refine va_astqN C.1 C.2.1 hw.1 hw.2.1 hw.2.2 hS 3 0 rfl rfl (vp_in_nI hj (by omega)) hdg (fun H1 locs1 h1 h2 h3 => ?_)
  rw [nI_clamp (by omega)] at h1 h2
  exact kk H1 locs1 ⟨hw.1, h1, h2⟩ h3
/-- a kind's class may lie in a row of carts -/
def Asg (s : State) : Prop := ∀ k, k < 9 → ∀ comp c0 : ClassId, s.vm.findClass RX4 = some comp → s.vm.findClass (cN k) = some c0 → s.vm.assignable c0 comp = true
theorem xD_st (C : CallFix p m c cc nL s args wB own) (hw : XwR D A P F B G n fd s H) (hS : va_S A H0 H locs) (hg : Asg s) (hi : i < pn P) (hk : pk P i < 9) {j : Nat} (hj : j < 24) {x : Int32} (hx : x = nI j) (hdg : decode cc pc = .ok (.aastore, 1))
    (kk : ∀ (H1 : Heap) (locs1 : List Loc), XwR D A P F B G n (va_up fd j (some (pa P i))) s H1 → va_S A H0 H1 locs1 → W p l e R s m args below meth c H1 locs1 cells slots Q (F0 m (pc + 1) ls rest)) : W p l e R s m args below meth c H locs cells slots Q (F0 m pc ls (.ref (pa P i) :: .int x :: .ref (pD P) :: rest)) := by
  subst hx
  refine va_astqM (E := RX4) C.1 C.2.1 hw.1 hw.2.1 hw.2.2 hS 3 0 rfl rfl (va_rAny hw.1 hw.2.1 (xws_v hi) (sCl_k hk) (hg _ hk)) (vp_in_nI hj (by omega)) hdg (fun H1 locs1 h1 h2 h3 => ?_)
  rw [nI_clamp (by omega)] at h1 h2
  exact kk H1 locs1 ⟨hw.1, h1, h2⟩ h3
/-- bridge.begun, of a vehicle in local 0 -/
theorem x_begun (C : CallFix p m c cc nL s args wB own) (hw : XwR D A P F B G n fd s H) (hi : i < pn P) (hk : pk P i < 9) {i1 i2 : Nat} (hl1 : Cond.fieldLink own i1 ref (TX4 0).2.1 (TX4 0).2.2.1 ∈ wB) (hs : ref = "SwingBridge$Cart" ∨ Cond.sameField ref "SwingBridge$Cart" (TX4 0).2.1 (TX4 0).2.2.1 ∈ wB) (hl2 : Cond.fieldLink own i2 (TX0 1).1 (TX0 1).2.1 (TX0 1).2.2.1 ∈ wB) (h0 : ls[0]? = some (.val (.ref (pa P i)))) (d0 : decode cc pc = .ok (.aload_n 0, 1)) (d1 : decode cc (pc + 1) = .ok (.getfield i1, 3)) (d4 : decode cc (pc + 4) = .ok (.getfield i2, 3))
    (kk : W p l e R s m args below meth c H locs cells slots Q (F0 m (pc + 7) ls (.ref (pN P) :: rest))) : W p l e R s m args below meth c H locs cells slots Q (F0 m pc ls rest) :=
  lv_aload_n C.1 C.2.1 d0 rfl h0 (xv_get C hw hi hk 0 (by omega) hl1 hs rfl d1 (xb_get C hw 1 (by omega) hl2 rfl d4 kk))
/-- [j]++ -/
theorem x_inc (C : CallFix p m c cc nL s args wB own) (hw : XwR D A P F B G n fd s H) (hS : va_S A H0 H locs) {j : Nat} (hj : j < 9) {x : Int32} (hx : x = nI j) (d0 : decode cc pc = .ok (.dup2, 1)) (d1 : decode cc (pc + 1) = .ok (.iaload, 1)) (d2 : decode cc (pc + 2) = .ok (.iconst 1, 1)) (d3 : decode cc (pc + 3) = .ok (.iadd, 1)) (d4 : decode cc (pc + 4) = .ok (.iastore, 1))
    (kk : ∀ (H1 : Heap) (locs1 : List Loc), XwR D A P F (iB B j) G n fd s H1 → va_S A H0 H1 locs1 → W p l e R s m args below meth c H1 locs1 cells slots Q (F0 m (pc + 5) ls rest)) : W p l e R s m args below meth c H locs cells slots Q (F0 m pc ls (.int x :: .ref (pN P) :: rest)) := by
  refine lv_dup2_11 C.1 C.2.1 d0 rfl rfl ?_
  refine xN_ld C hw hj hx d1 ?_
  refine lv_iconst (v := 1) C.1 C.2.1 d2 (by decide) ?_
  refine lv_iadd C.1 C.2.1 d3 ?_
  exact xN_st C hw hS hj hx d4 kk
end XRows
end
section
/-! CONTRACTS. One form: from every state with Pre, y with the arguments av ends just so: oc = .inl v: it returns v; oc = .inr E: it throws an object of E; Post holds behind it; only cells of A are written; rm.cells new cells of rm.slots slots at most. -/
def Ct (l : Launch) (y : MethodName) (hd : Cond) (rm : Room) (A : Nat → Prop) (av : List Value) (Pre : State → Prop) (oc : Option Value ⊕ String) (Post : State → Prop) : Prop :=
  vx_Met l y (hd :: wB) rm (va_Pc av Pre) (fun _ st o t => (∃ v, oc = .inl v ∧ o = .returned v) ∧ Post t ∧ va_F A st t) (fun E st t => oc = .inr E ∧ Post t ∧ va_F A st t) rm.cells rm.slots A
/-- a start that doesn't look at the frames -/
def Bl (Pre : State → Prop) : Prop := ∀ (U : State) (g : JFrame) (mk : MethodId) (a : Array Value), Pre U → Pre (U.calling g mk a)
theorem Bl.pc {av : List Value} {Pre : State → Prop} (h : Bl Pre) : FrameBlind (va_Pc av Pre) := fun a U g mk q => ⟨q.1, h U g mk a q.2⟩
/-- the word that a callee's code has: plain, or with a table of handlers -/
def Hd (y : MethodName) (b : ByteArray) (mL : Nat) (ret : Option FieldType) (hd : Cond) : Prop := hd = .code y b mL ret ∨ ∃ hh, hd = .codeWith y b mL ret hh
theorem good_wB {L : List Cond} (h : ∀ w ∈ L, w ∈ wB) : GoodIn wB L := fun w hw => ⟨h w hw, good_of_word (wB_good w (h w hw))⟩
section CtCalls
variable {p : Program} {l : Launch} {e : Env} {R : Room} {s : State} {m : MethodId} {args : Array Value} {below : List Frame} {meth : Method} {c : Code} {H : Heap} {locs : List Loc} {cells slots : Nat} {Q : State → Prop}
variable {cc b : ByteArray} {nL mL index pc : Nat} {ls : Array Slot} {st0 rest As : List Value} {own owner CN : String} {x y : MethodName} {hd : Cond} {ret : Option FieldType} {rm : Room} {A A0 : Nat → Prop} {H0 : Heap} {Pre Post : State → Prop} {oc : Option Value ⊕ String} {a : Nat}
def CtR (p : Program) (l : Launch) (e : Env) (R : Room) (s : State) (m : MethodId) (args : Array Value) (below : List Frame) (meth : Method) (c : Code) (H : Heap) (locs : List Loc) (cells slots : Nat) (g : JFrame) (rest : List Value) (rm : Room) (A : Nat → Prop) (oc : Option Value ⊕ String) (Post : State → Prop) : Prop :=
  vx_Run p l e R s m args below meth c H locs cells slots rm.cells rm.slots g rest (fun st o t => (∃ v, oc = .inl v ∧ o = .returned v) ∧ Post t ∧ va_F A st t) (fun E st t => oc = .inr E ∧ Post t ∧ va_F A st t) A
/-- behind a call -/
theorem ct_go (hr : CtR p l e R s m args below meth c H locs cells slots (F0 m pc ls st0) rest rm A oc Post) (hS : va_S A0 H0 H locs) (hA : ∀ q, A q → A0 q)
    (kx : ∀ (E : String), oc = .inr E → ∀ (ce : Cell) (q9 : Addr) (t : State) (H1 : Heap) (locs1 : List Loc), t.heap = H1 → s.vm.Alike t.vm → Post t → H.size ≤ H1.size → (∀ q : Nat, q < H.size → ¬ A q → H1[q]? = H[q]?) → va_S A0 H0 H1 locs1 → H1[q9]? = some ce → ce.vm = .none → s.vm.findClass E = some ce.cls → vx_W p l e R s m args below meth c H1 locs1 (cells + rm.cells) (slots + rm.slots) Q (F0 m pc ls rest) q9)
    (kk : ∀ (v : Option Value), oc = .inl v → ∀ (t : State) (H1 : Heap) (locs1 : List Loc), t.heap = H1 → s.vm.Alike t.vm → Post t → H.size ≤ H1.size → (∀ q : Nat, q < H.size → ¬ A q → H1[q]? = H[q]?) → va_S A0 H0 H1 locs1 → W p l e R s m args below meth c H1 locs1 (cells + rm.cells) (slots + rm.slots) Q (F0 m (pc + 3) ls (v.toList ++ rest))) : W p l e R s m args below meth c H locs cells slots Q (F0 m pc ls st0) := by
  intro T hT X
  rcases hr T hT X with ⟨v, st₀, t, T', L, h0, X', hL, e1, e2, ⟨⟨v', hv, hv'⟩, hp, hF⟩, st⟩ | ⟨q, st₀, t, T', L, E, ce, h0, X', hL, e1, e2, ⟨hE, hp, hF⟩, hce, hcv, hcl, st⟩
  · cases hv'
    obtain ⟨k1, k2, k3⟩ := vx_keep h0 e1 hS (fun q _ h => hA q h) hA hL hF
    obtain ⟨t2, a1, b1⟩ := kk _ hv t T'.heap (locs ++ L) e1.symm (by rw [← e2]; exact X'.warmed.alike) hp k1 k2 k3 T' rfl X'
    exact ⟨t2, st t2 a1, b1⟩
  · obtain ⟨k1, k2, k3⟩ := vx_keep h0 e1 hS (fun q _ h => hA q h) hA hL hF
    obtain ⟨t2, a1, b1⟩ := kx E hE ce q t T'.heap (locs ++ L) e1.symm (by rw [← e2]; exact X'.warmed.alike) hp k1 k2 k3 (by rw [e1]; exact hce) hcv hcl T' rfl X'
    exact ⟨t2, st.trans a1, b1⟩
/-- behind a call that returns -/
theorem ct_ret {v : Option Value} (hr : CtR p l e R s m args below meth c H locs cells slots (F0 m pc ls st0) rest rm A (.inl v) Post) (hS : va_S A0 H0 H locs) (hA : ∀ q, A q → A0 q)
    (kk : ∀ (t : State) (H1 : Heap) (locs1 : List Loc), t.heap = H1 → s.vm.Alike t.vm → Post t → H.size ≤ H1.size → (∀ q : Nat, q < H.size → ¬ A q → H1[q]? = H[q]?) → va_S A0 H0 H1 locs1 → W p l e R s m args below meth c H1 locs1 (cells + rm.cells) (slots + rm.slots) Q (F0 m (pc + 3) ls (v.toList ++ rest))) : W p l e R s m args below meth c H locs cells slots Q (F0 m pc ls st0) :=
  ct_go hr hS hA (fun E h => nomatch h) (fun v' h => by cases h; exact kk)
theorem ct_back {av : List Value} (hM : Ct l y hd rm A av Pre oc Post) (hbl : Bl Pre) (hhd : Hd y b mL ret hd) (hG : hd ∈ wB) (hini : Cond.initialized y.cls ∈ wB) (hts : ∀ w ∈ wB, w.before args s = true) (hR : rm.frames + 1 ≤ R.frames ∧ 8 + (mL + 11) + rm.locals ≤ R.locals) :
    vx_Back l R p e below s args y 3 8 (PreOf R rm.cells rm.slots (va_Pc av Pre)) (PostOf (fun _ st o t => (∃ v, oc = .inl v ∧ o = .returned v) ∧ Post t ∧ va_F A st t) rm.cells rm.slots A) (vx_Post (fun E st t => oc = .inr E ∧ Post t ∧ va_F A st t) rm.cells rm.slots A) := by
  have hws : ∀ w ∈ hd :: wB, ∀ (a' : Array Value) (U : State), s.WarmedH U.vm → w.before a' U = true := pay_in hts (good_wB (List.forall_mem_cons.mpr ⟨hG, fun _ h => h⟩))
  have hin : ∀ (a' : Array Value) (U : State), s.WarmedH U.vm → (Cond.initialized y.cls).before a' U = true := fun a' U hW => word_at hW (Or.inl (by first | rfl | simp [Cond.onTables, Cond.keeps, Cond.steady])) (hts _ hini)
  rcases hhd with rfl | ⟨hh, rfl⟩
  · exact vx_back (bytes := b) (maxL := mL) (ret := ret) hM hbl.pc rfl rfl hR.1 hR.2 hws List.mem_cons_self hin
  · exact vx_backW (hh := hh) (bytes := b) (maxL := mL) (ret := ret) hM hbl.pc rfl rfl hR.1 hR.2 hws List.mem_cons_self hin
theorem ct_len {n : Nat} {d : String} (h : (parseMethodDescriptor d).map (fun d => d.parameters.length) = some n) : ∀ sig, parseMethodDescriptor d = some sig → n = sig.parameters.length := fun sig h2 => by
  rw [h2] at h
  exact (Option.some.inj h).symm
/-- x.m(..): the receiver's own class CN selects y -/
theorem ct_V (S : CallFix p m c cc nL s args wB own) (hM : Ct l y hd rm A (.ref a :: As) Pre oc Post) (hbl : Bl Pre) (hhd : Hd y b mL ret hd) (hG : hd ∈ wB) (hini : Cond.initialized y.cls ∈ wB) (hR : rm.frames + 1 ≤ R.frames ∧ 8 + (mL + 11) + rm.locals ≤ R.locals)
    (h1 : Cond.methodLink own index x ∈ wB) (h2 : Cond.sameMethod x.cls owner x.name x.desc ∈ wB) (hd0 : va_Decl s ⟨owner, x.name, x.desc⟩) (howner : owner ≠ "java/lang/invoke/MethodHandle" ∧ owner ≠ "java/lang/invoke/VarHandle") (h4 : Cond.selects CN x y ∈ wB) (h5 : Cond.instanceMethod y ∈ wB)
    (hrc : ∃ cellB : Cell, H[a]? = some cellB ∧ cellB.vm.isStatics = false ∧ s.vm.findClass CN = some cellB.cls) (hpre : ∀ U : State, U.heap = H → s.WarmedH U.vm → Pre U)
    (hlen : (parseMethodDescriptor x.desc).map (fun d => d.parameters.length) = some As.length) (hsize : ls.size = nL) (hst : st0 = As.reverse ++ .ref a :: rest) (hW : (rest.map fun v => v.category).sum ≤ 8) (hdg : decode cc pc = .ok (.invokevirtual index, 3)) (hf : cells + rm.cells ≤ R.cells ∧ slots + rm.slots ≤ R.slots) :
    CtR p l e R s m args below meth c H locs cells slots (F0 m pc ls st0) rest rm A oc Post := by
  have hK := ct_back (p := p) (e := e) (below := below) (R := R) hM hbl hhd hG hini S.2.2.2.2 hR
  obtain ⟨hx, hb, hml, ho, hts⟩ := S
  obtain ⟨cellB, hcB, hoB, hclB⟩ := hrc
  intro T hT X
  obtain ⟨r0, r, hn, hrm, hstR, hsigR⟩ := hd0
  obtain ⟨cn, ck, r1, hcn, hck, hni, hff, hn1⟩ := Cond.sameMethod_found (hts _ h2)
  cases hn.symm.trans hn1
  obtain ⟨mk, methM, hnamed, hmethM, -, habM⟩ := Cond.instanceMethod_spec (hts _ h5)
  obtain ⟨c2, r2, m2, q1, q2, q3, q4, kP, hkP, hkPi⟩ := Cond.selects_spec (hts _ h4)
  cases hclB.symm.trans q1
  cases hff.symm.trans q2
  cases hnamed.symm.trans q3
  have hselP : selectMethod e.platform s.vm cellB.cls r0 = .method mk := by rw [Launch.admits_selectMethod X.admits]; exact q4
  have hdg' : decode c.code (F0 m pc ls st0).pc = .ok (.invokevirtual index, 3) := by rw [hb]; exact hdg
  obtain ⟨vm₁, X₁, hstep₁⟩ := X.invokevirtualUp hx ho (hts _ h1) (hts _ h2) howner hn hrm hstR (a := a) (cell := cellB) (by rw [hT]; exact hcB)
    (fun z h => by rw [h] at hoB; cases hoB) hselP hmethM habM hkP hkPi (g := F0 m pc ls st0) rfl (argsL := As) (rest := rest) (ct_len hlen _ hsigR) hst hdg'
  rcases hK m meth c ⟨T.setVm vm₁, locs, cells, slots⟩ (F0 m pc ls rest) (.invokevirtual index) mk (Value.ref a :: As).toArray X₁ rfl (hsize.trans hml.symm) hdg' (by simpa [JFrame.monitorRoom] using hW) (X₁.named hnamed) ⟨hf.1, hf.2, rfl, hpre (T.setVm vm₁) hT X₁.warmed⟩ with ⟨v, ⟨U', l2, c2, s2⟩, X', ⟨g', mk', t, L, e1, e2, hq, h1, hL, h2, h3⟩, hsteps⟩ | ⟨q, ⟨U', l2, c2, s2⟩, X', ⟨g', mk', t, L, E, ce, e1, e2, hq, hce, hcv, hcl, h1, hL, h2, h3⟩, hsteps⟩
  · dsimp only [Pt.U, Pt.locs, Pt.cells, Pt.slots] at X' e1 e2 h1 h2 h3 hsteps
    subst h1; subst h2; subst h3
    exact Or.inl ⟨v, (T.setVm vm₁).calling g' mk' (Value.ref a :: As).toArray, t, U', L, hT, X', hL, e1, e2, hq, fun target h => hstep₁ _ fun acts => by rw [doInvoke_state]; exact hsteps.trans h⟩
  · dsimp only [Pt.U, Pt.locs, Pt.cells, Pt.slots] at X' e1 e2 h1 h2 h3 hsteps hcl
    subst h1; subst h2; subst h3
    exact Or.inr ⟨q, (T.setVm vm₁).calling g' mk' (Value.ref a :: As).toArray, t, U', L, E, ce, hT, X', hL, e1, e2, hq, hce, hcv, vx_cls X₁.warmed hcl, hstep₁ _ fun acts => by rw [doInvoke_state]; exact hsteps⟩
/-- super.m(..): x names the superclass, the method that it has is y -/
theorem ct_SU (S : CallFix p m c cc nL s args wB own) (hM : Ct l y hd rm A (.ref a :: As) Pre oc Post) (hbl : Bl Pre) (hhd : Hd y b mL ret hd) (hG : hd ∈ wB) (hini : Cond.initialized y.cls ∈ wB) (hR : rm.frames + 1 ≤ R.frames ∧ 8 + (mL + 11) + rm.locals ≤ R.locals)
    (h1 : Cond.methodLink own index x ∈ wB) (h2 : Cond.sameMethod x.cls y.cls x.name x.desc ∈ wB) (hxy : x.name = y.name ∧ x.desc = y.desc) (h3 : Cond.superclass own x.cls ∈ wB) (hup : ∀ ps yc : ClassId, s.vm.findClass x.cls = some ps → s.vm.findClass y.cls = some yc → s.vm.isSubclass ps yc = true) (h5 : Cond.instanceMethod y ∈ wB) (hno : x.name ≠ "<init>")
    (hrc : ∃ cellB : Cell, H[a]? = some cellB ∧ cellB.vm.isStatics = false ∧ s.vm.findClass CN = some cellB.cls) (hpre : ∀ U : State, U.heap = H → s.WarmedH U.vm → Pre U)
    (hlen : (parseMethodDescriptor y.desc).map (fun d => d.parameters.length) = some As.length) (hsize : ls.size = nL) (hst : st0 = As.reverse ++ .ref a :: rest) (hW : (rest.map fun v => v.category).sum ≤ 8) (hdg : decode cc pc = .ok (.invokespecial index, 3)) (hf : cells + rm.cells ≤ R.cells ∧ slots + rm.slots ≤ R.slots)
    (hcode : ∀ mk methM, s.methodNamed? y = some mk → s.vm.method? mk = some methM → parseMethodDescriptor y.desc = some methM.sig) :
    CtR p l e R s m args below meth c H locs cells slots (F0 m pc ls st0) rest rm A oc Post := by
  have hK := ct_back (p := p) (e := e) (below := below) (R := R) hM hbl hhd hG hini S.2.2.2.2 hR
  obtain ⟨hx, hb, hml, ho, hts⟩ := S
  obtain ⟨cellB, hcB, hoB, hclB⟩ := hrc
  intro T hT X
  obtain ⟨kB, hkB, -⟩ := Vm.findClass_spec hclB
  obtain ⟨mk, methM, hnamed, hmethM, hstM, habM⟩ := Cond.instanceMethod_spec (hts _ h5)
  obtain ⟨ps, dk, kp, hps, hdk, hkp, hsuper, -, -, hnid⟩ := Cond.superclass_spec ho (hts _ h3)
  have hn : s.methodNamed? ⟨y.cls, x.name, x.desc⟩ = some mk := by rw [hxy.1, hxy.2]; exact hnamed
  have hsub : s.vm.isSubclass ps mk.cls = true := hup ps mk.cls hps (findClass_of_methodNamed hnamed)
  have hdg' : decode c.code (F0 m pc ls st0).pc = .ok (.invokespecial index, 3) := by rw [hb]; exact hdg
  obtain ⟨vm₁, X₁, hstep₁⟩ := X.invokespecialUp hx ho (hts _ h1) (hts _ h2) hn hmethM hstM habM hno hdk hnid hps hsuper hsub (a := a) (cell := cellB) (by rw [hT]; exact hcB)
    (fun z h => by rw [h] at hoB; cases hoB) hkB (g := F0 m pc ls st0) rfl (argsL := As) (rest := rest) (ct_len hlen _ (hcode mk methM hnamed hmethM)) hst hdg'
  rcases hK m meth c ⟨T.setVm vm₁, locs, cells, slots⟩ (F0 m pc ls rest) (.invokespecial index) mk (Value.ref a :: As).toArray X₁ rfl (hsize.trans hml.symm) hdg' (by simpa [JFrame.monitorRoom] using hW) (X₁.named hnamed) ⟨hf.1, hf.2, rfl, hpre (T.setVm vm₁) hT X₁.warmed⟩ with ⟨v, ⟨U', l2, c2, s2⟩, X', ⟨g', mk', t, L, e1, e2, hq, h1, hL, h2, h3⟩, hsteps⟩ | ⟨q, ⟨U', l2, c2, s2⟩, X', ⟨g', mk', t, L, E, ce, e1, e2, hq, hce, hcv, hcl, h1, hL, h2, h3⟩, hsteps⟩
  · dsimp only [Pt.U, Pt.locs, Pt.cells, Pt.slots] at X' e1 e2 h1 h2 h3 hsteps
    subst h1; subst h2; subst h3
    exact Or.inl ⟨v, (T.setVm vm₁).calling g' mk' (Value.ref a :: As).toArray, t, U', L, hT, X', hL, e1, e2, hq, fun target h => hstep₁ _ (by rw [doInvoke_state]; exact hsteps.trans h)⟩
  · dsimp only [Pt.U, Pt.locs, Pt.cells, Pt.slots] at X' e1 e2 h1 h2 h3 hsteps hcl
    subst h1; subst h2; subst h3
    exact Or.inr ⟨q, (T.setVm vm₁).calling g' mk' (Value.ref a :: As).toArray, t, U', L, E, ce, hT, X', hL, e1, e2, hq, hce, hcv, vx_cls X₁.warmed hcl, hstep₁ _ (by rw [doInvoke_state]; exact hsteps)⟩
end CtCalls
end
section
/-! BODIES: a contract out of a walk; the ends of a walk; calls on vehicles. -/
section CtEnds
variable {p : Program} {l : Launch} {e : Env} {R : Room} {s : State} {m : MethodId} {args : Array Value} {below : List Frame} {meth : Method} {c : Code} {H : Heap} {locs : List Loc} {cells slots : Nat}
variable {cc b : ByteArray} {nL mL index pc : Nat} {ls : Array Slot} {st0 rest As : List Value} {own ref CN : String} {x y : MethodName} {hd : Cond} {ret : Option FieldType} {rm : Room} {A : Nat → Prop} {Pre Post : State → Prop} {oc : Option Value ⊕ String}
/-- what a body owes at its end -/
abbrev CtQ (below : List Frame) (s : State) (args : Array Value) (rm : Room) (A : Nat → Prop) (oc : Option Value ⊕ String) (Post : State → Prop) : State → Prop :=
  vx_MQ below (fun _ st o t => (∃ v, oc = .inl v ∧ o = .returned v) ∧ Post t ∧ va_F A st t) (fun E st t => oc = .inr E ∧ Post t ∧ va_F A st t) args s rm.cells rm.slots A
theorem ct_mk {av : List Value} (hy : plainName y.cls = true) (hsl : (lg_sl av).length ≤ mL)
    (body : ∀ (p : Program) (e : Env) (s : State) (m : MethodId) (below : List Frame) (meth : Method) (c : Code) (ls : Array Slot), CallFix p m c cc mL s av.toArray wB y.cls → meth.sig.returnType = ret → meth.locks = false → meth.name = y.name → (∀ x ∈ c.exceptionTable.toList, False) → Pre s → lv_has ls mL (lv_args 0 av) →
      W p l e rm s m av.toArray below meth c s.heap [] 0 0 (CtQ below s av.toArray rm A oc Post) (F0 m 0 ls [])) : Ct l y (.code y cc mL ret) rm A av Pre oc Post := by
  refine vx_ofW (cc := cc) (maxL := mL) (ret := ret) hy rfl ?_
  intro p e s m args below meth c s₁ B hml ht hv
  obtain ⟨rfl, hv⟩ := hv
  have hl := lv_entry av (n := mL) hsl
  rw [lg_entry_eq]
  have hts := atoms_spec (ws := Cond.code y cc mL ret :: wB) B.pre
  exact body p e s m below meth c _ ⟨B.exec, B.bytes, hml, findClass_of_methodNamed B.named, fun w h => hts w (List.mem_cons_of_mem _ h)⟩ B.returns B.notSynchronized (name_of_methodNamed B.named B.method).1 ht hv hl
theorem ct_i {v : Int32} (C : CallFix p m c cc nL s args wB own) (hr : meth.sig.returnType = some .int) (hlocks : meth.locks = false) (hoc : oc = .inl (some (.int v))) (hp : ∀ t : State, t.heap = H → s.WarmedH t.vm → Post t) (hS : va_S A s.heap H locs) (hc : cells ≤ rm.cells) (hs : slots ≤ rm.slots) (hdg : decode cc pc = .ok (.ireturn, 1)) :
    W p l e R s m args below meth c H locs cells slots (CtQ below s args rm A oc Post) (F0 m pc ls [.int v]) :=
  W.widen hc hs (vx_ret (W.iret C.1 C.2.1 hr (fun t ht hW => ⟨⟨_, hoc, rfl⟩, hp t ht hW, hS.F ht⟩) hS.2.2 hdg hlocks))
theorem ct_z {v : Int32} (C : CallFix p m c cc nL s args wB own) (hr : meth.sig.returnType = some .boolean) (hlocks : meth.locks = false) (hv : v = 0 ∨ v = 1) (hoc : oc = .inl (some (.int v))) (hp : ∀ t : State, t.heap = H → s.WarmedH t.vm → Post t) (hS : va_S A s.heap H locs) (hc : cells ≤ rm.cells) (hs : slots ≤ rm.slots) (hdg : decode cc pc = .ok (.ireturn, 1)) :
    W p l e R s m args below meth c H locs cells slots (CtQ below s args rm A oc Post) (F0 m pc ls [.int v]) :=
  W.widen hc hs (vx_ret (W.zret C.1 C.2.1 hr (by rcases hv with rfl | rfl <;> rfl) (fun t ht hW => ⟨⟨_, hoc, rfl⟩, hp t ht hW, hS.F ht⟩) hS.2.2 hdg hlocks))
theorem ct_v (C : CallFix p m c cc nL s args wB own) (hr : meth.sig.returnType = none) (hlocks : meth.locks = false) (hoc : oc = .inl none) (hp : ∀ t : State, t.heap = H → s.WarmedH t.vm → Post t) (hS : va_S A s.heap H locs) (hc : cells ≤ rm.cells) (hs : slots ≤ rm.slots) (hdg : decode cc pc = .ok (.return_, 1)) :
    W p l e R s m args below meth c H locs cells slots (CtQ below s args rm A oc Post) (F0 m pc ls []) :=
  W.widen hc hs (vx_ret (W.vret C.1 C.2.1 hr (fun t ht hW => ⟨⟨_, hoc, rfl⟩, hp t ht hW, hS.F ht⟩) hS.2.2 hdg hlocks))
theorem ct_a {r : Option Nat} {rt : FieldType} (C : CallFix p m c cc nL s args wB own) (hr : meth.sig.returnType = some rt) (hrt : (∃ n, rt = .object n) ∨ ∃ t, rt = .array t) (hlocks : meth.locks = false) (hoc : oc = .inl (some (va_rf r))) (hp : ∀ t : State, t.heap = H → s.WarmedH t.vm → Post t) (hS : va_S A s.heap H locs) (hc : cells ≤ rm.cells) (hs : slots ≤ rm.slots) (hdg : decode cc pc = .ok (.areturn, 1)) :
    W p l e R s m args below meth c H locs cells slots (CtQ below s args rm A oc Post) (F0 m pc ls [va_rf r]) :=
  W.widen hc hs (vx_ret (W.aret C.1 C.2.1 hr hrt (va_rf_or r) (fun t ht hW => ⟨⟨_, hoc, rfl⟩, hp t ht hW, hS.F ht⟩) hS.2.2 hdg hlocks))
end CtEnds
section XCalls
variable {p : Program} {l : Launch} {e : Env} {R : Room} {s : State} {m : MethodId} {args : Array Value} {below : List Frame} {meth : Method} {c : Code} {H : Heap} {locs : List Loc} {cells slots : Nat}
variable {cc b : ByteArray} {nL mL index pc : Nat} {ls : Array Slot} {st0 rest As : List Value} {own ref CN : String} {x y : MethodName} {hd : Cond} {ret : Option FieldType} {rm : Room} {Pre Post : State → Prop} {oc : Option Value ⊕ String}
variable {D : va_G} {A : Nat → Prop} {P : SwP} {F : Nat → Nat → Int32} {B G : Nat → Int32} {n : Int32} {fd : Nat → Option Nat} {i : Nat}
/-- the object's world, as a start or an end of a contract -/
abbrev Xp (D : va_G) (A : Nat → Prop) (P : SwP) (F : Nat → Nat → Int32) (B G : Nat → Int32) (dk : List Nat) : State → Prop := fun U => XwR D A P F B G (nI dk.length) (dfd P dk) U U.heap
theorem Xp_bl {dk : List Nat} : Bl (Xp D A P F B G dk) := fun U g mk a h => h.moved (u := U.calling g mk a) (Vm.Alike.refl U.vm)
theorem x_post {t : State} (hw : XwR D A P F B G n fd s H) (ht : t.heap = H) (hW : s.WarmedH t.vm) : XwR D A P F B G n fd t t.heap := by rw [ht]; exact hw.moved hW.alike
theorem x_back {t : State} (hw : XwR D A P F B G n fd t t.heap) (ht : t.heap = H) (hvm : s.vm.Alike t.vm) : XwR D A P F B G n fd s H := by rw [ht] at hw; exact hw.moved hvm.symm
theorem x_recv (hw : XwR D A P F B G n fd s H) (hi : i < pn P) (hk : pk P i < 9) : ∃ cellB : Cell, H[pa P i]? = some cellB ∧ cellB.vm.isStatics = false ∧ s.vm.findClass (cN (pk P i)) = some cellB.cls := va_recv hw.1 hw.2.1 (sCl_k hk) (xws_v hi)
/-- the classes are at least four: chains of superclasses have fuel -/
theorem sw_cls (hw : XwR D A P F B G n fd s H) (k : Nat) (q : vw_C) (hq : sCl[k]? = some q) : ∃ c k9, s.vm.findClass q.1 = some c ∧ s.vm.classes[c]? = some k9 ∧ k9.name = q.1 := by
  obtain ⟨-, hc, -⟩ := hw.1.1 k q hq
  obtain ⟨k9, h1, h2⟩ := Vm.findClass_spec hc
  exact ⟨_, k9, hc, h1, h2⟩
theorem sw_size (hw : XwR D A P F B G n fd s H) : 4 ≤ s.vm.classes.size := by
  obtain ⟨a, ka, -, ha, na⟩ := sw_cls hw 0 _ rfl
  obtain ⟨b, kb, -, hb, nb⟩ := sw_cls hw 1 _ rfl
  obtain ⟨c, kc, -, hc, nc⟩ := sw_cls hw 2 _ rfl
  obtain ⟨d, kd, -, hd, nd⟩ := sw_cls hw 3 _ rfl
  have h1 := (Array.getElem?_eq_some_iff.mp ha).1
  have h2 := (Array.getElem?_eq_some_iff.mp hb).1
  have h3 := (Array.getElem?_eq_some_iff.mp hc).1
  have h4 := (Array.getElem?_eq_some_iff.mp hd).1
  have ne : ∀ {u v : Nat} {ku kv : Class} {su sv : String}, s.vm.classes[u]? = some ku → s.vm.classes[v]? = some kv → ku.name = su → kv.name = sv → su ≠ sv → u ≠ v := by
    intro u v ku kv su sv hu hv nu nv hn he
    subst he
    cases hu.symm.trans hv
    exact hn (nu.symm.trans nv)
  have e1 := ne ha hb na nb (by decide)
  have e2 := ne ha hc na nc (by decide)
  have e3 := ne ha hd na nd (by decide)
  have e4 := ne hb hc nb nc (by decide)
  have e5 := ne hb hd nb nd (by decide)
  have e6 := ne hc hd nc nd (by decide)
  omega
theorem sub_st {vm : Vm} {f a b t : Nat} {k : Class} (hk : vm.classes[a]? = some k) (hs : k.super = some b) (h : vm.isSubclassAux f b t = true) : vm.isSubclassAux (f + 1) a t = true := by
  simp [Vm.isSubclassAux, hk, hs, h]
theorem sub_se {vm : Vm} {f a : Nat} : vm.isSubclassAux (f + 1) a a = true := by simp [Vm.isSubclassAux]
/-- up from S0: none, one, two or three steps -/
theorem sup0 {S0 : String} : ∀ ps yc : ClassId, s.vm.findClass S0 = some ps → s.vm.findClass S0 = some yc → s.vm.isSubclass ps yc = true := fun ps yc h1 h2 => by
  cases h1.symm.trans h2
  simp [Vm.isSubclass, Vm.isSubclassAux]
theorem sup1 {S0 S1 : String} (C : CallFix p m c cc nL s args wB own) (h : Cond.superclass S0 S1 ∈ wB) : ∀ ps yc : ClassId, s.vm.findClass S0 = some ps → s.vm.findClass S1 = some yc → s.vm.isSubclass ps yc = true := fun ps yc h1 h2 => by
  obtain ⟨q1, k1, -, hq1, hk1, hk1', hs1, -⟩ := Cond.superclass_spec h1 (C.2.2.2.2 _ h)
  cases h2.symm.trans hq1
  have hz := (Array.getElem?_eq_some_iff.mp hk1).1
  show s.vm.isSubclassAux (s.vm.classes.size + 1) ps yc = true
  obtain ⟨f, hf⟩ : ∃ f, s.vm.classes.size + 1 = f + 1 + 1 := ⟨s.vm.classes.size - 1, by omega⟩
  rw [hf]
  exact sub_st hk1 hs1 sub_se
theorem sup2 {S0 S1 S2 : String} (C : CallFix p m c cc nL s args wB own) (hw : XwR D A P F B G n fd s H) (h : Cond.superclass S0 S1 ∈ wB) (h' : Cond.superclass S1 S2 ∈ wB) : ∀ ps yc : ClassId, s.vm.findClass S0 = some ps → s.vm.findClass S2 = some yc → s.vm.isSubclass ps yc = true := fun ps yc h1 h2 => by
  obtain ⟨q1, k1, -, hq1, hk1, hk1', hs1, -⟩ := Cond.superclass_spec h1 (C.2.2.2.2 _ h)
  obtain ⟨q2, k2, -, hq2, hk2, hk2', hs2, -⟩ := Cond.superclass_spec hq1 (C.2.2.2.2 _ h')
  cases h2.symm.trans hq2
  have hz := sw_size hw
  show s.vm.isSubclassAux (s.vm.classes.size + 1) ps yc = true
  obtain ⟨f, hf⟩ : ∃ f, s.vm.classes.size + 1 = f + 1 + 1 + 1 := ⟨s.vm.classes.size - 2, by omega⟩
  rw [hf]
  exact sub_st hk1 hs1 (sub_st hk2 hs2 sub_se)
theorem sup3 {S0 S1 S2 S3 : String} (C : CallFix p m c cc nL s args wB own) (hw : XwR D A P F B G n fd s H) (h : Cond.superclass S0 S1 ∈ wB) (h' : Cond.superclass S1 S2 ∈ wB) (h'' : Cond.superclass S2 S3 ∈ wB) : ∀ ps yc : ClassId, s.vm.findClass S0 = some ps → s.vm.findClass S3 = some yc → s.vm.isSubclass ps yc = true := fun ps yc h1 h2 => by
  obtain ⟨q1, k1, -, hq1, hk1, hk1', hs1, -⟩ := Cond.superclass_spec h1 (C.2.2.2.2 _ h)
  obtain ⟨q2, k2, -, hq2, hk2, hk2', hs2, -⟩ := Cond.superclass_spec hq1 (C.2.2.2.2 _ h')
  obtain ⟨q3, k3, -, hq3, hk3, hk3', hs3, -⟩ := Cond.superclass_spec hq2 (C.2.2.2.2 _ h'')
  cases h2.symm.trans hq3
  have hz := sw_size hw
  show s.vm.isSubclassAux (s.vm.classes.size + 1) ps yc = true
  obtain ⟨f, hf⟩ : ∃ f, s.vm.classes.size + 1 = f + 1 + 1 + 1 + 1 := ⟨s.vm.classes.size - 3, by omega⟩
  rw [hf]
  exact sub_st hk1 hs1 (sub_st hk2 hs2 (sub_st hk3 hs3 sub_se))
theorem sig_code {s : State} {args : Array Value} {y : MethodName} {b : ByteArray} {mL : Nat} {ret : Option FieldType} (h : (Cond.code y b mL ret).before args s = true) : ∀ mk methM, s.methodNamed? y = some mk → s.vm.method? mk = some methM → parseMethodDescriptor y.desc = some methM.sig := fun mk methM h1 h2 => by
  obtain ⟨methM', cM, hmethM', -, -, -, -, -, -, hsigM⟩ := Cond.code_spec h1 h
  cases h2.symm.trans hmethM'
  exact hsigM
/-- super.m(..) on a vehicle; y is x itself or what x's class has from above -/
theorem x_SU (C : CallFix p m c cc nL s args wB own) (hw : XwR D A P F B G n fd s H) (hi : i < pn P) (hk : pk P i < 9) (hM : Ct l y (.code y b mL ret) rm A (.ref (pa P i) :: As) Pre oc Post) (hbl : Bl Pre) (hpre : ∀ U : State, U.heap = H → s.WarmedH U.vm → Pre U)
    (hG : Cond.code y b mL ret ∈ wB) (hini : Cond.initialized y.cls ∈ wB) (h5 : Cond.instanceMethod y ∈ wB) (h1 : Cond.methodLink own index x ∈ wB) (h2 : Cond.sameMethod x.cls y.cls x.name x.desc ∈ wB) (hxy : x.name = y.name ∧ x.desc = y.desc) (h3 : Cond.superclass own x.cls ∈ wB) (hno : x.name ≠ "<init>")
    (hup : ∀ ps yc : ClassId, s.vm.findClass x.cls = some ps → s.vm.findClass y.cls = some yc → s.vm.isSubclass ps yc = true) (hlen : (parseMethodDescriptor y.desc).map (fun d => d.parameters.length) = some As.length) (hsize : ls.size = nL) (hdg : decode cc pc = .ok (.invokespecial index, 3))
    (hR : rm.frames + 1 ≤ R.frames ∧ 8 + (mL + 11) + rm.locals ≤ R.locals) (hst : st0 = As.reverse ++ .ref (pa P i) :: rest) (hW : (rest.map fun v => v.category).sum ≤ 8) (hf : cells + rm.cells ≤ R.cells ∧ slots + rm.slots ≤ R.slots) :
    CtR p l e R s m args below meth c H locs cells slots (F0 m pc ls st0) rest rm A oc Post :=
  ct_SU C hM hbl (Or.inl rfl) hG hini hR h1 h2 hxy h3 hup h5 hno (x_recv hw hi hk) hpre hlen hsize hst hW hdg hf (sig_code (C.2.2.2.2 _ hG))
end XCalls
end
section
set_option maxHeartbeats 4000000 in
set_option maxRecDepth 100000 in
/-- CART: MASS -/
theorem c_X4_weightAct (l : Launch) (D : va_G) (A : Nat → Prop) (P : SwP) (F : Nat → Nat → Int32) (B G : Nat → Int32) (dk : List Nat) (i : Nat) (hi : i < pn P) (hk : pk P i < 9) : Ct l yX4_weightAct (.code yX4_weightAct cX4_weightAct 1 (some .int)) { frames := 0, cells := 0, slots := 0, locals := 0 } A ([.ref (pa P i)]) (Xp D A P F B G dk) (.inl (some (.int (F i 3)))) (Xp D A P F (iB B 0) G dk) := by
  refine ct_mk (by decide) (Nat.le_of_ble_eq_true rfl) (fun p e s m below meth c ls C hr hlocks hnm htab hP hl => ?_)
  have hw := hP
  have hS : va_S A s.heap s.heap [] := va_S.rf
  have hl : lv_has ls 1 [(0, .ref (pa P i))] := hl
  refine x_begun C hw hi hk tb_111 (Or.inl rfl) tb_38 (lv_at hl 0 rfl) dX4_weightAct_0 dX4_weightAct_1 dX4_weightAct_4 ?_
  refine lv_iconst (v := 0) C.1 C.2.1 dX4_weightAct_7 (by decide) ?_
  refine x_inc C hw hS (j := 0) (by decide) (by decide) dX4_weightAct_8 dX4_weightAct_9 dX4_weightAct_10 dX4_weightAct_11 dX4_weightAct_12 (fun H locs hw hS => ?_)
  refine lv_aload_n C.1 C.2.1 dX4_weightAct_13 rfl (lv_at hl 0 rfl) ?_
  refine xv_get C hw hi hk 3 (by decide) tb_132 (Or.inl rfl) rfl dX4_weightAct_14 ?_
  exact ct_i C hr hlocks rfl (fun t ht hW => x_post hw ht hW) hS (Nat.le_of_ble_eq_true rfl) (Nat.le_of_ble_eq_true rfl) dX4_weightAct_17
set_option maxHeartbeats 4000000 in
set_option maxRecDepth 100000 in
/-- LORRY: UNDER + LOAD -/
theorem c_X7_weightAct (l : Launch) (D : va_G) (A : Nat → Prop) (P : SwP) (F : Nat → Nat → Int32) (B G : Nat → Int32) (dk : List Nat) (i : Nat) (hi : i < pn P) (hk : pk P i < 9) : Ct l yX7_weightAct (.code yX7_weightAct cX7_weightAct 1 (some .int)) { frames := 1, cells := 0, slots := 0, locals := 20 } A ([.ref (pa P i)]) (Xp D A P F B G dk) (.inl (some (.int (F i 3 + F i 5)))) (Xp D A P F (iB (iB B 4) 0) G dk) := by
  refine ct_mk (by decide) (Nat.le_of_ble_eq_true rfl) (fun p e s m below meth c ls C hr hlocks hnm htab hP hl => ?_)
  have hw := hP
  have hS : va_S A s.heap s.heap [] := va_S.rf
  have hl : lv_has ls 1 [(0, .ref (pa P i))] := hl
  refine x_begun C hw hi hk tb_112 (Or.inr tb_113) tb_39 (lv_at hl 0 rfl) dX7_weightAct_0 dX7_weightAct_1 dX7_weightAct_4 ?_
  refine lv_iconst (v := 4) C.1 C.2.1 dX7_weightAct_7 (by decide) ?_
  refine x_inc C hw hS (j := 4) (by decide) (by decide) dX7_weightAct_8 dX7_weightAct_9 dX7_weightAct_10 dX7_weightAct_11 dX7_weightAct_12 (fun H locs hw hS => ?_)
  refine lv_aload_n C.1 C.2.1 dX7_weightAct_13 rfl (lv_at hl 0 rfl) ?_
  refine ct_ret (x_SU C hw hi hk (c_X4_weightAct l D A P _ _ _ _ i hi hk) Xp_bl (fun U hU hW => x_post hw hU hW) tb_342 tb_4 tb_318 tb_324 tb_325 ⟨rfl, rfl⟩ tb_227 (by decide) (sup1 C tb_176) (by show _ = some 0; decide +kernel) hl.1 dX7_weightAct_14 ⟨Nat.le_of_ble_eq_true rfl, Nat.le_of_ble_eq_true rfl⟩ rfl (Nat.le_of_ble_eq_true rfl) ⟨Nat.le_of_ble_eq_true rfl, Nat.le_of_ble_eq_true rfl⟩) hS (fun _ h => h) (fun t H locs ht hvm hw _ _ hS => ?_)
  have hw := x_back hw ht hvm
  refine lv_aload_n C.1 C.2.1 dX7_weightAct_17 rfl (lv_at hl 0 rfl) ?_
  refine xv_get C hw hi hk 5 (by decide) tb_141 (Or.inr tb_142) rfl dX7_weightAct_18 ?_
  refine lv_iadd C.1 C.2.1 dX7_weightAct_21 ?_
  exact ct_i C hr hlocks rfl (fun t ht hW => x_post hw ht hW) hS (Nat.le_of_ble_eq_true rfl) (Nat.le_of_ble_eq_true rfl) dX7_weightAct_22
set_option maxHeartbeats 4000000 in
set_option maxRecDepth 100000 in
/-- TANKER: UNDER + LOAD / 4 -/
theorem c_X8_weightAct (l : Launch) (D : va_G) (A : Nat → Prop) (P : SwP) (F : Nat → Nat → Int32) (B G : Nat → Int32) (dk : List Nat) (i : Nat) (hi : i < pn P) (hk : pk P i < 9) : Ct l yX8_weightAct (.code yX8_weightAct cX8_weightAct 1 (some .int)) { frames := 2, cells := 0, slots := 0, locals := 40 } A ([.ref (pa P i)]) (Xp D A P F B G dk) (.inl (some (.int (F i 3 + F i 5 + F i 5 / 4)))) (Xp D A P F (iB (iB (iB B 5) 4) 0) G dk) := by
  refine ct_mk (by decide) (Nat.le_of_ble_eq_true rfl) (fun p e s m below meth c ls C hr hlocks hnm htab hP hl => ?_)
  have hw := hP
  have hS : va_S A s.heap s.heap [] := va_S.rf
  have hl : lv_has ls 1 [(0, .ref (pa P i))] := hl
  refine x_begun C hw hi hk tb_116 (Or.inr tb_117) tb_41 (lv_at hl 0 rfl) dX8_weightAct_0 dX8_weightAct_1 dX8_weightAct_4 ?_
  refine lv_iconst (v := 5) C.1 C.2.1 dX8_weightAct_7 (by decide) ?_
  refine x_inc C hw hS (j := 5) (by decide) (by decide) dX8_weightAct_8 dX8_weightAct_9 dX8_weightAct_10 dX8_weightAct_11 dX8_weightAct_12 (fun H locs hw hS => ?_)
  refine lv_aload_n C.1 C.2.1 dX8_weightAct_13 rfl (lv_at hl 0 rfl) ?_
  refine ct_ret (x_SU C hw hi hk (c_X7_weightAct l D A P _ _ _ _ i hi hk) Xp_bl (fun U hU hW => x_post hw hU hW) tb_323 tb_8 tb_322 tb_340 tb_886 ⟨rfl, rfl⟩ tb_244 (by decide) sup0 (by show _ = some 0; decide +kernel) hl.1 dX8_weightAct_14 ⟨Nat.le_of_ble_eq_true rfl, Nat.le_of_ble_eq_true rfl⟩ rfl (Nat.le_of_ble_eq_true rfl) ⟨Nat.le_of_ble_eq_true rfl, Nat.le_of_ble_eq_true rfl⟩) hS (fun _ h => h) (fun t H locs ht hvm hw _ _ hS => ?_)
  have hw := x_back hw ht hvm
  refine lv_aload_n C.1 C.2.1 dX8_weightAct_17 rfl (lv_at hl 0 rfl) ?_
  refine xv_get C hw hi hk 5 (by decide) tb_143 (Or.inr tb_144) rfl dX8_weightAct_18 ?_
  refine lv_iconst (v := 4) C.1 C.2.1 dX8_weightAct_21 (by decide) ?_
  refine lv_idiv C.1 C.2.1 dX8_weightAct_22 (by decide) ?_
  refine lv_iadd C.1 C.2.1 dX8_weightAct_23 ?_
  exact ct_i C hr hlocks rfl (fun t ht hW => x_post hw ht hW) hS (Nat.le_of_ble_eq_true rfl) (Nat.le_of_ble_eq_true rfl) dX8_weightAct_24
set_option maxHeartbeats 4000000 in
set_option maxRecDepth 100000 in
/-- LATE BUS: UNDER less 10 -/
theorem c_X6_weightAct (l : Launch) (D : va_G) (A : Nat → Prop) (P : SwP) (F : Nat → Nat → Int32) (B G : Nat → Int32) (dk : List Nat) (i : Nat) (hi : i < pn P) (hk : pk P i < 9) : Ct l yX6_weightAct (.code yX6_weightAct cX6_weightAct 1 (some .int)) { frames := 2, cells := 0, slots := 0, locals := 40 } A ([.ref (pa P i)]) (Xp D A P F B G dk) (.inl (some (.int (F i 3 + F i 5 - 10)))) (Xp D A P F (iB (iB (iB B 7) 4) 0) G dk) := by
  refine ct_mk (by decide) (Nat.le_of_ble_eq_true rfl) (fun p e s m below meth c ls C hr hlocks hnm htab hP hl => ?_)
  have hw := hP
  have hS : va_S A s.heap s.heap [] := va_S.rf
  have hl : lv_has ls 1 [(0, .ref (pa P i))] := hl
  refine x_begun C hw hi hk tb_114 (Or.inr tb_115) tb_40 (lv_at hl 0 rfl) dX6_weightAct_0 dX6_weightAct_1 dX6_weightAct_4 ?_
  refine lv_bipush (v := 7) C.1 C.2.1 dX6_weightAct_7 (by decide) ?_
  refine x_inc C hw hS (j := 7) (by decide) (by decide) dX6_weightAct_9 dX6_weightAct_10 dX6_weightAct_11 dX6_weightAct_12 dX6_weightAct_13 (fun H locs hw hS => ?_)
  refine lv_aload_n C.1 C.2.1 dX6_weightAct_14 rfl (lv_at hl 0 rfl) ?_
  refine ct_ret (x_SU C hw hi hk (c_X7_weightAct l D A P _ _ _ _ i hi hk) Xp_bl (fun U hU hW => x_post hw hU hW) tb_323 tb_8 tb_322 tb_333 tb_334 ⟨rfl, rfl⟩ tb_278 (by decide) (sup1 C tb_261) (by show _ = some 0; decide +kernel) hl.1 dX6_weightAct_15 ⟨Nat.le_of_ble_eq_true rfl, Nat.le_of_ble_eq_true rfl⟩ rfl (Nat.le_of_ble_eq_true rfl) ⟨Nat.le_of_ble_eq_true rfl, Nat.le_of_ble_eq_true rfl⟩) hS (fun _ h => h) (fun t H locs ht hvm hw _ _ hS => ?_)
  have hw := x_back hw ht hvm
  refine lv_bipush (v := 10) C.1 C.2.1 dX6_weightAct_18 (by decide) ?_
  refine lv_isub C.1 C.2.1 dX6_weightAct_20 ?_
  exact ct_i C hr hlocks rfl (fun t ht hW => x_post hw ht hW) hS (Nat.le_of_ble_eq_true rfl) (Nat.le_of_ble_eq_true rfl) dX6_weightAct_21
end
section
/-! WHAT THE ACTS ARE, as numbers. k: a vehicle's kind; K: the kinds of all. -/
def wR (k : Nat) (F : Nat → Nat → Int32) (i : Nat) : Int32 := if k = 5 then F i 3 + F i 5 + F i 5 / 4 else if k = 7 then F i 3 + F i 5 - 10 else if k = 4 ∨ k = 6 then F i 3 + F i 5 else F i 3
def wBk (k : Nat) (B : Nat → Int32) : Nat → Int32 := if k = 5 then iB (iB (iB B 5) 4) 0 else if k = 7 then iB (iB (iB B 7) 4) 0 else if k = 4 ∨ k = 6 then iB (iB B 4) 0 else iB B 0
/-- TOLL by CART's RULE -/
def tP (k : Nat) (F : Nat → Nat → Int32) (i : Nat) : Int32 := 5 + wR k F i / 100
def tPB (k : Nat) (B : Nat → Int32) : Nat → Int32 := wBk k (iB B 0)
def tR (k : Nat) (F : Nat → Nat → Int32) (i : Nat) (h : Int32) : Int32 :=
  if k = 2 then tP k F i + 10 else if k = 3 then (if 20 ≤ h then 2 * (tP k F i + 10) else if 6 ≤ h then tP k F i + 10 + F i 9 else 2 * (tP k F i + 10)) else if k = 5 then tP k F i + 50
  else if k = 7 then (if 22 ≤ h then 0 else if 5 ≤ h then tP k F i else 0) else if k = 8 then (if F i 5 = 0 then 0 else 100 / F i 5) else tP k F i
def tB (k : Nat) (h : Int32) (B : Nat → Int32) : Nat → Int32 :=
  if k = 2 then tPB k (iB B 2) else if k = 3 then tPB k (iB (iB B 3) 2) else if k = 5 then tPB k (iB B 5)
  else if k = 7 then (if 22 ≤ h then iB B 7 else if 5 ≤ h then tPB k (iB B 7) else iB B 7) else if k = 8 then iB B 8 else tPB k B
/-- TOLL fails by ARITHMETIC -/
def tX (k : Nat) (F : Nat → Nat → Int32) (i : Nat) : Bool := decide (k = 8 ∧ F i 5 = 0)
/-- the WEIGHTS of a row: their sum upon x, and what began by them -/
def sumW (K : Nat → Nat) (F : Nat → Nat → Int32) : List Nat → Int32 → Int32
  | [], x => x
  | v :: t, x => sumW K F t (x + wR (K v) F v)
def sumB (K : Nat → Nat) : List Nat → (Nat → Int32) → (Nat → Int32)
  | [], B => B
  | v :: t, B => sumB K t (wBk (K v) B)
/-- FIT by CART's RULE -/
def fP (K : Nat → Nat) (F : Nat → Nat → Int32) (G : Nat → Int32) (dk : List Nat) (i : Nat) : Bool := decide (G 4 ≠ 0 ∧ sumW K F dk 0 + wR (K i) F i ≤ G 3)
def fPB (K : Nat → Nat) (dk : List Nat) (i : Nat) (B : Nat → Int32) : Nat → Int32 := wBk (K i) (sumB K dk (iB B 0))
def isBus (k : Nat) : Bool := decide (k = 6 ∨ k = 7)
def fR (K : Nat → Nat) (F : Nat → Nat → Int32) (G : Nat → Int32) (dk : List Nat) (i : Nat) : Bool :=
  if K i = 5 then fP K F G dk i && dk.isEmpty else if K i = 7 then fP K F G dk i && !(dk.any (fun v => isBus (K v))) else if K i = 8 then decide (G 4 ≠ 0) else fP K F G dk i
def fB (K : Nat → Nat) (dk : List Nat) (i : Nat) (B : Nat → Int32) : Nat → Int32 :=
  if K i = 5 then fPB K dk i (iB B 5) else if K i = 7 then fPB K dk i (iB B 7) else if K i = 8 then iB B 8 else fPB K dk i B
def b2i (b : Bool) : Int32 := if b = true then 1 else 0
/-- ENTER by CART's RULE: how it ended (0 came on, 1 STOPPED, 2 ARITHMETIC) and the state -/
def pE (K : Nat → Nat) (i : Nat) (h : Int32) (z : SwSt) : Nat × SwSt :=
  if fR K z.1 z.2.2.1 z.2.2.2 i = false then (1, z.1, fB K z.2.2.2 i (iB z.2.1 0), upd z.2.2.1 5 (z.2.2.1 5 + 1), z.2.2.2)
  else if tX (K i) z.1 i = true then (2, z.1, tB (K i) h (fB K z.2.2.2 i (iB z.2.1 0)), upd z.2.2.1 6 (z.2.2.1 6 + 1), z.2.2.2)
  else (0, uF (uF (uF z.1 i 7 (z.1 i 7 + tR (K i) z.1 i h)) i 8 (z.1 i 8 + 1)) i 6 1, tB (K i) h (fB K z.2.2.2 i (iB z.2.1 0)), z.2.2.1, z.2.2.2 ++ [i])
def mn (a b : Int32) : Int32 := if b < a then b else a
def mx (a b : Int32) : Int32 := if a < b then b else a
/-- ENTER -/
def eR (K : Nat → Nat) (i : Nat) (h : Int32) (z : SwSt) : Nat × SwSt :=
  if K i = 3 then pE K i h (uF z.1 i 9 (z.1 i 9 + 1), iB z.2.1 3, z.2.2)
  else if K i = 5 then (if (pE K i h (z.1, iB z.2.1 5, z.2.2)).1 = 0 then (0, (pE K i h (z.1, iB z.2.1 5, z.2.2)).2.1, (pE K i h (z.1, iB z.2.1 5, z.2.2)).2.2.1, upd (pE K i h (z.1, iB z.2.1 5, z.2.2)).2.2.2.1 3 (mx ((pE K i h (z.1, iB z.2.1 5, z.2.2)).2.2.2.1 3 - 100) 0), (pE K i h (z.1, iB z.2.1 5, z.2.2)).2.2.2.2) else pE K i h (z.1, iB z.2.1 5, z.2.2))
  else if K i = 6 ∨ K i = 7 then pE K i h (uF z.1 i 5 (mn (z.1 i 5 + 40) 5000), iB z.2.1 6, z.2.2)
  else if K i = 8 then (if (pE K i h (z.1, iB z.2.1 8, z.2.2)).1 = 1 then pE K i h (pE K i h (z.1, iB z.2.1 8, z.2.2)).2 else pE K i h (z.1, iB z.2.1 8, z.2.2))
  else pE K i h z
/-- LEAVE -/
def lR (K : Nat → Nat) (i : Nat) (z : SwSt) : SwSt :=
  if K i = 3 then (uF (uF z.1 i 6 0) i 9 0, iB (iB z.2.1 3) 0, z.2.2.1, z.2.2.2.erase i)
  else if K i = 5 then (uF (uF z.1 i 6 0) i 5 (z.1 i 5 / 2), iB (iB (iB z.2.1 5) 4) 0, upd z.2.2.1 3 (mn (z.2.2.1 3 + 100) 9000), z.2.2.2.erase i)
  else if K i = 4 ∨ K i = 6 ∨ K i = 7 then (uF (uF z.1 i 6 0) i 5 (z.1 i 5 / 2), iB (iB z.2.1 4) 0, z.2.2.1, z.2.2.2.erase i)
  else (uF z.1 i 6 0, iB z.2.1 0, z.2.2.1, z.2.2.2.erase i)
/-- REBATE -/
def rR (k : Nat) (F : Nat → Nat → Int32) (i : Nat) : Int32 := if k = 2 ∨ k = 3 then mn (F i 4 + 5) 100 else if k = 7 then mn (2 * F i 4) 100 else F i 4
def rB (k : Nat) (B : Nat → Int32) : Nat → Int32 := if k = 2 ∨ k = 3 then iB (iB B 2) 0 else if k = 7 then iB (iB B 7) 0 else iB B 0
def hasAcc (k : Nat) : Bool := decide (k = 3 ∨ k = 6 ∨ k = 7)
/-- BILL, MONTH -/
def bR (k : Nat) (F : Nat → Nat → Int32) (i : Nat) (h : Int32) : Int32 := tR k F i h - tR k F i h * rR k F i / 100
def bB (k : Nat) (h : Int32) (B : Nat → Int32) : Nat → Int32 := rB k (tB k h B)
def mR (k : Nat) (F : Nat → Nat → Int32) (i : Nat) (n : Int32) : Int32 := if k = 7 then 15 * n + bR k F i 23 else 20 * n + bR k F i 12
def mB (k : Nat) (B : Nat → Int32) : Nat → Int32 := if k = 7 then bB k 23 B else bB k 12 B
end
section
section XV1
variable {p : Program} {l : Launch} {e : Env} {R : Room} {s : State} {m : MethodId} {args : Array Value} {below : List Frame} {meth : Method} {c : Code} {H : Heap} {locs : List Loc} {cells slots : Nat}
variable {cc : ByteArray} {nL index pc : Nat} {ls : Array Slot} {rest : List Value} {own : String} {D : va_G} {A : Nat → Prop} {P : SwP} {F : Nat → Nat → Int32} {B G : Nat → Int32} {dk : List Nat} {i : Nat}

theorem ctR_wide {st0 : List Value} {rm rm' : Room} {oc : Option Value ⊕ String} {Post : State → Prop} (h : CtR p l e R s m args below meth c H locs cells slots (F0 m pc ls st0) rest rm A oc Post) (hc : rm.cells ≤ rm'.cells) (hs : rm.slots ≤ rm'.slots) : CtR p l e R s m args below meth c H locs cells slots (F0 m pc ls st0) rest rm' A oc Post := by
  intro T hT X
  rcases h T hT X with ⟨v, st₀, t, T', L, h0, X', r⟩ | ⟨q, st₀, t, T', L, E, ce, h0, X', r⟩
  · exact Or.inl ⟨v, st₀, t, T', L, h0, stand_widen X' (Nat.add_le_add_left hc _) (Nat.add_le_add_left hs _), r⟩
  · exact Or.inr ⟨q, st₀, t, T', L, E, ce, h0, stand_widen X' (Nat.add_le_add_left hc _) (Nat.add_le_add_left hs _), r⟩
set_option maxHeartbeats 400000 in
set_option maxRecDepth 100000 in
theorem v_weight (C : CallFix p m c cc nL s args wB own) (hw : XwR D A P F B G (nI dk.length) (dfd P dk) s H) (hi : i < pn P) (hk : pk P i < 9) (h1 : Cond.methodLink own index ⟨"SwingBridge$Cart", "weightAct", "()I"⟩ ∈ wB) (hsize : ls.size = nL) (hdg : decode cc pc = .ok (.invokevirtual index, 3)) (hR : 3 ≤ R.frames ∧ 60 ≤ R.locals) (hW : (rest.map fun v => v.category).sum ≤ 8) (hf : cells + 0 ≤ R.cells ∧ slots + 0 ≤ R.slots) :
    CtR p l e R s m args below meth c H locs cells slots (F0 m pc ls (.ref (pa P i) :: rest)) rest ({ frames := 2, cells := 0, slots := 0, locals := 40 }) A (.inl (some (.int (wR (pk P i) F i)))) (Xp D A P F (wBk (pk P i) B) G dk) := by
  have hx0 : va_Decl s ⟨"SwingBridge$Cart", "weightAct", "()I"⟩ := va_Decl.of (C.2.2.2.2 _ tb_318) (C.2.2.2.2 _ tb_342)
  rcases (show pk P i = 0 ∨ pk P i = 1 ∨ pk P i = 2 ∨ pk P i = 3 ∨ pk P i = 4 ∨ pk P i = 5 ∨ pk P i = 6 ∨ pk P i = 7 ∨ pk P i = 8 by omega) with e0 | e0 | e0 | e0 | e0 | e0 | e0 | e0 | e0
  · rw [show wR (pk P i) F i = F i 3 by rw [e0]; rfl, show wBk (pk P i) B = iB B 0 by rw [e0]; rfl]
    exact ctR_wide (ct_V C (c_X4_weightAct l D A P F B G dk i hi hk) Xp_bl (Or.inl rfl) tb_342 tb_4 ⟨Nat.le_trans (Nat.le_of_ble_eq_true rfl) hR.1, Nat.le_trans (Nat.le_of_ble_eq_true rfl) hR.2⟩ h1 tb_320 hx0 ⟨by decide, by decide⟩ (CN := cN (pk P i)) (by rw [e0]; exact tb_319) tb_318 (x_recv hw hi hk) (fun U hU hW => x_post hw hU hW) (by show _ = some 0; decide +kernel) hsize rfl hW hdg ⟨Nat.le_trans (Nat.add_le_add_left (Nat.le_of_ble_eq_true rfl) _) hf.1, Nat.le_trans (Nat.add_le_add_left (Nat.le_of_ble_eq_true rfl) _) hf.2⟩) (Nat.le_of_ble_eq_true rfl) (Nat.le_of_ble_eq_true rfl)
  · rw [show wR (pk P i) F i = F i 3 by rw [e0]; rfl, show wBk (pk P i) B = iB B 0 by rw [e0]; rfl]
    exact ctR_wide (ct_V C (c_X4_weightAct l D A P F B G dk i hi hk) Xp_bl (Or.inl rfl) tb_342 tb_4 ⟨Nat.le_trans (Nat.le_of_ble_eq_true rfl) hR.1, Nat.le_trans (Nat.le_of_ble_eq_true rfl) hR.2⟩ h1 tb_320 hx0 ⟨by decide, by decide⟩ (CN := cN (pk P i)) (by rw [e0]; exact tb_341) tb_318 (x_recv hw hi hk) (fun U hU hW => x_post hw hU hW) (by show _ = some 0; decide +kernel) hsize rfl hW hdg ⟨Nat.le_trans (Nat.add_le_add_left (Nat.le_of_ble_eq_true rfl) _) hf.1, Nat.le_trans (Nat.add_le_add_left (Nat.le_of_ble_eq_true rfl) _) hf.2⟩) (Nat.le_of_ble_eq_true rfl) (Nat.le_of_ble_eq_true rfl)
  · rw [show wR (pk P i) F i = F i 3 by rw [e0]; rfl, show wBk (pk P i) B = iB B 0 by rw [e0]; rfl]
    exact ctR_wide (ct_V C (c_X4_weightAct l D A P F B G dk i hi hk) Xp_bl (Or.inl rfl) tb_342 tb_4 ⟨Nat.le_trans (Nat.le_of_ble_eq_true rfl) hR.1, Nat.le_trans (Nat.le_of_ble_eq_true rfl) hR.2⟩ h1 tb_320 hx0 ⟨by decide, by decide⟩ (CN := cN (pk P i)) (by rw [e0]; exact tb_328) tb_318 (x_recv hw hi hk) (fun U hU hW => x_post hw hU hW) (by show _ = some 0; decide +kernel) hsize rfl hW hdg ⟨Nat.le_trans (Nat.add_le_add_left (Nat.le_of_ble_eq_true rfl) _) hf.1, Nat.le_trans (Nat.add_le_add_left (Nat.le_of_ble_eq_true rfl) _) hf.2⟩) (Nat.le_of_ble_eq_true rfl) (Nat.le_of_ble_eq_true rfl)
  · rw [show wR (pk P i) F i = F i 3 by rw [e0]; rfl, show wBk (pk P i) B = iB B 0 by rw [e0]; rfl]
    exact ctR_wide (ct_V C (c_X4_weightAct l D A P F B G dk i hi hk) Xp_bl (Or.inl rfl) tb_342 tb_4 ⟨Nat.le_trans (Nat.le_of_ble_eq_true rfl) hR.1, Nat.le_trans (Nat.le_of_ble_eq_true rfl) hR.2⟩ h1 tb_320 hx0 ⟨by decide, by decide⟩ (CN := cN (pk P i)) (by rw [e0]; exact tb_327) tb_318 (x_recv hw hi hk) (fun U hU hW => x_post hw hU hW) (by show _ = some 0; decide +kernel) hsize rfl hW hdg ⟨Nat.le_trans (Nat.add_le_add_left (Nat.le_of_ble_eq_true rfl) _) hf.1, Nat.le_trans (Nat.add_le_add_left (Nat.le_of_ble_eq_true rfl) _) hf.2⟩) (Nat.le_of_ble_eq_true rfl) (Nat.le_of_ble_eq_true rfl)
  · rw [show wR (pk P i) F i = F i 3 + F i 5 by rw [e0]; rfl, show wBk (pk P i) B = iB (iB B 4) 0 by rw [e0]; rfl]
    exact ctR_wide (ct_V C (c_X7_weightAct l D A P F B G dk i hi hk) Xp_bl (Or.inl rfl) tb_323 tb_8 ⟨Nat.le_trans (Nat.le_of_ble_eq_true rfl) hR.1, Nat.le_trans (Nat.le_of_ble_eq_true rfl) hR.2⟩ h1 tb_320 hx0 ⟨by decide, by decide⟩ (CN := cN (pk P i)) (by rw [e0]; exact tb_336) tb_322 (x_recv hw hi hk) (fun U hU hW => x_post hw hU hW) (by show _ = some 0; decide +kernel) hsize rfl hW hdg ⟨Nat.le_trans (Nat.add_le_add_left (Nat.le_of_ble_eq_true rfl) _) hf.1, Nat.le_trans (Nat.add_le_add_left (Nat.le_of_ble_eq_true rfl) _) hf.2⟩) (Nat.le_of_ble_eq_true rfl) (Nat.le_of_ble_eq_true rfl)
  · rw [show wR (pk P i) F i = F i 3 + F i 5 + F i 5 / 4 by rw [e0]; rfl, show wBk (pk P i) B = iB (iB (iB B 5) 4) 0 by rw [e0]; rfl]
    exact ctR_wide (ct_V C (c_X8_weightAct l D A P F B G dk i hi hk) Xp_bl (Or.inl rfl) tb_339 tb_9 ⟨Nat.le_trans (Nat.le_of_ble_eq_true rfl) hR.1, Nat.le_trans (Nat.le_of_ble_eq_true rfl) hR.2⟩ h1 tb_320 hx0 ⟨by decide, by decide⟩ (CN := cN (pk P i)) (by rw [e0]; exact tb_337) tb_338 (x_recv hw hi hk) (fun U hU hW => x_post hw hU hW) (by show _ = some 0; decide +kernel) hsize rfl hW hdg ⟨Nat.le_trans (Nat.add_le_add_left (Nat.le_of_ble_eq_true rfl) _) hf.1, Nat.le_trans (Nat.add_le_add_left (Nat.le_of_ble_eq_true rfl) _) hf.2⟩) (Nat.le_of_ble_eq_true rfl) (Nat.le_of_ble_eq_true rfl)
  · rw [show wR (pk P i) F i = F i 3 + F i 5 by rw [e0]; rfl, show wBk (pk P i) B = iB (iB B 4) 0 by rw [e0]; rfl]
    exact ctR_wide (ct_V C (c_X7_weightAct l D A P F B G dk i hi hk) Xp_bl (Or.inl rfl) tb_323 tb_8 ⟨Nat.le_trans (Nat.le_of_ble_eq_true rfl) hR.1, Nat.le_trans (Nat.le_of_ble_eq_true rfl) hR.2⟩ h1 tb_320 hx0 ⟨by decide, by decide⟩ (CN := cN (pk P i)) (by rw [e0]; exact tb_321) tb_322 (x_recv hw hi hk) (fun U hU hW => x_post hw hU hW) (by show _ = some 0; decide +kernel) hsize rfl hW hdg ⟨Nat.le_trans (Nat.add_le_add_left (Nat.le_of_ble_eq_true rfl) _) hf.1, Nat.le_trans (Nat.add_le_add_left (Nat.le_of_ble_eq_true rfl) _) hf.2⟩) (Nat.le_of_ble_eq_true rfl) (Nat.le_of_ble_eq_true rfl)
  · rw [show wR (pk P i) F i = F i 3 + F i 5 - 10 by rw [e0]; rfl, show wBk (pk P i) B = iB (iB (iB B 7) 4) 0 by rw [e0]; rfl]
    exact ctR_wide (ct_V C (c_X6_weightAct l D A P F B G dk i hi hk) Xp_bl (Or.inl rfl) tb_332 tb_11 ⟨Nat.le_trans (Nat.le_of_ble_eq_true rfl) hR.1, Nat.le_trans (Nat.le_of_ble_eq_true rfl) hR.2⟩ h1 tb_320 hx0 ⟨by decide, by decide⟩ (CN := cN (pk P i)) (by rw [e0]; exact tb_330) tb_331 (x_recv hw hi hk) (fun U hU hW => x_post hw hU hW) (by show _ = some 0; decide +kernel) hsize rfl hW hdg ⟨Nat.le_trans (Nat.add_le_add_left (Nat.le_of_ble_eq_true rfl) _) hf.1, Nat.le_trans (Nat.add_le_add_left (Nat.le_of_ble_eq_true rfl) _) hf.2⟩) (Nat.le_of_ble_eq_true rfl) (Nat.le_of_ble_eq_true rfl)
  · rw [show wR (pk P i) F i = F i 3 by rw [e0]; rfl, show wBk (pk P i) B = iB B 0 by rw [e0]; rfl]
    exact ctR_wide (ct_V C (c_X4_weightAct l D A P F B G dk i hi hk) Xp_bl (Or.inl rfl) tb_342 tb_4 ⟨Nat.le_trans (Nat.le_of_ble_eq_true rfl) hR.1, Nat.le_trans (Nat.le_of_ble_eq_true rfl) hR.2⟩ h1 tb_320 hx0 ⟨by decide, by decide⟩ (CN := cN (pk P i)) (by rw [e0]; exact tb_329) tb_318 (x_recv hw hi hk) (fun U hU hW => x_post hw hU hW) (by show _ = some 0; decide +kernel) hsize rfl hW hdg ⟨Nat.le_trans (Nat.add_le_add_left (Nat.le_of_ble_eq_true rfl) _) hf.1, Nat.le_trans (Nat.add_le_add_left (Nat.le_of_ble_eq_true rfl) _) hf.2⟩) (Nat.le_of_ble_eq_true rfl) (Nat.le_of_ble_eq_true rfl)
end XV1
end
section
theorem h_mmin : Cond.code Lib.Math.min.name Lib.Math.min.code 2 (some .int) ∈ wB := tb_405
theorem h_mmax : Cond.code Lib.Math.max.name Lib.Math.max.code 2 (some .int) ∈ wB := tb_637
set_option maxHeartbeats 400000 in
set_option maxRecDepth 100000 in
/-- CART: 5 + WEIGHT / 100 -/
theorem c_X4_tollAct (l : Launch) (D : va_G) (A : Nat → Prop) (P : SwP) (F : Nat → Nat → Int32) (B G : Nat → Int32) (dk : List Nat) (i : Nat) (h : Int32) (hi : i < pn P) (hk : pk P i < 9) : Ct l yX4_tollAct (.code yX4_tollAct cX4_tollAct 2 (some .int)) ({ frames := 3, cells := 0, slots := 0, locals := 60 }) A [.ref (pa P i), .int h] (Xp D A P F B G dk) (.inl (some (.int (tP (pk P i) F i)))) (Xp D A P F (tPB (pk P i) B) G dk) := by
  refine ct_mk (by decide) (Nat.le_of_ble_eq_true rfl) (fun p e s m below meth c ls C hr hlocks hnm htab hP hl => ?_)
  have hw := hP
  have hS : va_S A s.heap s.heap [] := va_S.rf
  have hl : lv_has ls 2 [(0, .ref (pa P i)), (1, .int (h))] := hl
  refine x_begun C hw hi hk tb_111 (Or.inl rfl) tb_38 (lv_at hl 0 rfl) dX4_tollAct_0 dX4_tollAct_1 dX4_tollAct_4 ?_
  refine lv_iconst (v := 0) C.1 C.2.1 dX4_tollAct_7 (by decide) ?_
  refine x_inc C hw hS (j := 0) (by decide) (by decide) dX4_tollAct_8 dX4_tollAct_9 dX4_tollAct_10 dX4_tollAct_11 dX4_tollAct_12 (fun H locs hw hS => ?_)
  refine lv_iconst (v := 5) C.1 C.2.1 dX4_tollAct_13 (by decide) ?_
  refine lv_aload_n C.1 C.2.1 dX4_tollAct_14 rfl (lv_at hl 0 rfl) ?_
  refine ct_ret (v_weight C hw hi hk tb_375 hl.1 dX4_tollAct_15 ⟨Nat.le_of_ble_eq_true rfl, Nat.le_of_ble_eq_true rfl⟩ (Nat.le_of_ble_eq_true rfl) ⟨Nat.le_of_ble_eq_true rfl, Nat.le_of_ble_eq_true rfl⟩) hS (fun _ h => h) (fun t H locs ht hvm hw _ _ hS => ?_)
  have hw := x_back hw ht hvm
  refine lv_bipush (v := 100) C.1 C.2.1 dX4_tollAct_18 (by decide) ?_
  refine lv_idiv C.1 C.2.1 dX4_tollAct_20 (by decide) ?_
  refine lv_iadd C.1 C.2.1 dX4_tollAct_21 ?_
  exact ct_i C hr hlocks rfl (fun t ht hW => x_post hw ht hW) hS (Nat.le_of_ble_eq_true rfl) (Nat.le_of_ble_eq_true rfl) dX4_tollAct_22
set_option maxHeartbeats 400000 in
set_option maxRecDepth 100000 in
/-- CAR: UNDER + 10 -/
theorem c_X3_tollAct (l : Launch) (D : va_G) (A : Nat → Prop) (P : SwP) (F : Nat → Nat → Int32) (B G : Nat → Int32) (dk : List Nat) (i : Nat) (h : Int32) (hi : i < pn P) (hk : pk P i < 9) : Ct l yX3_tollAct (.code yX3_tollAct cX3_tollAct 2 (some .int)) ({ frames := 4, cells := 0, slots := 0, locals := 81 }) A [.ref (pa P i), .int h] (Xp D A P F B G dk) (.inl (some (.int (tP (pk P i) F i + 10)))) (Xp D A P F (tPB (pk P i) (iB B 2)) G dk) := by
  refine ct_mk (by decide) (Nat.le_of_ble_eq_true rfl) (fun p e s m below meth c ls C hr hlocks hnm htab hP hl => ?_)
  have hw := hP
  have hS : va_S A s.heap s.heap [] := va_S.rf
  have hl : lv_has ls 2 [(0, .ref (pa P i)), (1, .int (h))] := hl
  refine x_begun C hw hi hk tb_120 (Or.inr tb_121) tb_43 (lv_at hl 0 rfl) dX3_tollAct_0 dX3_tollAct_1 dX3_tollAct_4 ?_
  refine lv_iconst (v := 2) C.1 C.2.1 dX3_tollAct_7 (by decide) ?_
  refine x_inc C hw hS (j := 2) (by decide) (by decide) dX3_tollAct_8 dX3_tollAct_9 dX3_tollAct_10 dX3_tollAct_11 dX3_tollAct_12 (fun H locs hw hS => ?_)
  refine lv_aload_n C.1 C.2.1 dX3_tollAct_13 rfl (lv_at hl 0 rfl) ?_
  refine lv_iload_n C.1 C.2.1 dX3_tollAct_14 rfl (lv_at hl 1 rfl) ?_
  refine ct_ret (x_SU C hw hi hk (c_X4_tollAct l D A P _ _ _ _ i h hi hk) Xp_bl (fun U hU hW => x_post hw hU hW) tb_571 tb_4 tb_475 tb_485 tb_486 ⟨rfl, rfl⟩ tb_193 (by decide) (sup1 C tb_176) (by show _ = some 1; decide +kernel) hl.1 dX3_tollAct_15 ⟨Nat.le_of_ble_eq_true rfl, Nat.le_of_ble_eq_true rfl⟩ rfl (Nat.le_of_ble_eq_true rfl) ⟨Nat.le_of_ble_eq_true rfl, Nat.le_of_ble_eq_true rfl⟩) hS (fun _ h => h) (fun t H locs ht hvm hw _ _ hS => ?_)
  have hw := x_back hw ht hvm
  refine lv_bipush (v := 10) C.1 C.2.1 dX3_tollAct_18 (by decide) ?_
  refine lv_iadd C.1 C.2.1 dX3_tollAct_20 ?_
  exact ct_i C hr hlocks rfl (fun t ht hW => x_post hw ht hW) hS (Nat.le_of_ble_eq_true rfl) (Nat.le_of_ble_eq_true rfl) dX3_tollAct_21
set_option maxHeartbeats 400000 in
set_option maxRecDepth 100000 in
/-- CAB -/
theorem c_X2_tollAct (l : Launch) (D : va_G) (A : Nat → Prop) (P : SwP) (F : Nat → Nat → Int32) (B G : Nat → Int32) (dk : List Nat) (i : Nat) (h : Int32) (hi : i < pn P) (hk : pk P i < 9) : Ct l yX2_tollAct (.code yX2_tollAct cX2_tollAct 3 (some .int)) ({ frames := 5, cells := 0, slots := 0, locals := 102 }) A [.ref (pa P i), .int h] (Xp D A P F B G dk) (.inl (some (.int (if 20 ≤ h then 2 * (tP (pk P i) F i + 10) else if 6 ≤ h then tP (pk P i) F i + 10 + F i 9 else 2 * (tP (pk P i) F i + 10))))) (Xp D A P F (tPB (pk P i) (iB (iB B 3) 2)) G dk) := by
  refine ct_mk (by decide) (Nat.le_of_ble_eq_true rfl) (fun p e s m below meth c ls C hr hlocks hnm htab hP hl => ?_)
  have hw := hP
  have hS : va_S A s.heap s.heap [] := va_S.rf
  have hl : lv_has ls 3 [(0, .ref (pa P i)), (1, .int (h))] := hl
  refine x_begun C hw hi hk tb_118 (Or.inr tb_119) tb_42 (lv_at hl 0 rfl) dX2_tollAct_0 dX2_tollAct_1 dX2_tollAct_4 ?_
  refine lv_iconst (v := 3) C.1 C.2.1 dX2_tollAct_7 (by decide) ?_
  refine x_inc C hw hS (j := 3) (by decide) (by decide) dX2_tollAct_8 dX2_tollAct_9 dX2_tollAct_10 dX2_tollAct_11 dX2_tollAct_12 (fun H locs hw hS => ?_)
  refine lv_aload_n C.1 C.2.1 dX2_tollAct_13 rfl (lv_at hl 0 rfl) ?_
  refine lv_iload_n C.1 C.2.1 dX2_tollAct_14 rfl (lv_at hl 1 rfl) ?_
  refine ct_ret (x_SU C hw hi hk (c_X3_tollAct l D A P _ _ _ _ i h hi hk) Xp_bl (fun U hU hW => x_post hw hU hW) tb_484 tb_6 tb_483 tb_482 tb_888 ⟨rfl, rfl⟩ tb_210 (by decide) sup0 (by show _ = some 1; decide +kernel) hl.1 dX2_tollAct_15 ⟨Nat.le_of_ble_eq_true rfl, Nat.le_of_ble_eq_true rfl⟩ rfl (Nat.le_of_ble_eq_true rfl) ⟨Nat.le_of_ble_eq_true rfl, Nat.le_of_ble_eq_true rfl⟩) hS (fun _ h => h) (fun t H locs ht hvm hw _ _ hS => ?_)
  have hw := x_back hw ht hvm
  refine lv_istore_n (lv' := [(2, .int (tP (pk P i) F i + 10)), (0, .ref (pa P i)), (1, .int (h))]) C.1 C.2.1 dX2_tollAct_18 rfl hl (by decide) rfl (fun ls hl => ?_)
  refine lv_iload_n C.1 C.2.1 dX2_tollAct_19 rfl (lv_at hl 2 rfl) ?_
  refine lv_bipush (v := 20) C.1 C.2.1 dX2_tollAct_20 (by decide) ?_
  refine lv_icmp_ge (tgt := 31) C.1 C.2.1 dX2_tollAct_22 (by decide) (fun h1 => ?_) (fun h1 => ?_)
  · refine lv_iconst (v := 2) C.1 C.2.1 dX2_tollAct_31 (by decide) ?_
    refine lv_iload_n C.1 C.2.1 dX2_tollAct_32 rfl (lv_at hl 0 rfl) ?_
    refine lv_imul C.1 C.2.1 dX2_tollAct_33 ?_
    exact ct_i C hr hlocks (by rw [if_pos h1]) (fun t ht hW => x_post hw ht hW) hS (Nat.le_of_ble_eq_true rfl) (Nat.le_of_ble_eq_true rfl) dX2_tollAct_34
  · refine lv_iload_n C.1 C.2.1 dX2_tollAct_25 rfl (lv_at hl 2 rfl) ?_
    refine lv_bipush (v := 6) C.1 C.2.1 dX2_tollAct_26 (by decide) ?_
    refine lv_icmp_ge (tgt := 35) C.1 C.2.1 dX2_tollAct_28 (by decide) (fun h2 => ?_) (fun h2 => ?_)
    · refine lv_iload_n C.1 C.2.1 dX2_tollAct_35 rfl (lv_at hl 0 rfl) ?_
      refine lv_aload_n C.1 C.2.1 dX2_tollAct_36 rfl (lv_at hl 1 rfl) ?_
      refine xv_get C hw hi hk 9 (by decide) tb_153 (Or.inr tb_154) rfl dX2_tollAct_37 ?_
      refine lv_iadd C.1 C.2.1 dX2_tollAct_40 ?_
      exact ct_i C hr hlocks (by rw [if_neg h1, if_pos h2]) (fun t ht hW => x_post hw ht hW) hS (Nat.le_of_ble_eq_true rfl) (Nat.le_of_ble_eq_true rfl) dX2_tollAct_41
    · refine lv_iconst (v := 2) C.1 C.2.1 dX2_tollAct_31 (by decide) ?_
      refine lv_iload_n C.1 C.2.1 dX2_tollAct_32 rfl (lv_at hl 0 rfl) ?_
      refine lv_imul C.1 C.2.1 dX2_tollAct_33 ?_
      exact ct_i C hr hlocks (by rw [if_neg h1, if_neg h2]) (fun t ht hW => x_post hw ht hW) hS (Nat.le_of_ble_eq_true rfl) (Nat.le_of_ble_eq_true rfl) dX2_tollAct_34
set_option maxHeartbeats 400000 in
set_option maxRecDepth 100000 in
/-- TANKER: UNDER + 50 -/
theorem c_X8_tollAct (l : Launch) (D : va_G) (A : Nat → Prop) (P : SwP) (F : Nat → Nat → Int32) (B G : Nat → Int32) (dk : List Nat) (i : Nat) (h : Int32) (hi : i < pn P) (hk : pk P i < 9) : Ct l yX8_tollAct (.code yX8_tollAct cX8_tollAct 2 (some .int)) ({ frames := 4, cells := 0, slots := 0, locals := 81 }) A [.ref (pa P i), .int h] (Xp D A P F B G dk) (.inl (some (.int (tP (pk P i) F i + 50)))) (Xp D A P F (tPB (pk P i) (iB B 5)) G dk) := by
  refine ct_mk (by decide) (Nat.le_of_ble_eq_true rfl) (fun p e s m below meth c ls C hr hlocks hnm htab hP hl => ?_)
  have hw := hP
  have hS : va_S A s.heap s.heap [] := va_S.rf
  have hl : lv_has ls 2 [(0, .ref (pa P i)), (1, .int (h))] := hl
  refine x_begun C hw hi hk tb_116 (Or.inr tb_117) tb_41 (lv_at hl 0 rfl) dX8_tollAct_0 dX8_tollAct_1 dX8_tollAct_4 ?_
  refine lv_iconst (v := 5) C.1 C.2.1 dX8_tollAct_7 (by decide) ?_
  refine x_inc C hw hS (j := 5) (by decide) (by decide) dX8_tollAct_8 dX8_tollAct_9 dX8_tollAct_10 dX8_tollAct_11 dX8_tollAct_12 (fun H locs hw hS => ?_)
  refine lv_aload_n C.1 C.2.1 dX8_tollAct_13 rfl (lv_at hl 0 rfl) ?_
  refine lv_iload_n C.1 C.2.1 dX8_tollAct_14 rfl (lv_at hl 1 rfl) ?_
  refine ct_ret (x_SU C hw hi hk (c_X4_tollAct l D A P _ _ _ _ i h hi hk) Xp_bl (fun U hU hW => x_post hw hU hW) tb_571 tb_4 tb_475 tb_568 tb_569 ⟨rfl, rfl⟩ tb_244 (by decide) (sup2 C hw tb_227 tb_176) (by show _ = some 1; decide +kernel) hl.1 dX8_tollAct_15 ⟨Nat.le_of_ble_eq_true rfl, Nat.le_of_ble_eq_true rfl⟩ rfl (Nat.le_of_ble_eq_true rfl) ⟨Nat.le_of_ble_eq_true rfl, Nat.le_of_ble_eq_true rfl⟩) hS (fun _ h => h) (fun t H locs ht hvm hw _ _ hS => ?_)
  have hw := x_back hw ht hvm
  refine lv_bipush (v := 50) C.1 C.2.1 dX8_tollAct_18 (by decide) ?_
  refine lv_iadd C.1 C.2.1 dX8_tollAct_20 ?_
  exact ct_i C hr hlocks rfl (fun t ht hW => x_post hw ht hW) hS (Nat.le_of_ble_eq_true rfl) (Nat.le_of_ble_eq_true rfl) dX8_tollAct_21
set_option maxHeartbeats 400000 in
set_option maxRecDepth 100000 in
/-- LATE BUS -/
theorem c_X6_tollAct (l : Launch) (D : va_G) (A : Nat → Prop) (P : SwP) (F : Nat → Nat → Int32) (B G : Nat → Int32) (dk : List Nat) (i : Nat) (h : Int32) (hi : i < pn P) (hk : pk P i < 9) : Ct l yX6_tollAct (.code yX6_tollAct cX6_tollAct 2 (some .int)) ({ frames := 4, cells := 0, slots := 0, locals := 81 }) A [.ref (pa P i), .int h] (Xp D A P F B G dk) (.inl (some (.int (if 22 ≤ h then 0 else if 5 ≤ h then tP (pk P i) F i else 0)))) (Xp D A P F (if 22 ≤ h then iB B 7 else if 5 ≤ h then tPB (pk P i) (iB B 7) else iB B 7) G dk) := by
  refine ct_mk (by decide) (Nat.le_of_ble_eq_true rfl) (fun p e s m below meth c ls C hr hlocks hnm htab hP hl => ?_)
  have hw := hP
  have hS : va_S A s.heap s.heap [] := va_S.rf
  have hl : lv_has ls 2 [(0, .ref (pa P i)), (1, .int (h))] := hl
  refine x_begun C hw hi hk tb_114 (Or.inr tb_115) tb_40 (lv_at hl 0 rfl) dX6_tollAct_0 dX6_tollAct_1 dX6_tollAct_4 ?_
  refine lv_bipush (v := 7) C.1 C.2.1 dX6_tollAct_7 (by decide) ?_
  refine x_inc C hw hS (j := 7) (by decide) (by decide) dX6_tollAct_9 dX6_tollAct_10 dX6_tollAct_11 dX6_tollAct_12 dX6_tollAct_13 (fun H locs hw hS => ?_)
  refine lv_iload_n C.1 C.2.1 dX6_tollAct_14 rfl (lv_at hl 1 rfl) ?_
  refine lv_bipush (v := 22) C.1 C.2.1 dX6_tollAct_15 (by decide) ?_
  refine lv_icmp_ge (tgt := 25) C.1 C.2.1 dX6_tollAct_17 (by decide) (fun h1 => ?_) (fun h1 => ?_)
  · refine lv_iconst (v := 0) C.1 C.2.1 dX6_tollAct_25 (by decide) ?_
    exact ct_i C hr hlocks (by rw [if_pos h1]) (fun t ht hW => by rw [if_pos h1]; exact x_post hw ht hW) hS (Nat.le_of_ble_eq_true rfl) (Nat.le_of_ble_eq_true rfl) dX6_tollAct_26
  · refine lv_iload_n C.1 C.2.1 dX6_tollAct_20 rfl (lv_at hl 1 rfl) ?_
    refine lv_iconst (v := 5) C.1 C.2.1 dX6_tollAct_21 (by decide) ?_
    refine lv_icmp_ge (tgt := 27) C.1 C.2.1 dX6_tollAct_22 (by decide) (fun h2 => ?_) (fun h2 => ?_)
    · refine lv_aload_n C.1 C.2.1 dX6_tollAct_27 rfl (lv_at hl 0 rfl) ?_
      refine lv_iload_n C.1 C.2.1 dX6_tollAct_28 rfl (lv_at hl 1 rfl) ?_
      refine ct_ret (x_SU C hw hi hk (c_X4_tollAct l D A P _ _ _ _ i h hi hk) Xp_bl (fun U hU hW => x_post hw hU hW) tb_571 tb_4 tb_475 tb_562 tb_563 ⟨rfl, rfl⟩ tb_278 (by decide) (sup3 C hw tb_261 tb_227 tb_176) (by show _ = some 1; decide +kernel) hl.1 dX6_tollAct_29 ⟨Nat.le_of_ble_eq_true rfl, Nat.le_of_ble_eq_true rfl⟩ rfl (Nat.le_of_ble_eq_true rfl) ⟨Nat.le_of_ble_eq_true rfl, Nat.le_of_ble_eq_true rfl⟩) hS (fun _ h => h) (fun t H locs ht hvm hw _ _ hS => ?_)
      have hw := x_back hw ht hvm
      exact ct_i C hr hlocks (by rw [if_neg h1, if_pos h2]) (fun t ht hW => by rw [if_neg h1, if_pos h2]; exact x_post hw ht hW) hS (Nat.le_of_ble_eq_true rfl) (Nat.le_of_ble_eq_true rfl) dX6_tollAct_32
    · refine lv_iconst (v := 0) C.1 C.2.1 dX6_tollAct_25 (by decide) ?_
      exact ct_i C hr hlocks (by rw [if_neg h1, if_neg h2]) (fun t ht hW => by rw [if_neg h1, if_neg h2]; exact x_post hw ht hW) hS (Nat.le_of_ble_eq_true rfl) (Nat.le_of_ble_eq_true rfl) dX6_tollAct_26
set_option maxHeartbeats 400000 in
set_option maxRecDepth 100000 in
/-- CART: SHARE -/
theorem c_X4_rebateAct (l : Launch) (D : va_G) (A : Nat → Prop) (P : SwP) (F : Nat → Nat → Int32) (B G : Nat → Int32) (dk : List Nat) (i : Nat) (hi : i < pn P) (hk : pk P i < 9) : Ct l yX4_rebateAct (.code yX4_rebateAct cX4_rebateAct 1 (some .int)) ({ frames := 0, cells := 0, slots := 0, locals := 0 }) A [.ref (pa P i)] (Xp D A P F B G dk) (.inl (some (.int (F i 4)))) (Xp D A P F (iB B 0) G dk) := by
  refine ct_mk (by decide) (Nat.le_of_ble_eq_true rfl) (fun p e s m below meth c ls C hr hlocks hnm htab hP hl => ?_)
  have hw := hP
  have hS : va_S A s.heap s.heap [] := va_S.rf
  have hl : lv_has ls 1 [(0, .ref (pa P i))] := hl
  refine x_begun C hw hi hk tb_111 (Or.inl rfl) tb_38 (lv_at hl 0 rfl) dX4_rebateAct_0 dX4_rebateAct_1 dX4_rebateAct_4 ?_
  refine lv_iconst (v := 0) C.1 C.2.1 dX4_rebateAct_7 (by decide) ?_
  refine x_inc C hw hS (j := 0) (by decide) (by decide) dX4_rebateAct_8 dX4_rebateAct_9 dX4_rebateAct_10 dX4_rebateAct_11 dX4_rebateAct_12 (fun H locs hw hS => ?_)
  refine lv_aload_n C.1 C.2.1 dX4_rebateAct_13 rfl (lv_at hl 0 rfl) ?_
  refine xv_get C hw hi hk 4 (by decide) tb_134 (Or.inl rfl) rfl dX4_rebateAct_14 ?_
  exact ct_i C hr hlocks rfl (fun t ht hW => x_post hw ht hW) hS (Nat.le_of_ble_eq_true rfl) (Nat.le_of_ble_eq_true rfl) dX4_rebateAct_17
set_option maxHeartbeats 400000 in
set_option maxRecDepth 100000 in
/-- CAR: UNDER + 5, at most 100 -/
theorem c_X3_rebateAct (l : Launch) (D : va_G) (A : Nat → Prop) (P : SwP) (F : Nat → Nat → Int32) (B G : Nat → Int32) (dk : List Nat) (i : Nat) (hi : i < pn P) (hk : pk P i < 9) : Ct l yX3_rebateAct (.code yX3_rebateAct cX3_rebateAct 1 (some .int)) ({ frames := 1, cells := 0, slots := 0, locals := 20 }) A [.ref (pa P i)] (Xp D A P F B G dk) (.inl (some (.int (mn (F i 4 + 5) 100)))) (Xp D A P F (iB (iB B 2) 0) G dk) := by
  refine ct_mk (by decide) (Nat.le_of_ble_eq_true rfl) (fun p e s m below meth c ls C hr hlocks hnm htab hP hl => ?_)
  have hw := hP
  have hS : va_S A s.heap s.heap [] := va_S.rf
  have hl : lv_has ls 1 [(0, .ref (pa P i))] := hl
  refine x_begun C hw hi hk tb_120 (Or.inr tb_121) tb_43 (lv_at hl 0 rfl) dX3_rebateAct_0 dX3_rebateAct_1 dX3_rebateAct_4 ?_
  refine lv_iconst (v := 2) C.1 C.2.1 dX3_rebateAct_7 (by decide) ?_
  refine x_inc C hw hS (j := 2) (by decide) (by decide) dX3_rebateAct_8 dX3_rebateAct_9 dX3_rebateAct_10 dX3_rebateAct_11 dX3_rebateAct_12 (fun H locs hw hS => ?_)
  refine lv_aload_n C.1 C.2.1 dX3_rebateAct_13 rfl (lv_at hl 0 rfl) ?_
  refine ct_ret (x_SU C hw hi hk (c_X4_rebateAct l D A P _ _ _ _ i hi hk) Xp_bl (fun U hU hW => x_post hw hU hW) tb_439 tb_4 tb_417 tb_424 tb_425 ⟨rfl, rfl⟩ tb_193 (by decide) (sup1 C tb_176) (by show _ = some 0; decide +kernel) hl.1 dX3_rebateAct_14 ⟨Nat.le_of_ble_eq_true rfl, Nat.le_of_ble_eq_true rfl⟩ rfl (Nat.le_of_ble_eq_true rfl) ⟨Nat.le_of_ble_eq_true rfl, Nat.le_of_ble_eq_true rfl⟩) hS (fun _ h => h) (fun t H locs ht hvm hw _ _ hS => ?_)
  have hw := x_back hw ht hvm
  refine lv_iconst (v := 5) C.1 C.2.1 dX3_rebateAct_17 (by decide) ?_
  refine lv_iadd C.1 C.2.1 dX3_rebateAct_18 ?_
  refine lv_bipush (v := 100) C.1 C.2.1 dX3_rebateAct_19 (by decide) ?_
  refine va_mmin C.1 C.2.1 (by rw [C.2.2.1]; exact hl.1.symm) C.2.2.2.1 (C.2.2.2.2 _ tb_427) (C.2.2.2.2 _ tb_404) (C.2.2.2.2 _ tb_18) (C.2.2.2.2 _ h_mmin) (Nat.le_of_ble_eq_true rfl) (Nat.le_of_ble_eq_true rfl) (Nat.le_of_ble_eq_true rfl) (Nat.le_of_ble_eq_true rfl) dX3_rebateAct_21 ?_
  exact ct_i C hr hlocks rfl (fun t ht hW => x_post hw ht hW) hS (Nat.le_of_ble_eq_true rfl) (Nat.le_of_ble_eq_true rfl) dX3_rebateAct_24
set_option maxHeartbeats 400000 in
set_option maxRecDepth 100000 in
/-- LATE BUS: twice UNDER, at most 100 -/
theorem c_X6_rebateAct (l : Launch) (D : va_G) (A : Nat → Prop) (P : SwP) (F : Nat → Nat → Int32) (B G : Nat → Int32) (dk : List Nat) (i : Nat) (hi : i < pn P) (hk : pk P i < 9) : Ct l yX6_rebateAct (.code yX6_rebateAct cX6_rebateAct 1 (some .int)) ({ frames := 1, cells := 0, slots := 0, locals := 20 }) A [.ref (pa P i)] (Xp D A P F B G dk) (.inl (some (.int (mn (2 * F i 4) 100)))) (Xp D A P F (iB (iB B 7) 0) G dk) := by
  refine ct_mk (by decide) (Nat.le_of_ble_eq_true rfl) (fun p e s m below meth c ls C hr hlocks hnm htab hP hl => ?_)
  have hw := hP
  have hS : va_S A s.heap s.heap [] := va_S.rf
  have hl : lv_has ls 1 [(0, .ref (pa P i))] := hl
  refine x_begun C hw hi hk tb_114 (Or.inr tb_115) tb_40 (lv_at hl 0 rfl) dX6_rebateAct_0 dX6_rebateAct_1 dX6_rebateAct_4 ?_
  refine lv_bipush (v := 7) C.1 C.2.1 dX6_rebateAct_7 (by decide) ?_
  refine x_inc C hw hS (j := 7) (by decide) (by decide) dX6_rebateAct_9 dX6_rebateAct_10 dX6_rebateAct_11 dX6_rebateAct_12 dX6_rebateAct_13 (fun H locs hw hS => ?_)
  refine lv_iconst (v := 2) C.1 C.2.1 dX6_rebateAct_14 (by decide) ?_
  refine lv_aload_n C.1 C.2.1 dX6_rebateAct_15 rfl (lv_at hl 0 rfl) ?_
  refine ct_ret (x_SU C hw hi hk (c_X4_rebateAct l D A P _ _ _ _ i hi hk) Xp_bl (fun U hU hW => x_post hw hU hW) tb_439 tb_4 tb_417 tb_433 tb_434 ⟨rfl, rfl⟩ tb_278 (by decide) (sup3 C hw tb_261 tb_227 tb_176) (by show _ = some 0; decide +kernel) hl.1 dX6_rebateAct_16 ⟨Nat.le_of_ble_eq_true rfl, Nat.le_of_ble_eq_true rfl⟩ rfl (Nat.le_of_ble_eq_true rfl) ⟨Nat.le_of_ble_eq_true rfl, Nat.le_of_ble_eq_true rfl⟩) hS (fun _ h => h) (fun t H locs ht hvm hw _ _ hS => ?_)
  have hw := x_back hw ht hvm
  refine lv_imul C.1 C.2.1 dX6_rebateAct_19 ?_
  refine lv_bipush (v := 100) C.1 C.2.1 dX6_rebateAct_20 (by decide) ?_
  refine va_mmin C.1 C.2.1 (by rw [C.2.2.1]; exact hl.1.symm) C.2.2.2.1 (C.2.2.2.2 _ tb_435) (C.2.2.2.2 _ tb_404) (C.2.2.2.2 _ tb_18) (C.2.2.2.2 _ h_mmin) (Nat.le_of_ble_eq_true rfl) (Nat.le_of_ble_eq_true rfl) (Nat.le_of_ble_eq_true rfl) (Nat.le_of_ble_eq_true rfl) dX6_rebateAct_22 ?_
  exact ct_i C hr hlocks rfl (fun t ht hW => x_post hw ht hW) hS (Nat.le_of_ble_eq_true rfl) (Nat.le_of_ble_eq_true rfl) dX6_rebateAct_25
end
section
/-! THE DECK: what its row keeps to; loads out of it; calls on an object of a final kind. -/
/-- the state's own order: at most 24, each kind one of nine and told in field 2, the row's numbers known and apart -/
def Ok (P : SwP) (F : Nat → Nat → Int32) (dk : List Nat) : Prop := pn P ≤ 24 ∧ (∀ j, j < pn P → pk P j < 9) ∧ (∀ j, j < pn P → F j 2 = nI (pk P j)) ∧ (∀ v, v ∈ dk → v < pn P) ∧ dk.Nodup
theorem nodup_le : ∀ (n : Nat) (l : List Nat), l.Nodup → (∀ v, v ∈ l → v < n) → l.length ≤ n
  | 0, l, _, h => by
    cases l with
    | nil => exact Nat.le_refl 0
    | cons a t => exact absurd (h a List.mem_cons_self) (by omega)
  | n + 1, l, hn, h => by
    by_cases hm : n ∈ l
    · have h1 := nodup_le n (l.erase n) (hn.erase n) (fun v hv => by
        have h2 := (hn.mem_erase_iff).mp hv
        have h3 := h v h2.2
        have h4 := h2.1
        omega)
      have h2 := List.length_erase_of_mem hm
      have h3 : 0 < l.length := List.length_pos_of_mem hm
      omega
    · have h1 := nodup_le n l hn (fun v hv => by
        have h3 := h v hv
        have h4 : v ≠ n := fun q => hm (q ▸ hv)
        omega)
      omega
theorem Ok.len {P : SwP} {F : Nat → Nat → Int32} {dk : List Nat} (h : Ok P F dk) : dk.length ≤ 24 := Nat.le_trans (nodup_le _ dk h.2.2.2.2 h.2.2.2.1) h.1
theorem Ok.v {P : SwP} {F : Nat → Nat → Int32} {dk : List Nat} (h : Ok P F dk) {j v : Nat} (hj : dk[j]? = some v) : v < pn P ∧ pk P v < 9 := ⟨h.2.2.2.1 v (List.mem_of_getElem? hj), h.2.1 v (h.2.2.2.1 v (List.mem_of_getElem? hj))⟩
theorem Ok.lt {P : SwP} {F : Nat → Nat → Int32} {dk : List Nat} (h : Ok P F dk) {i : Nat} (hi : i < pn P) (hn : i ∉ dk) : dk.length < 24 := by
  have h1 := nodup_le (pn P) (i :: dk) (List.nodup_cons.mpr ⟨hn, h.2.2.2.2⟩) (fun v hv => by
    rcases List.mem_cons.mp hv with q | q
    · exact q ▸ hi
    · exact h.2.2.2.1 v q)
  have h2 := h.1
  simp only [List.length_cons] at h1
  omega
theorem take_none {dk : List Nat} {j : Nat} (h : dk[j]? = none) : dk.take (j + 1) = dk.take j := by
  have h1 := List.getElem?_eq_none_iff.mp h
  rw [List.take_of_length_le h1, List.take_of_length_le (by omega)]
theorem take_some {dk : List Nat} {j v : Nat} (h : dk[j]? = some v) : dk.take (j + 1) = dk.take j ++ [v] := by
  rw [List.take_add_one, h]
  rfl
theorem take_all {dk : List Nat} {j : Nat} (h : dk.length ≤ j) : dk.take j = dk := List.take_of_length_le h
theorem Asg.moved {s u : State} (h : Asg s) (hvm : s.vm.Alike u.vm) : Asg u := fun k hk comp c0 h1 h2 => by
  rw [hvm.findClass] at h1 h2
  rw [hvm.assignable]
  exact h k hk comp c0 h1 h2
section XDeck
variable {p : Program} {l : Launch} {e : Env} {R : Room} {s : State} {m : MethodId} {args : Array Value} {below : List Frame} {meth : Method} {c : Code} {H : Heap} {locs : List Loc} {cells slots : Nat} {Q : State → Prop}
variable {cc b : ByteArray} {nL mL index pc : Nat} {ls : Array Slot} {st0 rest As : List Value} {own : String} {y : MethodName} {hd : Cond} {ret : Option FieldType} {rm : Room} {Pre Post : State → Prop} {oc : Option Value ⊕ String} {D : va_G} {A : Nat → Prop} {P : SwP} {F : Nat → Nat → Int32} {B G : Nat → Int32} {n : Int32} {fd : Nat → Option Nat} {i a : Nat}
theorem xD_ldN (C : CallFix p m c cc nL s args wB own) (hw : XwR D A P F B G n fd s H) {j : Nat} (hj : j < 24) {x : Int32} (hx : x = nI j) (hv : fd j = none) (hdg : decode cc pc = .ok (.aaload, 1)) (kk : W p l e R s m args below meth c H locs cells slots Q (F0 m (pc + 1) ls (.null :: rest))) : W p l e R s m args below meth c H locs cells slots Q (F0 m pc ls (.int x :: .ref (pD P) :: rest)) :=
  xD_ld C hw hj hx hdg (by rw [hv]; exact kk)
theorem xD_ldS (C : CallFix p m c cc nL s args wB own) (hw : XwR D A P F B G n fd s H) {j v : Nat} (hj : j < 24) {x : Int32} (hx : x = nI j) (hv : fd j = some v) (hdg : decode cc pc = .ok (.aaload, 1)) (kk : W p l e R s m args below meth c H locs cells slots Q (F0 m (pc + 1) ls (.ref v :: rest))) : W p l e R s m args below meth c H locs cells slots Q (F0 m pc ls (.int x :: .ref (pD P) :: rest)) :=
  xD_ld C hw hj hx hdg (by rw [hv]; exact kk)
theorem xV_ldN (C : CallFix p m c cc nL s args wB own) (hw : XwR D A P F B G n fd s H) {j : Nat} (hj : j < 24) {x : Int32} (hx : x = nI j) (hv : ¬ j < pn P) (hdg : decode cc pc = .ok (.aaload, 1)) (kk : W p l e R s m args below meth c H locs cells slots Q (F0 m (pc + 1) ls (.null :: rest))) : W p l e R s m args below meth c H locs cells slots Q (F0 m pc ls (.int x :: .ref (pV P) :: rest)) :=
  xV_ld C hw hj hx hdg (by rw [show vfd P j = none by simp [vfd, hv]]; exact kk)
theorem xV_ldS (C : CallFix p m c cc nL s args wB own) (hw : XwR D A P F B G n fd s H) {j : Nat} (hj : j < 24) {x : Int32} (hx : x = nI j) (hv : j < pn P) (hdg : decode cc pc = .ok (.aaload, 1)) (kk : W p l e R s m args below meth c H locs cells slots Q (F0 m (pc + 1) ls (.ref (pa P j) :: rest))) : W p l e R s m args below meth c H locs cells slots Q (F0 m pc ls (.int x :: .ref (pV P) :: rest)) :=
  xV_ld C hw hj hx hdg (by rw [show vfd P j = some (pa P j) by simp [vfd, hv]]; exact kk)
/-- y.m(..) on an object whose class has y itself -/
theorem ct_V0 (S : CallFix p m c cc nL s args wB own) (hM : Ct l y hd rm A (.ref a :: As) Pre oc Post) (hbl : Bl Pre) (hhd : Hd y b mL ret hd) (hG : hd ∈ wB) (hini : Cond.initialized y.cls ∈ wB) (hR : rm.frames + 1 ≤ R.frames ∧ 8 + (mL + 11) + rm.locals ≤ R.locals)
    (h1 : Cond.methodLink own index y ∈ wB) (hy : y.cls ≠ "java/lang/invoke/MethodHandle" ∧ y.cls ≠ "java/lang/invoke/VarHandle") (h4 : Cond.selects y.cls y y ∈ wB) (h5 : Cond.instanceMethod y ∈ wB)
    (hrc : ∃ cellB : Cell, H[a]? = some cellB ∧ cellB.vm.isStatics = false ∧ s.vm.findClass y.cls = some cellB.cls) (hpre : ∀ U : State, U.heap = H → s.WarmedH U.vm → Pre U)
    (hsig : ∀ mk methM, s.methodNamed? y = some mk → s.vm.method? mk = some methM → parseMethodDescriptor y.desc = some methM.sig) (hlen : (parseMethodDescriptor y.desc).map (fun d => d.parameters.length) = some As.length) (hsize : ls.size = nL) (hst : st0 = As.reverse ++ .ref a :: rest) (hW : (rest.map fun v => v.category).sum ≤ 8) (hdg : decode cc pc = .ok (.invokevirtual index, 3)) (hf : cells + rm.cells ≤ R.cells ∧ slots + rm.slots ≤ R.slots) :
    CtR p l e R s m args below meth c H locs cells slots (F0 m pc ls st0) rest rm A oc Post := by
  have hK := ct_back (p := p) (e := e) (below := below) (R := R) hM hbl hhd hG hini S.2.2.2.2 hR
  obtain ⟨hx, hb, hml, ho, hts⟩ := S
  obtain ⟨cellB, hcB, hoB, hclB⟩ := hrc
  intro T hT X
  obtain ⟨mk, methM, hnamed, hmethM, hstM, habM⟩ := Cond.instanceMethod_spec (hts _ h5)
  obtain ⟨c2, r2, m2, q1, q2, q3, q4, kP, hkP, hkPi⟩ := Cond.selects_spec (hts _ h4)
  cases hclB.symm.trans q1
  cases (State.methodFound?_of_named hnamed hy).symm.trans q2
  cases hnamed.symm.trans q3
  have hselP : selectMethod e.platform s.vm cellB.cls mk = .method mk := by rw [Launch.admits_selectMethod X.admits]; exact q4
  have hdg' : decode c.code (F0 m pc ls st0).pc = .ok (.invokevirtual index, 3) := by rw [hb]; exact hdg
  obtain ⟨vm₁, X₁, hstep₁⟩ := X.invokevirtual hx ho (hts _ h1) hnamed hmethM hstM hkP hkPi hy (a := a) (cell := cellB) (by rw [hT]; exact hcB)
    (fun z h => by rw [h] at hoB; cases hoB) hselP hmethM habM hkP hkPi (g := F0 m pc ls st0) rfl (argsL := As) (rest := rest) (ct_len hlen _ (hsig mk methM hnamed hmethM)) hst hdg'
  rcases hK m meth c ⟨T.setVm vm₁, locs, cells, slots⟩ (F0 m pc ls rest) (.invokevirtual index) mk (Value.ref a :: As).toArray X₁ rfl (hsize.trans hml.symm) hdg' (by simpa [JFrame.monitorRoom] using hW) (X₁.named hnamed) ⟨hf.1, hf.2, rfl, hpre (T.setVm vm₁) hT X₁.warmed⟩ with ⟨v, ⟨U', l2, c2, s2⟩, X', ⟨g', mk', t, L, e1, e2, hq, h1, hL, h2, h3⟩, hsteps⟩ | ⟨q, ⟨U', l2, c2, s2⟩, X', ⟨g', mk', t, L, E, ce, e1, e2, hq, hce, hcv, hcl, h1, hL, h2, h3⟩, hsteps⟩
  · dsimp only [Pt.U, Pt.locs, Pt.cells, Pt.slots] at X' e1 e2 h1 h2 h3 hsteps
    subst h1; subst h2; subst h3
    exact Or.inl ⟨v, (T.setVm vm₁).calling g' mk' (Value.ref a :: As).toArray, t, U', L, hT, X', hL, e1, e2, hq, fun target h => hstep₁ _ fun acts => by rw [doInvoke_state]; exact hsteps.trans h⟩
  · dsimp only [Pt.U, Pt.locs, Pt.cells, Pt.slots] at X' e1 e2 h1 h2 h3 hsteps hcl
    subst h1; subst h2; subst h3
    exact Or.inr ⟨q, (T.setVm vm₁).calling g' mk' (Value.ref a :: As).toArray, t, U', L, E, ce, hT, X', hL, e1, e2, hq, hce, hcv, vx_cls X₁.warmed hcl, hstep₁ _ fun acts => by rw [doInvoke_state]; exact hsteps⟩
theorem x_recvB (hw : XwR D A P F B G n fd s H) : ∃ cellB : Cell, H[pB P]? = some cellB ∧ cellB.vm.isStatics = false ∧ s.vm.findClass RX0 = some cellB.cls := va_recv (q := (RX0, TX0, 7)) hw.1 hw.2.1 (ci := 9) (q0 := 1) rfl rfl
theorem x_recvS (hw : XwR D A P F B G n fd s H) : ∃ cellB : Cell, H[pS P]? = some cellB ∧ cellB.vm.isStatics = false ∧ s.vm.findClass RX10 = some cellB.cls := va_recv (q := (RX10, TX10, 3)) hw.1 hw.2.1 (ci := 10) (q0 := 0) rfl rfl
end XDeck
end
section
/-- the row's number at place x -/
def dkAt (dk : List Nat) (x : Int32) : Option Nat := if x < 0 then none else dk[x.toNatClampNeg]?
theorem dkAt_nI {dk : List Nat} {j : Nat} (h : j < 2 ^ 31) : dkAt dk (nI j) = dk[j]? := by
  unfold dkAt
  rw [if_neg (nI_pos h), nI_clamp h]
theorem dkAt_ge {dk : List Nat} {x : Int32} (h0 : ¬ x < 0) (h : nI dk.length ≤ x) (hL : dk.length < 2 ^ 31) : dkAt dk x = none := by
  obtain ⟨j, hj, rfl⟩ := nI_of h0
  rw [dkAt_nI hj]
  exact List.getElem?_eq_none ((nI_leI hL hj).mp h)
theorem dfd_push {P : SwP} {dk : List Nat} {i : Nat} : va_up (dfd P dk) dk.length (some (pa P i)) = dfd P (dk ++ [i]) := by
  funext k
  unfold va_up dfd
  by_cases h : k = dk.length
  · subst h
    simp
  · rw [if_neg h]
    by_cases h2 : k < dk.length
    · rw [List.getElem?_append_left h2]
    · rw [List.getElem?_append_right (by omega), List.getElem?_eq_none (by omega : dk.length ≤ k), List.getElem?_eq_none (by simp; omega)]
theorem len_push {dk : List Nat} {i : Nat} : nI dk.length + 1 = nI (dk ++ [i]).length := by
  rw [nI_1, List.length_append]; rfl
/-- the row's cells while letOff is at place j -/
def lfd (P : SwP) (dk : List Nat) (i j : Nat) : Nat → Option Nat := fun k => if k < j then (((dk.take j).filter (fun v => v != i))[k]?).map (pa P) else dfd P dk k
theorem lfd_0 {P : SwP} {dk : List Nat} {i : Nat} : lfd P dk i 0 = dfd P dk := by funext k; simp [lfd]
theorem flt_le {dk : List Nat} {i j : Nat} : ((dk.take j).filter (fun v => v != i)).length ≤ j := Nat.le_trans (List.length_filter_le _ _) (by rw [List.length_take]; exact Nat.min_le_left _ _)
theorem lfd_at {P : SwP} {dk : List Nat} {i j : Nat} : lfd P dk i j j = dfd P dk j := by simp [lfd]
theorem lfd_skip {P : SwP} {dk : List Nat} {i j : Nat} (h : (dk.take (j + 1)).filter (fun v => v != i) = (dk.take j).filter (fun v => v != i)) : va_up (lfd P dk i j) j none = lfd P dk i (j + 1) := by
  funext k
  unfold va_up lfd
  rw [h]
  have hl := flt_le (dk := dk) (i := i) (j := j)
  by_cases h1 : k = j
  · subst h1
    rw [if_pos rfl, if_pos (by omega), List.getElem?_eq_none hl]
    rfl
  · rw [if_neg h1]
    by_cases h2 : k < j
    · rw [if_pos h2, if_pos (by omega)]
    · rw [if_neg h2, if_neg (by omega)]
theorem lfd_keep {P : SwP} {dk : List Nat} {i j v : Nat} (h : (dk.take (j + 1)).filter (fun v => v != i) = (dk.take j).filter (fun v => v != i) ++ [v]) : va_up (va_up (lfd P dk i j) j none) ((dk.take j).filter (fun v => v != i)).length (some (pa P v)) = lfd P dk i (j + 1) := by
  funext k
  unfold lfd
  rw [h]
  have hl := flt_le (dk := dk) (i := i) (j := j)
  generalize (dk.take j).filter (fun v => v != i) = L at hl ⊢
  unfold va_up
  dsimp only
  by_cases h0 : k = L.length
  · subst h0
    rw [if_pos rfl, if_pos (by omega)]
    simp
  · rw [if_neg h0]
    by_cases h1 : k = j
    · subst h1
      rw [if_pos rfl, if_pos (by omega), List.getElem?_eq_none (by simp; omega)]
      rfl
    · rw [if_neg h1]
      by_cases h2 : k < j
      · rw [if_pos h2, if_pos (by omega)]
        by_cases h3 : k < L.length
        · rw [List.getElem?_append_left h3]
        · rw [List.getElem?_eq_none (by omega : L.length ≤ k), List.getElem?_eq_none (by simp; omega)]
      · rw [if_neg h2, if_neg (by omega)]
theorem lfd_end {P : SwP} {dk : List Nat} {i : Nat} (hn : dk.Nodup) (hl : dk.length ≤ 24) : lfd P dk i 24 = dfd P (dk.erase i) ∧ (dk.take 24).filter (fun v => v != i) = dk.erase i := by
  have h1 : (dk.take 24).filter (fun v => v != i) = dk.erase i := by rw [take_all hl, hn.erase_eq_filter]
  refine ⟨?_, h1⟩
  funext k
  unfold lfd
  rw [h1]
  by_cases h2 : k < 24
  · rw [if_pos h2]; rfl
  · rw [if_neg h2]
    have h3 : (dk.erase i).length ≤ dk.length := List.length_erase_le
    unfold dfd
    rw [List.getElem?_eq_none (by omega : dk.length ≤ k), List.getElem?_eq_none (by omega : (dk.erase i).length ≤ k)]
theorem flt_none {dk : List Nat} {i j : Nat} (h : dk[j]? = none) : (dk.take (j + 1)).filter (fun v => v != i) = (dk.take j).filter (fun v => v != i) := by rw [take_none h]
theorem flt_eq {dk : List Nat} {i j : Nat} (h : dk[j]? = some i) : (dk.take (j + 1)).filter (fun v => v != i) = (dk.take j).filter (fun v => v != i) := by rw [take_some h]; simp
theorem flt_ne {dk : List Nat} {i j v : Nat} (h : dk[j]? = some v) (hv : v ≠ i) : (dk.take (j + 1)).filter (fun v => v != i) = (dk.take j).filter (fun v => v != i) ++ [v] := by rw [take_some h]; simp [hv]
theorem any_take {dk : List Nat} {q : Nat → Bool} {j v : Nat} (h : dk[j]? = some v) (hv : q v = true) : dk.any q = true := List.any_eq_true.mpr ⟨v, List.mem_of_getElem? h, hv⟩
theorem any_none {dk : List Nat} {q : Nat → Bool} (h : ∀ v, v ∈ dk → q v = false) : dk.any q = false := by
  rw [List.any_eq_false]
  intro v hv
  rw [h v hv]
  decide
set_option maxHeartbeats 400000 in
set_option maxRecDepth 100000 in
/-- the vehicle at a place of the deck, or null -/
theorem c_X0_at (l : Launch) (D : va_G) (A : Nat → Prop) (P : SwP) (F : Nat → Nat → Int32) (B G : Nat → Int32) (dk : List Nat) (hO : Ok P F dk) (x : Int32) : Ct l yX0_at (.code yX0_at cX0_at 2 (some (.object "SwingBridge$Cart"))) ({ frames := 0, cells := 0, slots := 0, locals := 0 }) A [.ref (pB P), .int x] (Xp D A P F B G dk) (.inl (some (va_rf ((dkAt dk x).map (pa P))))) (Xp D A P F B G dk) := by
  refine ct_mk (by decide) (Nat.le_of_ble_eq_true rfl) (fun p e s m below meth c ls C hr hlocks hnm htab hP hl => ?_)
  have hw := hP
  have hS : va_S A s.heap s.heap [] := va_S.rf
  have hl : lv_has ls 2 [(0, .ref (pB P)), (1, .int x)] := hl
  have hL := hO.len
  refine lv_iload_n C.1 C.2.1 dX0_at_0 rfl (lv_at hl 1 rfl) ?_
  refine lv_if_lt (tgt := 21) C.1 C.2.1 dX0_at_1 (by decide) (fun h1 => ?_) (fun h1 => ?_)
  · refine lv_null C.1 C.2.1 dX0_at_21 ?_
    exact ct_a (r := none) C hr (Or.inl ⟨_, rfl⟩) hlocks (by rw [show dkAt dk x = none from if_pos h1]; rfl) (fun t ht hW => x_post hw ht hW) hS (Nat.le_of_ble_eq_true rfl) (Nat.le_of_ble_eq_true rfl) dX0_at_22
  · refine lv_iload_n C.1 C.2.1 dX0_at_4 rfl (lv_at hl 1 rfl) ?_
    refine lv_aload_n C.1 C.2.1 dX0_at_5 rfl (lv_at hl 0 rfl) ?_
    refine xb_get C hw 2 (by decide) tb_47 rfl dX0_at_6 ?_
    refine lv_icmp_ge (tgt := 21) C.1 C.2.1 dX0_at_9 (by decide) (fun h2 => ?_) (fun h2 => ?_)
    · refine lv_null C.1 C.2.1 dX0_at_21 ?_
      exact ct_a (r := none) C hr (Or.inl ⟨_, rfl⟩) hlocks (by rw [dkAt_ge h1 h2 (by omega)]; rfl) (fun t ht hW => x_post hw ht hW) hS (Nat.le_of_ble_eq_true rfl) (Nat.le_of_ble_eq_true rfl) dX0_at_22
    · refine lv_iload_n C.1 C.2.1 dX0_at_12 rfl (lv_at hl 1 rfl) ?_
      refine lv_aload_n C.1 C.2.1 dX0_at_13 rfl (lv_at hl 0 rfl) ?_
      refine xb_get C hw 0 (by decide) tb_35 rfl dX0_at_14 ?_
      refine xD_len C hw dX0_at_17 ?_
      refine lv_icmp_lt (tgt := 23) C.1 C.2.1 dX0_at_18 (by decide) (fun h3 => ?_) (fun h3 => ?_)
      · obtain ⟨j, hj, rfl, -⟩ := pk_mu h1 h2 (by omega)
        refine lv_aload_n C.1 C.2.1 dX0_at_23 rfl (lv_at hl 0 rfl) ?_
        refine xb_get C hw 0 (by decide) tb_35 rfl dX0_at_24 ?_
        refine lv_iload_n C.1 C.2.1 dX0_at_27 rfl (lv_at hl 1 rfl) ?_
        refine xD_ld C hw (show j < 24 by omega) rfl dX0_at_28 ?_
        exact ct_a (r := dfd P dk j) C hr (Or.inl ⟨_, rfl⟩) hlocks (by rw [dkAt_nI (by omega)]; rfl) (fun t ht hW => x_post hw ht hW) hS (Nat.le_of_ble_eq_true rfl) (Nat.le_of_ble_eq_true rfl) dX0_at_29
      · refine lv_null C.1 C.2.1 dX0_at_21 ?_
        obtain ⟨j, hj, rfl, -⟩ := pk_mu h1 h2 (by omega)
        exact absurd (nI_lt (b := 24) (by omega) (by omega)) h3
set_option maxHeartbeats 400000 in
set_option maxRecDepth 100000 in
/-- whether one on the deck is of kind 6 or 7 -/
theorem c_X0_bearsBus (l : Launch) (D : va_G) (A : Nat → Prop) (P : SwP) (F : Nat → Nat → Int32) (B G : Nat → Int32) (dk : List Nat) (hO : Ok P F dk) : Ct l yX0_bearsBus (.code yX0_bearsBus cX0_bearsBus 3 (some .boolean)) ({ frames := 0, cells := 0, slots := 0, locals := 0 }) A [.ref (pB P)] (Xp D A P F B G dk) (.inl (some (.int (b2i (dk.any (fun v => isBus (pk P v))))))) (Xp D A P F B G dk) := by
  refine ct_mk (by decide) (Nat.le_of_ble_eq_true rfl) (fun p e s m below meth c ls C hr hlocks hnm htab hP hl => ?_)
  have hw := hP
  have hS : va_S A s.heap s.heap [] := va_S.rf
  have hl : lv_has ls 3 [(0, .ref (pB P))] := hl
  have hL := hO.len
  have loop : ∀ (k j : Nat), j + k = 24 → (∀ v, v ∈ dk.take j → isBus (pk P v) = false) → ∀ (x : Int32), x = nI j → ∀ ls : Array Slot, lv_has ls 3 [(1, .int x), (0, .ref (pB P))] → W p l e ({ frames := 0, cells := 0, slots := 0, locals := 0 }) s m ([.ref (pB P)] : List Value).toArray below meth c s.heap [] 0 0 (CtQ below s ([.ref (pB P)] : List Value).toArray ({ frames := 0, cells := 0, slots := 0, locals := 0 }) A (.inl (some (.int (b2i (dk.any (fun v => isBus (pk P v))))))) (Xp D A P F B G dk)) (F0 m 2 ls []) := by
    intro k
    induction k with
    | zero =>
      intro j hj hno x hx ls hl
      have hj : j = 24 := by omega
      subst hj
      refine lv_iload_n C.1 C.2.1 dX0_bearsBus_2 rfl (lv_at hl 0 rfl) ?_
      refine lv_aload_n C.1 C.2.1 dX0_bearsBus_3 rfl (lv_at hl 1 rfl) ?_
      refine xb_get C hw 0 (by decide) tb_35 rfl dX0_bearsBus_4 ?_
      refine xD_len C hw dX0_bearsBus_7 ?_
      refine lv_icmp_ge (tgt := 48) C.1 C.2.1 dX0_bearsBus_8 (by decide) (fun h1 => ?_) (fun h1 => ?_)
      · refine lv_iconst (v := 0) C.1 C.2.1 dX0_bearsBus_48 (by decide) ?_
        exact ct_z C hr hlocks (Or.inl rfl) (by rw [any_none (fun v hv => hno v (by rw [take_all hL]; exact hv))]; rfl) (fun t ht hW => x_post hw ht hW) hS (Nat.le_of_ble_eq_true rfl) (Nat.le_of_ble_eq_true rfl) dX0_bearsBus_49
      · exact absurd (by rw [hx]; exact nI_le (Nat.le_refl 24) (by omega)) h1
    | succ k ih =>
      intro j hj hno x hx ls hl
      refine lv_iload_n C.1 C.2.1 dX0_bearsBus_2 rfl (lv_at hl 0 rfl) ?_
      refine lv_aload_n C.1 C.2.1 dX0_bearsBus_3 rfl (lv_at hl 1 rfl) ?_
      refine xb_get C hw 0 (by decide) tb_35 rfl dX0_bearsBus_4 ?_
      refine xD_len C hw dX0_bearsBus_7 ?_
      refine lv_icmp_ge (tgt := 48) C.1 C.2.1 dX0_bearsBus_8 (by decide) (fun h1 => ?_) (fun h1 => ?_)
      · exact absurd (by rw [hx] at h1; exact h1) (nI_ge (a := j) (b := 24) (by omega) (by omega))
      · refine lv_aload_n C.1 C.2.1 dX0_bearsBus_11 rfl (lv_at hl 1 rfl) ?_
        refine xb_get C hw 0 (by decide) tb_35 rfl dX0_bearsBus_12 ?_
        refine lv_iload_n C.1 C.2.1 dX0_bearsBus_15 rfl (lv_at hl 0 rfl) ?_
        rcases hdj : dk[j]? with _ | v
        · refine xD_ldN C hw (show j < 24 by omega) hx (show dfd P dk j = none by simp [dfd, hdj]) dX0_bearsBus_16 ?_
          refine lv_astore_nN (lv' := [(2, .null), (1, .int (x)), (0, .ref (pB P))]) C.1 C.2.1 dX0_bearsBus_17 rfl hl (by decide) rfl (fun ls hl => ?_)
          refine lv_aload_nN C.1 C.2.1 dX0_bearsBus_18 rfl (lv_at hl 0 rfl) ?_
          refine lv_ifnullN (tgt := 42) C.1 C.2.1 dX0_bearsBus_19 (by decide) ?_
          obtain ⟨x1, ex1⟩ : ∃ z : Int32, z = x + 1 := ⟨_, rfl⟩
          refine lv_iinc (v := x1) (lv' := [(1, .int (x1)), (2, .null), (0, .ref (pB P))]) C.1 C.2.1 dX0_bearsBus_42 hl (k := 1) rfl (by rw [ex1]; rfl) (by decide) rfl (fun ls hl => ?_)
          refine lv_goto (tgt := 2) C.1 C.2.1 dX0_bearsBus_45 (by decide) ?_
          exact ih (j + 1) (by omega) (by rw [take_none hdj]; exact hno) x1 (by rw [ex1, hx]; exact nI_1 j) ls (lv_sub hl [0, 2] rfl)
        · obtain ⟨hv, hkv⟩ := hO.v hdj
          refine xD_ldS C hw (show j < 24 by omega) hx (show dfd P dk j = some (pa P v) by simp [dfd, hdj]) dX0_bearsBus_16 ?_
          refine lv_astore_n (lv' := [(2, .ref (pa P v)), (1, .int (x)), (0, .ref (pB P))]) C.1 C.2.1 dX0_bearsBus_17 rfl hl (by decide) rfl (fun ls hl => ?_)
          refine lv_aload_n C.1 C.2.1 dX0_bearsBus_18 rfl (lv_at hl 0 rfl) ?_
          refine lv_ifnull C.1 C.2.1 dX0_bearsBus_19 ?_
          refine lv_aload_n C.1 C.2.1 dX0_bearsBus_22 rfl (lv_at hl 0 rfl) ?_
          refine xv_get C hw hv hkv 2 (by decide) tb_130 (Or.inl rfl) rfl dX0_bearsBus_23 ?_
          refine lv_bipush (v := 6) C.1 C.2.1 dX0_bearsBus_26 (by decide) ?_
          refine lv_icmp_eq (tgt := 40) C.1 C.2.1 dX0_bearsBus_28 (by decide) (fun h2 => ?_) (fun h2 => ?_)
          · have hb : isBus (pk P v) = true := by
              have h9 := hO.2.1 v hv
              have h8 : pk P v = 6 := (nI_eq (by omega) (by omega)).mp ((hO.2.2.1 v hv).symm.trans h2)
              simp [isBus, h8]
            refine lv_iconst (v := 1) C.1 C.2.1 dX0_bearsBus_40 (by decide) ?_
            exact ct_z C hr hlocks (Or.inr rfl) (by rw [any_take hdj hb]; rfl) (fun t ht hW => x_post hw ht hW) hS (Nat.le_of_ble_eq_true rfl) (Nat.le_of_ble_eq_true rfl) dX0_bearsBus_41
          · refine lv_aload_n C.1 C.2.1 dX0_bearsBus_31 rfl (lv_at hl 0 rfl) ?_
            refine xv_get C hw hv hkv 2 (by decide) tb_130 (Or.inl rfl) rfl dX0_bearsBus_32 ?_
            refine lv_bipush (v := 7) C.1 C.2.1 dX0_bearsBus_35 (by decide) ?_
            refine lv_icmp_ne (tgt := 42) C.1 C.2.1 dX0_bearsBus_37 (by decide) (fun h3 => ?_) (fun h3 => ?_)
            · have hb : isBus (pk P v) = false := by
                have h9 := hO.2.1 v hv
                have h6 : pk P v ≠ 6 := fun q => h2 (by rw [hO.2.2.1 v hv, q]; rfl)
                have h7 : pk P v ≠ 7 := fun q => h3 (by rw [hO.2.2.1 v hv, q]; rfl)
                simp [isBus, h6, h7]
              obtain ⟨x1, ex1⟩ : ∃ z : Int32, z = x + 1 := ⟨_, rfl⟩
              refine lv_iinc (v := x1) (lv' := [(1, .int (x1)), (2, .ref (pa P v)), (0, .ref (pB P))]) C.1 C.2.1 dX0_bearsBus_42 hl (k := 1) rfl (by rw [ex1]; rfl) (by decide) rfl (fun ls hl => ?_)
              refine lv_goto (tgt := 2) C.1 C.2.1 dX0_bearsBus_45 (by decide) ?_
              exact ih (j + 1) (by omega) (by rw [take_some hdj]; intro u hu; rcases List.mem_append.mp hu with q | q; exact hno u q; rw [List.mem_singleton.mp q]; exact hb) x1 (by rw [ex1, hx]; exact nI_1 j) ls (lv_sub hl [0, 2] rfl)
            · have hb : isBus (pk P v) = true := by
                have h9 := hO.2.1 v hv
                have h8 : pk P v = 7 := (nI_eq (by omega) (by omega)).mp ((hO.2.2.1 v hv).symm.trans h3)
                simp [isBus, h8]
              refine lv_iconst (v := 1) C.1 C.2.1 dX0_bearsBus_40 (by decide) ?_
              exact ct_z C hr hlocks (Or.inr rfl) (by rw [any_take hdj hb]; rfl) (fun t ht hW => x_post hw ht hW) hS (Nat.le_of_ble_eq_true rfl) (Nat.le_of_ble_eq_true rfl) dX0_bearsBus_41
  refine lv_iconst (v := 0) C.1 C.2.1 dX0_bearsBus_0 (by decide) ?_
  refine lv_istore_n (lv' := [(1, .int (0)), (0, .ref (pB P))]) C.1 C.2.1 dX0_bearsBus_1 rfl hl (by decide) rfl (fun ls hl => ?_)
  exact loop 24 0 rfl (fun v hv => by simp at hv) 0 nI_0.symm ls hl
set_option maxHeartbeats 400000 in
set_option maxRecDepth 100000 in
/-- a vehicle comes behind the others -/
theorem c_X0_takeOn (l : Launch) (D : va_G) (A : Nat → Prop) (P : SwP) (F : Nat → Nat → Int32) (B G : Nat → Int32) (dk : List Nat) (hO : Ok P F dk) (hn : dk.length < 24) (i : Nat) (hi : i < pn P) (hk : pk P i < 9) : Ct l yX0_takeOn (.code yX0_takeOn cX0_takeOn 3 none) ({ frames := 0, cells := 0, slots := 0, locals := 0 }) A [.ref (pB P), .ref (pa P i)] (fun U => Asg U ∧ Xp D A P F B G dk U) (.inl none) (Xp D A P F B G (dk ++ [i])) := by
  refine ct_mk (by decide) (Nat.le_of_ble_eq_true rfl) (fun p e s m below meth c ls C hr hlocks hnm htab hP hl => ?_)
  obtain ⟨hg, hw⟩ := hP
  have hS : va_S A s.heap s.heap [] := va_S.rf
  have hl : lv_has ls 3 [(0, .ref (pB P)), (1, .ref (pa P i))] := hl
  refine lv_aload_n C.1 C.2.1 dX0_takeOn_0 rfl (lv_at hl 0 rfl) ?_
  refine xb_get C hw 2 (by decide) tb_47 rfl dX0_takeOn_1 ?_
  refine lv_istore_n (lv' := [(2, .int (nI dk.length)), (0, .ref (pB P)), (1, .ref (pa P i))]) C.1 C.2.1 dX0_takeOn_4 rfl hl (by decide) rfl (fun ls hl => ?_)
  refine lv_iload_n C.1 C.2.1 dX0_takeOn_5 rfl (lv_at hl 0 rfl) ?_
  refine lv_if_lt (tgt := 32) C.1 C.2.1 dX0_takeOn_6 (by decide) (fun h1 => absurd h1 (nI_pos (by omega))) (fun h1 => ?_)
  refine lv_iload_n C.1 C.2.1 dX0_takeOn_9 rfl (lv_at hl 0 rfl) ?_
  refine lv_aload_n C.1 C.2.1 dX0_takeOn_10 rfl (lv_at hl 1 rfl) ?_
  refine xb_get C hw 0 (by decide) tb_35 rfl dX0_takeOn_11 ?_
  refine xD_len C hw dX0_takeOn_14 ?_
  refine lv_icmp_ge (tgt := 32) C.1 C.2.1 dX0_takeOn_15 (by decide) (fun h2 => absurd h2 (nI_ge (b := 24) hn (by omega))) (fun h2 => ?_)
  refine lv_aload_n C.1 C.2.1 dX0_takeOn_18 rfl (lv_at hl 1 rfl) ?_
  refine xb_get C hw 0 (by decide) tb_35 rfl dX0_takeOn_19 ?_
  refine lv_iload_n C.1 C.2.1 dX0_takeOn_22 rfl (lv_at hl 0 rfl) ?_
  refine lv_aload_n C.1 C.2.1 dX0_takeOn_23 rfl (lv_at hl 2 rfl) ?_
  refine xD_st C hw hS hg hi hk hn rfl dX0_takeOn_24 (fun H locs hw hS => ?_)
  refine lv_aload_n C.1 C.2.1 dX0_takeOn_25 rfl (lv_at hl 1 rfl) ?_
  refine lv_iload_n C.1 C.2.1 dX0_takeOn_26 rfl (lv_at hl 0 rfl) ?_
  refine lv_iconst (v := 1) C.1 C.2.1 dX0_takeOn_27 (by decide) ?_
  refine lv_iadd C.1 C.2.1 dX0_takeOn_28 ?_
  refine xb_putn C hw hS tb_47 dX0_takeOn_29 (fun H locs hw hS => ?_)
  rw [dfd_push, len_push] at hw
  exact ct_v C hr hlocks rfl (fun t ht hW => x_post hw ht hW) hS (Nat.le_of_ble_eq_true rfl) (Nat.le_of_ble_eq_true rfl) dX0_takeOn_32
set_option maxHeartbeats 400000 in
set_option maxRecDepth 100000 in
/-- a vehicle goes off, the others keep their order -/
theorem c_X0_letOff (l : Launch) (D : va_G) (A : Nat → Prop) (P : SwP) (F : Nat → Nat → Int32) (B G : Nat → Int32) (dk : List Nat) (hO : Ok P F dk) (i : Nat) (hi : i < pn P) (hk : pk P i < 9) : Ct l yX0_letOff (.code yX0_letOff cX0_letOff 5 none) ({ frames := 0, cells := 0, slots := 0, locals := 0 }) A [.ref (pB P), .ref (pa P i)] (fun U => Asg U ∧ Xp D A P F B G dk U) (.inl none) (Xp D A P F B G (dk.erase i)) := by
  refine ct_mk (by decide) (Nat.le_of_ble_eq_true rfl) (fun p e s m below meth c ls C hr hlocks hnm htab hP hl => ?_)
  obtain ⟨hg, hw⟩ := hP
  have hS : va_S A s.heap s.heap [] := va_S.rf
  have hl : lv_has ls 5 [(0, .ref (pB P)), (1, .ref (pa P i))] := hl
  have hL := hO.len
  have loop : ∀ (k j : Nat), j + k = 24 → ∀ (x y : Int32), x = nI j → y = nI ((dk.take j).filter (fun v => v != i)).length → ∀ (H : Heap) (locs : List Loc), XwR D A P F B G (nI dk.length) (lfd P dk i j) s H → va_S A s.heap H locs → ∀ ls : Array Slot, lv_has ls 5 [(3, .int x), (2, .int y), (0, .ref (pB P)), (1, .ref (pa P i))] → W p l e ({ frames := 0, cells := 0, slots := 0, locals := 0 }) s m ([.ref (pB P), .ref (pa P i)] : List Value).toArray below meth c H locs 0 0 (CtQ below s ([.ref (pB P), .ref (pa P i)] : List Value).toArray ({ frames := 0, cells := 0, slots := 0, locals := 0 }) A (.inl none) (Xp D A P F B G (dk.erase i))) (F0 m 4 ls []) := by
    intro k
    induction k with
    | zero =>
      intro j hj x y hx hy H locs hw hS ls hl
      have hj : j = 24 := by omega
      subst hj
      refine lv_iload_n C.1 C.2.1 dX0_letOff_4 rfl (lv_at hl 0 rfl) ?_
      refine lv_aload_n C.1 C.2.1 dX0_letOff_5 rfl (lv_at hl 2 rfl) ?_
      refine xb_get C hw 0 (by decide) tb_35 rfl dX0_letOff_6 ?_
      refine xD_len C hw dX0_letOff_9 ?_
      refine lv_icmp_ge (tgt := 62) C.1 C.2.1 dX0_letOff_10 (by decide) (fun h1 => ?_) (fun h1 => ?_)
      · refine lv_aload_n C.1 C.2.1 dX0_letOff_62 rfl (lv_at hl 2 rfl) ?_
        refine lv_iload_n C.1 C.2.1 dX0_letOff_63 rfl (lv_at hl 1 rfl) ?_
        refine xb_putn C hw hS tb_47 dX0_letOff_64 (fun H locs hw hS => ?_)
        obtain ⟨q1, q2⟩ := lfd_end (P := P) (i := i) hO.2.2.2.2 hL
        rw [hy, q2, q1] at hw
        exact ct_v C hr hlocks rfl (fun t ht hW => x_post hw ht hW) hS (Nat.le_of_ble_eq_true rfl) (Nat.le_of_ble_eq_true rfl) dX0_letOff_67
      · exact absurd (by rw [hx]; exact nI_le (Nat.le_refl 24) (by omega)) h1
    | succ k ih =>
      intro j hj x y hx hy H locs hw hS ls hl
      have hc := flt_le (dk := dk) (i := i) (j := j)
      refine lv_iload_n C.1 C.2.1 dX0_letOff_4 rfl (lv_at hl 0 rfl) ?_
      refine lv_aload_n C.1 C.2.1 dX0_letOff_5 rfl (lv_at hl 2 rfl) ?_
      refine xb_get C hw 0 (by decide) tb_35 rfl dX0_letOff_6 ?_
      refine xD_len C hw dX0_letOff_9 ?_
      refine lv_icmp_ge (tgt := 62) C.1 C.2.1 dX0_letOff_10 (by decide) (fun h1 => ?_) (fun h1 => ?_)
      · exact absurd (by rw [hx] at h1; exact h1) (nI_ge (a := j) (b := 24) (by omega) (by omega))
      · refine lv_aload_n C.1 C.2.1 dX0_letOff_13 rfl (lv_at hl 2 rfl) ?_
        refine xb_get C hw 0 (by decide) tb_35 rfl dX0_letOff_14 ?_
        refine lv_iload_n C.1 C.2.1 dX0_letOff_17 rfl (lv_at hl 0 rfl) ?_
        rcases hdj : dk[j]? with _ | v
        · refine xD_ldN C hw (show j < 24 by omega) hx (by rw [lfd_at]; simp [dfd, hdj]) dX0_letOff_18 ?_
          refine lv_astoreN (lv' := [(4, .null), (3, .int (x)), (2, .int (y)), (0, .ref (pB P)), (1, .ref (pa P i))]) C.1 C.2.1 dX0_letOff_19 hl (by decide) rfl (fun ls hl => ?_)
          refine lv_aload_n C.1 C.2.1 dX0_letOff_21 rfl (lv_at hl 3 rfl) ?_
          refine xb_get C hw 0 (by decide) tb_35 rfl dX0_letOff_22 ?_
          refine lv_iload_n C.1 C.2.1 dX0_letOff_25 rfl (lv_at hl 1 rfl) ?_
          refine lv_null C.1 C.2.1 dX0_letOff_26 ?_
          refine xD_stN C hw hS (show j < 24 by omega) hx dX0_letOff_27 (fun H locs hw hS => ?_)
          refine lv_aloadN C.1 C.2.1 dX0_letOff_28 (lv_at hl 0 rfl) ?_
          refine lv_ifnullN (tgt := 56) C.1 C.2.1 dX0_letOff_30 (by decide) ?_
          obtain ⟨x1, ex1⟩ : ∃ z : Int32, z = x + 1 := ⟨_, rfl⟩
          refine lv_iinc (v := x1) (lv' := [(3, .int (x1)), (4, .null), (2, .int (y)), (0, .ref (pB P)), (1, .ref (pa P i))]) C.1 C.2.1 dX0_letOff_56 hl (k := 1) rfl (by rw [ex1]; rfl) (by decide) rfl (fun ls hl => ?_)
          refine lv_goto (tgt := 4) C.1 C.2.1 dX0_letOff_59 (by decide) ?_
          rw [lfd_skip (flt_none hdj)] at hw
          exact ih (j + 1) (by omega) x1 y (by rw [ex1, hx]; exact nI_1 j) (by rw [flt_none hdj]; exact hy) H locs hw hS ls (lv_sub hl [0, 2, 3, 4] rfl)
        · obtain ⟨hv, hkv⟩ := hO.v hdj
          refine xD_ldS C hw (show j < 24 by omega) hx (show lfd P dk i j j = some (pa P v) by rw [lfd_at]; simp [dfd, hdj]) dX0_letOff_18 ?_
          refine lv_astore (lv' := [(4, .ref (pa P v)), (3, .int (x)), (2, .int (y)), (0, .ref (pB P)), (1, .ref (pa P i))]) C.1 C.2.1 dX0_letOff_19 hl (by decide) rfl (fun ls hl => ?_)
          refine lv_aload_n C.1 C.2.1 dX0_letOff_21 rfl (lv_at hl 3 rfl) ?_
          refine xb_get C hw 0 (by decide) tb_35 rfl dX0_letOff_22 ?_
          refine lv_iload_n C.1 C.2.1 dX0_letOff_25 rfl (lv_at hl 1 rfl) ?_
          refine lv_null C.1 C.2.1 dX0_letOff_26 ?_
          refine xD_stN C hw hS (show j < 24 by omega) hx dX0_letOff_27 (fun H locs hw hS => ?_)
          refine lv_aload C.1 C.2.1 dX0_letOff_28 (lv_at hl 0 rfl) ?_
          refine lv_ifnull C.1 C.2.1 dX0_letOff_30 ?_
          refine lv_aload C.1 C.2.1 dX0_letOff_33 (lv_at hl 0 rfl) ?_
          refine xv_get C hw hv hkv 1 (by decide) tb_127 (Or.inl rfl) rfl dX0_letOff_35 ?_
          refine lv_aload_n C.1 C.2.1 dX0_letOff_38 rfl (lv_at hl 4 rfl) ?_
          refine xv_get C hw hi hk 1 (by decide) tb_127 (Or.inl rfl) rfl dX0_letOff_39 ?_
          refine lv_icmp_eq (tgt := 56) C.1 C.2.1 dX0_letOff_42 (by decide) (fun h2 => ?_) (fun h2 => ?_)
          · obtain ⟨x1, ex1⟩ : ∃ z : Int32, z = x + 1 := ⟨_, rfl⟩
            refine lv_iinc (v := x1) (lv' := [(3, .int (x1)), (4, .ref (pa P v)), (2, .int (y)), (0, .ref (pB P)), (1, .ref (pa P i))]) C.1 C.2.1 dX0_letOff_56 hl (k := 1) rfl (by rw [ex1]; rfl) (by decide) rfl (fun ls hl => ?_)
            refine lv_goto (tgt := 4) C.1 C.2.1 dX0_letOff_59 (by decide) ?_
            have hvi : v = i := (nI_eq (by have := hO.1; omega) (by have := hO.1; omega)).mp h2
            subst hvi
            rw [lfd_skip (flt_eq hdj)] at hw
            exact ih (j + 1) (by omega) x1 y (by rw [ex1, hx]; exact nI_1 j) (by rw [flt_eq hdj]; exact hy) H locs hw hS ls (lv_sub hl [0, 2, 3, 4] rfl)
          · refine lv_aload_n C.1 C.2.1 dX0_letOff_45 rfl (lv_at hl 3 rfl) ?_
            refine xb_get C hw 0 (by decide) tb_35 rfl dX0_letOff_46 ?_
            refine lv_iload_n C.1 C.2.1 dX0_letOff_49 rfl (lv_at hl 2 rfl) ?_
            refine lv_aload C.1 C.2.1 dX0_letOff_50 (lv_at hl 0 rfl) ?_
            have hvi : v ≠ i := fun q => h2 (by rw [q])
            refine xD_st C hw hS hg hv hkv (show ((dk.take j).filter (fun v => v != i)).length < 24 by omega) hy dX0_letOff_52 (fun H locs hw hS => ?_)
            obtain ⟨y1, ey1⟩ : ∃ z : Int32, z = y + 1 := ⟨_, rfl⟩
            refine lv_iinc (v := y1) (lv' := [(2, .int (y1)), (4, .ref (pa P v)), (3, .int (x)), (0, .ref (pB P)), (1, .ref (pa P i))]) C.1 C.2.1 dX0_letOff_53 hl (k := 2) rfl (by rw [ey1]; rfl) (by decide) rfl (fun ls hl => ?_)
            obtain ⟨x1, ex1⟩ : ∃ z : Int32, z = x + 1 := ⟨_, rfl⟩
            refine lv_iinc (v := x1) (lv' := [(3, .int (x1)), (2, .int (y1)), (4, .ref (pa P v)), (0, .ref (pB P)), (1, .ref (pa P i))]) C.1 C.2.1 dX0_letOff_56 hl (k := 2) rfl (by rw [ex1]; rfl) (by decide) rfl (fun ls hl => ?_)
            refine lv_goto (tgt := 4) C.1 C.2.1 dX0_letOff_59 (by decide) ?_
            rw [lfd_keep (flt_ne hdj hvi)] at hw
            exact ih (j + 1) (by omega) x1 y1 (by rw [ex1, hx]; exact nI_1 j) (by rw [flt_ne hdj hvi, ey1, hy, List.length_append]; exact nI_1 _) H locs hw hS ls (lv_sub hl [0, 1, 3, 4] rfl)
  refine lv_iconst (v := 0) C.1 C.2.1 dX0_letOff_0 (by decide) ?_
  refine lv_istore_n (lv' := [(2, .int (0)), (0, .ref (pB P)), (1, .ref (pa P i))]) C.1 C.2.1 dX0_letOff_1 rfl hl (by decide) rfl (fun ls hl => ?_)
  refine lv_iconst (v := 0) C.1 C.2.1 dX0_letOff_2 (by decide) ?_
  refine lv_istore_n (lv' := [(3, .int (0)), (2, .int (0)), (0, .ref (pB P)), (1, .ref (pa P i))]) C.1 C.2.1 dX0_letOff_3 rfl hl (by decide) rfl (fun ls hl => ?_)
  have hw : XwR D A P F B G (nI dk.length) (lfd P dk i 0) s s.heap := by rw [lfd_0]; exact hw
  exact loop 24 0 rfl 0 0 nI_0.symm (by simp; rfl) _ _ hw hS ls (lv_sub hl [0, 1, 2, 3] rfl)
end
section
theorem drop_none {dk : List Nat} {j : Nat} (h : dk[j]? = none) : dk.drop j = [] ∧ dk.drop (j + 1) = [] := by
  have h1 := List.getElem?_eq_none_iff.mp h
  exact ⟨List.drop_of_length_le h1, List.drop_of_length_le (by omega)⟩
theorem drop_some {dk : List Nat} {j v : Nat} (h : dk[j]? = some v) : dk.drop j = v :: dk.drop (j + 1) := by
  obtain ⟨hl, hv⟩ := List.getElem?_eq_some_iff.mp h
  rw [List.drop_eq_getElem_cons hl, hv]
theorem b2i_z (b : Bool) : b2i b = 0 ∨ b2i b = 1 := by cases b; exact Or.inl rfl; exact Or.inr rfl
theorem b2i_0 {b : Bool} (h : b2i b = 0) : b = false := by cases b; rfl; exact absurd h (by decide)
theorem b2i_1 {b : Bool} (h : ¬ b2i b = 0) : b = true := by cases b; exact absurd rfl h; rfl
theorem nI_len0 {dk : List Nat} (h : nI dk.length = 0) (hL : dk.length ≤ 24) : dk = [] := by
  cases dk with
  | nil => rfl
  | cons a t => exact absurd h (nI_ne0 (by simp) (by omega))
set_option maxHeartbeats 400000 in
set_option maxRecDepth 100000 in
/-- FIT by CART -/
theorem c_X4_fitAct (l : Launch) (D : va_G) (A : Nat → Prop) (P : SwP) (F : Nat → Nat → Int32) (B G : Nat → Int32) (dk : List Nat) (i : Nat) (hO : Ok P F dk) (hi : i < pn P) (hk : pk P i < 9) : Ct l yX4_fitAct (.code yX4_fitAct cX4_fitAct 4 (some .boolean)) ({ frames := 3, cells := 0, slots := 0, locals := 60 }) A [.ref (pa P i)] (Xp D A P F B G dk) (.inl (some (.int (b2i (fP (pk P) F G dk i))))) (Xp D A P F (fPB (pk P) dk i B) G dk) := by
  refine ct_mk (by decide) (Nat.le_of_ble_eq_true rfl) (fun p e s m below meth c ls C hr hlocks hnm htab hP hl => ?_)
  have hw := hP
  have hS : va_S A s.heap s.heap [] := va_S.rf
  have hl : lv_has ls 4 [(0, .ref (pa P i))] := hl
  have hL := hO.len
  have loop : ∀ (k j : Nat), j + k = 24 → ∀ (x y : Int32) (B1 : Nat → Int32), x = nI j → sumW (pk P) F (dk.drop j) y = sumW (pk P) F dk 0 → sumB (pk P) (dk.drop j) B1 = sumB (pk P) dk (iB B 0) → ∀ (H : Heap) (locs : List Loc), XwR D A P F B1 G (nI dk.length) (dfd P dk) s H → va_S A s.heap H locs → ∀ ls : Array Slot, lv_has ls 4 [(2, .int x), (1, .int y), (0, .ref (pa P i))] → W p l e ({ frames := 3, cells := 0, slots := 0, locals := 60 }) s m ([.ref (pa P i)] : List Value).toArray below meth c H locs 0 0 (CtQ below s ([.ref (pa P i)] : List Value).toArray ({ frames := 3, cells := 0, slots := 0, locals := 60 }) A (.inl (some (.int (b2i (fP (pk P) F G dk i))))) (Xp D A P F (fPB (pk P) dk i B) G dk)) (F0 m 17 ls []) := by
    intro k
    induction k with
    | zero =>
      intro j hj x y B1 hx hy hB H locs hw hS ls hl
      have hj : j = 24 := by omega
      subst hj
      rw [List.drop_of_length_le hL] at hy hB
      refine lv_iload_n C.1 C.2.1 dX4_fitAct_17 rfl (lv_at hl 0 rfl) ?_
      refine lv_aload_n C.1 C.2.1 dX4_fitAct_18 rfl (lv_at hl 2 rfl) ?_
      refine xv_get C hw hi hk 0 (by decide) tb_111 (Or.inl rfl) rfl dX4_fitAct_19 ?_
      refine xb_get C hw 0 (by decide) tb_36 rfl dX4_fitAct_22 ?_
      refine xD_len C hw dX4_fitAct_25 ?_
      refine lv_icmp_ge (tgt := 56) C.1 C.2.1 dX4_fitAct_26 (by decide) (fun h1 => ?_) (fun h1 => ?_)
      · refine lv_iload_n C.1 C.2.1 dX4_fitAct_56 rfl (lv_at hl 1 rfl) ?_
        refine lv_aload_n C.1 C.2.1 dX4_fitAct_57 rfl (lv_at hl 2 rfl) ?_
        refine ct_ret (v_weight C hw hi hk tb_375 hl.1 dX4_fitAct_58 ⟨Nat.le_of_ble_eq_true rfl, Nat.le_of_ble_eq_true rfl⟩ (Nat.le_of_ble_eq_true rfl) ⟨Nat.le_of_ble_eq_true rfl, Nat.le_of_ble_eq_true rfl⟩) hS (fun _ h => h) (fun t H locs ht hvm hw _ _ hS => ?_)
        have hw := x_back hw ht hvm
        refine lv_iadd C.1 C.2.1 dX4_fitAct_61 ?_
        refine lv_istore_n (lv' := [(1, .int ((y) + (wR (pk P i) F i))), (2, .int (x)), (0, .ref (pa P i))]) C.1 C.2.1 dX4_fitAct_62 rfl hl (by decide) rfl (fun ls hl => ?_)
        refine lv_aload_n C.1 C.2.1 dX4_fitAct_63 rfl (lv_at hl 2 rfl) ?_
        refine xv_get C hw hi hk 0 (by decide) tb_111 (Or.inl rfl) rfl dX4_fitAct_64 ?_
        refine xb_get C hw 4 (by decide) tb_56 rfl dX4_fitAct_67 ?_
        have hy : y = sumW (pk P) F dk 0 := hy
        have hB : B1 = sumB (pk P) dk (iB B 0) := hB
        subst hy
        subst hB
        refine lv_if_eq (tgt := 88) C.1 C.2.1 dX4_fitAct_70 (by decide) (fun h1 => ?_) (fun h1 => ?_)
        · refine lv_iconst (v := 0) C.1 C.2.1 dX4_fitAct_88 (by decide) ?_
          exact ct_z C hr hlocks (Or.inl rfl) (by rw [show fP (pk P) F G dk i = false from decide_eq_false (fun q => q.1 h1)]; rfl) (fun t ht hW => x_post hw ht hW) hS (Nat.le_of_ble_eq_true rfl) (Nat.le_of_ble_eq_true rfl) dX4_fitAct_89
        · refine lv_iload_n C.1 C.2.1 dX4_fitAct_73 rfl (lv_at hl 0 rfl) ?_
          refine lv_aload_n C.1 C.2.1 dX4_fitAct_74 rfl (lv_at hl 2 rfl) ?_
          refine xv_get C hw hi hk 0 (by decide) tb_111 (Or.inl rfl) rfl dX4_fitAct_75 ?_
          refine xb_get C hw 3 (by decide) tb_51 rfl dX4_fitAct_78 ?_
          refine lv_icmp_gt (tgt := 88) C.1 C.2.1 dX4_fitAct_81 (by decide) (fun h2 => ?_) (fun h2 => ?_)
          · refine lv_iconst (v := 0) C.1 C.2.1 dX4_fitAct_88 (by decide) ?_
            exact ct_z C hr hlocks (Or.inl rfl) (by rw [show fP (pk P) F G dk i = false from decide_eq_false (fun q => Int32.not_lt.mpr q.2 h2)]; rfl) (fun t ht hW => x_post hw ht hW) hS (Nat.le_of_ble_eq_true rfl) (Nat.le_of_ble_eq_true rfl) dX4_fitAct_89
          · refine lv_iconst (v := 1) C.1 C.2.1 dX4_fitAct_84 (by decide) ?_
            refine lv_goto (tgt := 89) C.1 C.2.1 dX4_fitAct_85 (by decide) ?_
            exact ct_z C hr hlocks (Or.inr rfl) (by rw [show fP (pk P) F G dk i = true from decide_eq_true ⟨h1, Int32.not_lt.mp h2⟩]; rfl) (fun t ht hW => x_post hw ht hW) hS (Nat.le_of_ble_eq_true rfl) (Nat.le_of_ble_eq_true rfl) dX4_fitAct_89
      · exact absurd (by rw [hx]; exact nI_le (Nat.le_refl 24) (by omega)) h1
    | succ k ih =>
      intro j hj x y B1 hx hy hB H locs hw hS ls hl
      refine lv_iload_n C.1 C.2.1 dX4_fitAct_17 rfl (lv_at hl 0 rfl) ?_
      refine lv_aload_n C.1 C.2.1 dX4_fitAct_18 rfl (lv_at hl 2 rfl) ?_
      refine xv_get C hw hi hk 0 (by decide) tb_111 (Or.inl rfl) rfl dX4_fitAct_19 ?_
      refine xb_get C hw 0 (by decide) tb_36 rfl dX4_fitAct_22 ?_
      refine xD_len C hw dX4_fitAct_25 ?_
      refine lv_icmp_ge (tgt := 56) C.1 C.2.1 dX4_fitAct_26 (by decide) (fun h1 => ?_) (fun h1 => ?_)
      · exact absurd (by rw [hx] at h1; exact h1) (nI_ge (a := j) (b := 24) (by omega) (by omega))
      · refine lv_aload_n C.1 C.2.1 dX4_fitAct_29 rfl (lv_at hl 2 rfl) ?_
        refine xv_get C hw hi hk 0 (by decide) tb_111 (Or.inl rfl) rfl dX4_fitAct_30 ?_
        refine xb_get C hw 0 (by decide) tb_36 rfl dX4_fitAct_33 ?_
        refine lv_iload_n C.1 C.2.1 dX4_fitAct_36 rfl (lv_at hl 0 rfl) ?_
        rcases hdj : dk[j]? with _ | v
        · refine xD_ldN C hw (show j < 24 by omega) hx (by simp [dfd, hdj]) dX4_fitAct_37 ?_
          refine lv_astore_nN (lv' := [(3, .null), (2, .int (x)), (1, .int (y)), (0, .ref (pa P i))]) C.1 C.2.1 dX4_fitAct_38 rfl hl (by decide) rfl (fun ls hl => ?_)
          refine lv_aload_nN C.1 C.2.1 dX4_fitAct_39 rfl (lv_at hl 0 rfl) ?_
          refine lv_ifnullN (tgt := 50) C.1 C.2.1 dX4_fitAct_40 (by decide) ?_
          obtain ⟨x1, ex1⟩ : ∃ z : Int32, z = x + 1 := ⟨_, rfl⟩
          refine lv_iinc (v := x1) (lv' := [(2, .int (x1)), (3, .null), (1, .int (y)), (0, .ref (pa P i))]) C.1 C.2.1 dX4_fitAct_50 hl (k := 1) rfl (by rw [ex1]; rfl) (by decide) rfl (fun ls hl => ?_)
          refine lv_goto (tgt := 17) C.1 C.2.1 dX4_fitAct_53 (by decide) ?_
          exact ih (j + 1) (by omega) x1 y B1 (by rw [ex1, hx]; exact nI_1 j) (by rw [(drop_none hdj).2]; rw [(drop_none hdj).1] at hy; exact hy) (by rw [(drop_none hdj).2]; rw [(drop_none hdj).1] at hB; exact hB) H locs hw hS ls (lv_sub hl [0, 2, 3] rfl)
        · obtain ⟨hv, hkv⟩ := hO.v hdj
          refine xD_ldS C hw (show j < 24 by omega) hx (show dfd P dk j = some (pa P v) by simp [dfd, hdj]) dX4_fitAct_37 ?_
          refine lv_astore_n (lv' := [(3, .ref (pa P v)), (2, .int (x)), (1, .int (y)), (0, .ref (pa P i))]) C.1 C.2.1 dX4_fitAct_38 rfl hl (by decide) rfl (fun ls hl => ?_)
          refine lv_aload_n C.1 C.2.1 dX4_fitAct_39 rfl (lv_at hl 0 rfl) ?_
          refine lv_ifnull C.1 C.2.1 dX4_fitAct_40 ?_
          refine lv_iload_n C.1 C.2.1 dX4_fitAct_43 rfl (lv_at hl 2 rfl) ?_
          refine lv_aload_n C.1 C.2.1 dX4_fitAct_44 rfl (lv_at hl 0 rfl) ?_
          refine ct_ret (v_weight C hw hv hkv tb_375 hl.1 dX4_fitAct_45 ⟨Nat.le_of_ble_eq_true rfl, Nat.le_of_ble_eq_true rfl⟩ (Nat.le_of_ble_eq_true rfl) ⟨Nat.le_of_ble_eq_true rfl, Nat.le_of_ble_eq_true rfl⟩) hS (fun _ h => h) (fun t H locs ht hvm hw _ _ hS => ?_)
          have hw := x_back hw ht hvm
          refine lv_iadd C.1 C.2.1 dX4_fitAct_48 ?_
          refine lv_istore_n (lv' := [(1, .int ((y) + (wR (pk P v) F v))), (3, .ref (pa P v)), (2, .int (x)), (0, .ref (pa P i))]) C.1 C.2.1 dX4_fitAct_49 rfl hl (by decide) rfl (fun ls hl => ?_)
          obtain ⟨x1, ex1⟩ : ∃ z : Int32, z = x + 1 := ⟨_, rfl⟩
          refine lv_iinc (v := x1) (lv' := [(2, .int (x1)), (1, .int ((y) + (wR (pk P v) F v))), (3, .ref (pa P v)), (0, .ref (pa P i))]) C.1 C.2.1 dX4_fitAct_50 hl (k := 2) rfl (by rw [ex1]; rfl) (by decide) rfl (fun ls hl => ?_)
          refine lv_goto (tgt := 17) C.1 C.2.1 dX4_fitAct_53 (by decide) ?_
          exact ih (j + 1) (by omega) x1 (y + wR (pk P v) F v) (wBk (pk P v) B1) (by rw [ex1, hx]; exact nI_1 j) (by rw [drop_some hdj] at hy; exact hy) (by rw [drop_some hdj] at hB; exact hB) H locs hw hS ls (lv_sub hl [0, 1, 3] rfl)
  refine x_begun C hw hi hk tb_111 (Or.inl rfl) tb_38 (lv_at hl 0 rfl) dX4_fitAct_0 dX4_fitAct_1 dX4_fitAct_4 ?_
  refine lv_iconst (v := 0) C.1 C.2.1 dX4_fitAct_7 (by decide) ?_
  refine x_inc C hw hS (j := 0) (by decide) (by decide) dX4_fitAct_8 dX4_fitAct_9 dX4_fitAct_10 dX4_fitAct_11 dX4_fitAct_12 (fun H locs hw hS => ?_)
  refine lv_iconst (v := 0) C.1 C.2.1 dX4_fitAct_13 (by decide) ?_
  refine lv_istore_n (lv' := [(1, .int (0)), (0, .ref (pa P i))]) C.1 C.2.1 dX4_fitAct_14 rfl hl (by decide) rfl (fun ls hl => ?_)
  refine lv_iconst (v := 0) C.1 C.2.1 dX4_fitAct_15 (by decide) ?_
  refine lv_istore_n (lv' := [(2, .int (0)), (1, .int (0)), (0, .ref (pa P i))]) C.1 C.2.1 dX4_fitAct_16 rfl hl (by decide) rfl (fun ls hl => ?_)
  exact loop 24 0 rfl 0 0 (iB B 0) nI_0.symm rfl rfl _ _ hw hS ls hl
set_option maxHeartbeats 400000 in
set_option maxRecDepth 100000 in
/-- TANKER: UNDER, and the DECK is empty -/
theorem c_X8_fitAct (l : Launch) (D : va_G) (A : Nat → Prop) (P : SwP) (F : Nat → Nat → Int32) (B G : Nat → Int32) (dk : List Nat) (i : Nat) (hO : Ok P F dk) (hi : i < pn P) (hk : pk P i < 9) : Ct l yX8_fitAct (.code yX8_fitAct cX8_fitAct 1 (some .boolean)) ({ frames := 4, cells := 0, slots := 0, locals := 83 }) A [.ref (pa P i)] (Xp D A P F B G dk) (.inl (some (.int (b2i (fP (pk P) F G dk i && dk.isEmpty))))) (Xp D A P F (fPB (pk P) dk i (iB B 5)) G dk) := by
  refine ct_mk (by decide) (Nat.le_of_ble_eq_true rfl) (fun p e s m below meth c ls C hr hlocks hnm htab hP hl => ?_)
  have hw := hP
  have hS : va_S A s.heap s.heap [] := va_S.rf
  have hl : lv_has ls 1 [(0, .ref (pa P i))] := hl
  refine x_begun C hw hi hk tb_116 (Or.inr tb_117) tb_41 (lv_at hl 0 rfl) dX8_fitAct_0 dX8_fitAct_1 dX8_fitAct_4 ?_
  refine lv_iconst (v := 5) C.1 C.2.1 dX8_fitAct_7 (by decide) ?_
  refine x_inc C hw hS (j := 5) (by decide) (by decide) dX8_fitAct_8 dX8_fitAct_9 dX8_fitAct_10 dX8_fitAct_11 dX8_fitAct_12 (fun H locs hw hS => ?_)
  refine lv_aload_n C.1 C.2.1 dX8_fitAct_13 rfl (lv_at hl 0 rfl) ?_
  refine ct_ret (x_SU C hw hi hk (c_X4_fitAct l D A P _ _ _ _ i hO hi hk) Xp_bl (fun U hU hW => x_post hw hU hW) tb_374 tb_4 tb_348 tb_371 tb_372 ⟨rfl, rfl⟩ tb_244 (by decide) (sup2 C hw tb_227 tb_176) (by show _ = some 0; decide +kernel) hl.1 dX8_fitAct_14 ⟨Nat.le_of_ble_eq_true rfl, Nat.le_of_ble_eq_true rfl⟩ rfl (Nat.le_of_ble_eq_true rfl) ⟨Nat.le_of_ble_eq_true rfl, Nat.le_of_ble_eq_true rfl⟩) hS (fun _ h => h) (fun t H locs ht hvm hw _ _ hS => ?_)
  have hw := x_back hw ht hvm
  refine lv_if_eq (tgt := 34) C.1 C.2.1 dX8_fitAct_17 (by decide) (fun h1 => ?_) (fun h1 => ?_)
  · refine lv_iconst (v := 0) C.1 C.2.1 dX8_fitAct_34 (by decide) ?_
    exact ct_z C hr hlocks (Or.inl rfl) (by rw [b2i_0 h1]; rfl) (fun t ht hW => x_post hw ht hW) hS (Nat.le_of_ble_eq_true rfl) (Nat.le_of_ble_eq_true rfl) dX8_fitAct_35
  · refine lv_aload_n C.1 C.2.1 dX8_fitAct_20 rfl (lv_at hl 0 rfl) ?_
    refine xv_get C hw hi hk 0 (by decide) tb_116 (Or.inr tb_117) rfl dX8_fitAct_21 ?_
    refine xb_get C hw 2 (by decide) tb_48 rfl dX8_fitAct_24 ?_
    refine lv_if_ne (tgt := 34) C.1 C.2.1 dX8_fitAct_27 (by decide) (fun h2 => ?_) (fun h2 => ?_)
    · refine lv_iconst (v := 0) C.1 C.2.1 dX8_fitAct_34 (by decide) ?_
      have hne : dk.isEmpty = false := by cases dk with | nil => exact absurd rfl h2 | cons a t => rfl
      exact ct_z C hr hlocks (Or.inl rfl) (by rw [hne, Bool.and_false]; rfl) (fun t ht hW => x_post hw ht hW) hS (Nat.le_of_ble_eq_true rfl) (Nat.le_of_ble_eq_true rfl) dX8_fitAct_35
    · refine lv_iconst (v := 1) C.1 C.2.1 dX8_fitAct_30 (by decide) ?_
      refine lv_goto (tgt := 35) C.1 C.2.1 dX8_fitAct_31 (by decide) ?_
      have he : dk = [] := nI_len0 h2 hO.len
      exact ct_z C hr hlocks (Or.inr rfl) (by rw [b2i_1 h1, show dk.isEmpty = true by rw [he]; rfl]; rfl) (fun t ht hW => x_post hw ht hW) hS (Nat.le_of_ble_eq_true rfl) (Nat.le_of_ble_eq_true rfl) dX8_fitAct_35
set_option maxHeartbeats 400000 in
set_option maxRecDepth 100000 in
/-- LATE BUS: UNDER, and none on the DECK is of KIND 6 or 7 -/
theorem c_X6_fitAct (l : Launch) (D : va_G) (A : Nat → Prop) (P : SwP) (F : Nat → Nat → Int32) (B G : Nat → Int32) (dk : List Nat) (i : Nat) (hO : Ok P F dk) (hi : i < pn P) (hk : pk P i < 9) : Ct l yX6_fitAct (.code yX6_fitAct cX6_fitAct 1 (some .boolean)) ({ frames := 4, cells := 0, slots := 0, locals := 83 }) A [.ref (pa P i)] (Xp D A P F B G dk) (.inl (some (.int (b2i (fP (pk P) F G dk i && !(dk.any (fun v => isBus (pk P v)))))))) (Xp D A P F (fPB (pk P) dk i (iB B 7)) G dk) := by
  refine ct_mk (by decide) (Nat.le_of_ble_eq_true rfl) (fun p e s m below meth c ls C hr hlocks hnm htab hP hl => ?_)
  have hw := hP
  have hS : va_S A s.heap s.heap [] := va_S.rf
  have hl : lv_has ls 1 [(0, .ref (pa P i))] := hl
  refine x_begun C hw hi hk tb_114 (Or.inr tb_115) tb_40 (lv_at hl 0 rfl) dX6_fitAct_0 dX6_fitAct_1 dX6_fitAct_4 ?_
  refine lv_bipush (v := 7) C.1 C.2.1 dX6_fitAct_7 (by decide) ?_
  refine x_inc C hw hS (j := 7) (by decide) (by decide) dX6_fitAct_9 dX6_fitAct_10 dX6_fitAct_11 dX6_fitAct_12 dX6_fitAct_13 (fun H locs hw hS => ?_)
  refine lv_aload_n C.1 C.2.1 dX6_fitAct_14 rfl (lv_at hl 0 rfl) ?_
  refine ct_ret (x_SU C hw hi hk (c_X4_fitAct l D A P _ _ _ _ i hO hi hk) Xp_bl (fun U hU hW => x_post hw hU hW) tb_374 tb_4 tb_348 tb_360 tb_361 ⟨rfl, rfl⟩ tb_278 (by decide) (sup3 C hw tb_261 tb_227 tb_176) (by show _ = some 0; decide +kernel) hl.1 dX6_fitAct_15 ⟨Nat.le_of_ble_eq_true rfl, Nat.le_of_ble_eq_true rfl⟩ rfl (Nat.le_of_ble_eq_true rfl) ⟨Nat.le_of_ble_eq_true rfl, Nat.le_of_ble_eq_true rfl⟩) hS (fun _ h => h) (fun t H locs ht hvm hw _ _ hS => ?_)
  have hw := x_back hw ht hvm
  refine lv_if_eq (tgt := 35) C.1 C.2.1 dX6_fitAct_18 (by decide) (fun h1 => ?_) (fun h1 => ?_)
  · refine lv_iconst (v := 0) C.1 C.2.1 dX6_fitAct_35 (by decide) ?_
    exact ct_z C hr hlocks (Or.inl rfl) (by rw [b2i_0 h1]; rfl) (fun t ht hW => x_post hw ht hW) hS (Nat.le_of_ble_eq_true rfl) (Nat.le_of_ble_eq_true rfl) dX6_fitAct_36
  · refine lv_aload_n C.1 C.2.1 dX6_fitAct_21 rfl (lv_at hl 0 rfl) ?_
    refine xv_get C hw hi hk 0 (by decide) tb_114 (Or.inr tb_115) rfl dX6_fitAct_22 ?_
    refine ct_ret (ct_V0 C (c_X0_bearsBus l D A P _ _ _ _ hO) Xp_bl (Or.inl rfl) tb_366 tb_2 ⟨Nat.le_of_ble_eq_true rfl, Nat.le_of_ble_eq_true rfl⟩ tb_363 ⟨by decide, by decide⟩ tb_365 tb_364 (x_recvB hw) (fun U hU hW => x_post hw hU hW) (sig_code (C.2.2.2.2 _ tb_366)) (by show _ = some 0; decide +kernel) hl.1 rfl (Nat.le_of_ble_eq_true rfl) dX6_fitAct_25 ⟨Nat.le_of_ble_eq_true rfl, Nat.le_of_ble_eq_true rfl⟩) hS (fun _ h => h) (fun t H locs ht hvm hw _ _ hS => ?_)
    have hw := x_back hw ht hvm
    refine lv_if_ne (tgt := 35) C.1 C.2.1 dX6_fitAct_28 (by decide) (fun h2 => ?_) (fun h2 => ?_)
    · refine lv_iconst (v := 0) C.1 C.2.1 dX6_fitAct_35 (by decide) ?_
      exact ct_z C hr hlocks (Or.inl rfl) (by rw [b2i_1 h2, Bool.not_true, Bool.and_false]; rfl) (fun t ht hW => x_post hw ht hW) hS (Nat.le_of_ble_eq_true rfl) (Nat.le_of_ble_eq_true rfl) dX6_fitAct_36
    · refine lv_iconst (v := 1) C.1 C.2.1 dX6_fitAct_31 (by decide) ?_
      refine lv_goto (tgt := 36) C.1 C.2.1 dX6_fitAct_32 (by decide) ?_
      exact ct_z C hr hlocks (Or.inr rfl) (by rw [b2i_1 h1, b2i_0 h2]; rfl) (fun t ht hW => x_post hw ht hW) hS (Nat.le_of_ble_eq_true rfl) (Nat.le_of_ble_eq_true rfl) dX6_fitAct_36
set_option maxHeartbeats 400000 in
set_option maxRecDepth 100000 in
/-- CYCLE: the BRIDGE is SHUT -/
theorem c_X5_fitAct (l : Launch) (D : va_G) (A : Nat → Prop) (P : SwP) (F : Nat → Nat → Int32) (B G : Nat → Int32) (dk : List Nat) (i : Nat) (hO : Ok P F dk) (hi : i < pn P) (hk : pk P i < 9) (hz : G 4 = 0 ∨ G 4 = 1) : Ct l yX5_fitAct (.code yX5_fitAct cX5_fitAct 1 (some .boolean)) ({ frames := 0, cells := 0, slots := 0, locals := 0 }) A [.ref (pa P i)] (Xp D A P F B G dk) (.inl (some (.int (b2i (decide (G 4 ≠ 0)))))) (Xp D A P F (iB B 8) G dk) := by
  refine ct_mk (by decide) (Nat.le_of_ble_eq_true rfl) (fun p e s m below meth c ls C hr hlocks hnm htab hP hl => ?_)
  have hw := hP
  have hS : va_S A s.heap s.heap [] := va_S.rf
  have hl : lv_has ls 1 [(0, .ref (pa P i))] := hl
  refine x_begun C hw hi hk tb_122 (Or.inr tb_123) tb_44 (lv_at hl 0 rfl) dX5_fitAct_0 dX5_fitAct_1 dX5_fitAct_4 ?_
  refine lv_bipush (v := 8) C.1 C.2.1 dX5_fitAct_7 (by decide) ?_
  refine x_inc C hw hS (j := 8) (by decide) (by decide) dX5_fitAct_9 dX5_fitAct_10 dX5_fitAct_11 dX5_fitAct_12 dX5_fitAct_13 (fun H locs hw hS => ?_)
  refine lv_aload_n C.1 C.2.1 dX5_fitAct_14 rfl (lv_at hl 0 rfl) ?_
  refine xv_get C hw hi hk 0 (by decide) tb_122 (Or.inr tb_123) rfl dX5_fitAct_15 ?_
  refine xb_get C hw 4 (by decide) tb_55 rfl dX5_fitAct_18 ?_
  exact ct_z C hr hlocks hz (by rcases hz with q | q <;> rw [q] <;> rfl) (fun t ht hW => x_post hw ht hW) hS (Nat.le_of_ble_eq_true rfl) (Nat.le_of_ble_eq_true rfl) dX5_fitAct_21
end
section
section XV2
variable {p : Program} {l : Launch} {e : Env} {R : Room} {s : State} {m : MethodId} {args : Array Value} {below : List Frame} {meth : Method} {c : Code} {H : Heap} {locs : List Loc} {cells slots : Nat}
variable {cc : ByteArray} {nL index pc : Nat} {ls : Array Slot} {rest : List Value} {own : String} {D : va_G} {A : Nat → Prop} {P : SwP} {F : Nat → Nat → Int32} {B G : Nat → Int32} {dk : List Nat} {i : Nat}

theorem Ok.uf {v : Int32} {k j : Nat} (h : Ok P F dk) (hk : k ≠ 2) : Ok P (uF F j k v) dk := ⟨h.1, h.2.1, fun a ha => by
  rw [← h.2.2.1 a ha]
  unfold uF
  rw [if_neg (fun q => hk q.2.symm)], h.2.2.2⟩
theorem Ok.er {j : Nat} (h : Ok P F dk) : Ok P F (dk.erase j) := ⟨h.1, h.2.1, h.2.2.1, fun v hv => h.2.2.2.1 v (List.mem_of_mem_erase hv), h.2.2.2.2.erase j⟩
theorem Xg_bl : Bl (fun U => Asg U ∧ Xp D A P F B G dk U) := fun U g mk a h => ⟨h.1.moved (u := U.calling g mk a) (Vm.Alike.refl U.vm), Xp_bl U g mk a h.2⟩
theorem uF_ne {a b v : Nat} {x : Int32} (h : b ≠ v) : uF F i v x a b = F a b := by
  unfold uF
  rw [if_neg (fun q => h q.2)]
theorem uF_eq {k : Nat} {x : Int32} : uF F i k x i k = x := by
  unfold uF
  rw [if_pos ⟨rfl, rfl⟩]
set_option maxHeartbeats 400000 in
set_option maxRecDepth 100000 in
theorem v_fit (C : CallFix p m c cc nL s args wB own) (hw : XwR D A P F B G (nI dk.length) (dfd P dk) s H) (hi : i < pn P) (hk : pk P i < 9) (hO : Ok P F dk) (hz : G 4 = 0 ∨ G 4 = 1) (h1 : Cond.methodLink own index ⟨"SwingBridge$Cart", "fitAct", "()Z"⟩ ∈ wB) (hsize : ls.size = nL) (hdg : decode cc pc = .ok (.invokevirtual index, 3)) (hR : 5 ≤ R.frames ∧ 106 ≤ R.locals) (hW : (rest.map fun v => v.category).sum ≤ 8) (hf : cells + 0 ≤ R.cells ∧ slots + 0 ≤ R.slots) :
    CtR p l e R s m args below meth c H locs cells slots (F0 m pc ls (.ref (pa P i) :: rest)) rest ({ frames := 4, cells := 0, slots := 0, locals := 83 }) A (.inl (some (.int (b2i (fR (pk P) F G dk i))))) (Xp D A P F (fB (pk P) dk i B) G dk) := by
  have hx0 : va_Decl s ⟨"SwingBridge$Cart", "fitAct", "()Z"⟩ := va_Decl.of (C.2.2.2.2 _ tb_348) (C.2.2.2.2 _ tb_374)
  rcases (show pk P i = 0 ∨ pk P i = 1 ∨ pk P i = 2 ∨ pk P i = 3 ∨ pk P i = 4 ∨ pk P i = 5 ∨ pk P i = 6 ∨ pk P i = 7 ∨ pk P i = 8 by omega) with e0 | e0 | e0 | e0 | e0 | e0 | e0 | e0 | e0
  · rw [show fR (pk P) F G dk i = (fP (pk P) F G dk i) by unfold fR; rw [if_neg (by rw [e0]; decide), if_neg (by rw [e0]; decide), if_neg (by rw [e0]; decide)], show fB (pk P) dk i B = fPB (pk P) dk i B by unfold fB; rw [if_neg (by rw [e0]; decide), if_neg (by rw [e0]; decide), if_neg (by rw [e0]; decide)]]
    exact ctR_wide (ct_V C (c_X4_fitAct l D A P F B G dk i hO hi hk) Xp_bl (Or.inl rfl) tb_374 tb_4 ⟨Nat.le_trans (Nat.le_of_ble_eq_true rfl) hR.1, Nat.le_trans (Nat.le_of_ble_eq_true rfl) hR.2⟩ h1 tb_350 hx0 ⟨by decide, by decide⟩ (CN := cN (pk P i)) (by rw [e0]; exact tb_349) tb_348 (x_recv hw hi hk) (fun U hU hW => x_post hw hU hW) (by show _ = some 0; decide +kernel) hsize rfl hW hdg ⟨Nat.le_trans (Nat.add_le_add_left (Nat.le_of_ble_eq_true rfl) _) hf.1, Nat.le_trans (Nat.add_le_add_left (Nat.le_of_ble_eq_true rfl) _) hf.2⟩) (Nat.le_of_ble_eq_true rfl) (Nat.le_of_ble_eq_true rfl)
  · rw [show fR (pk P) F G dk i = (fP (pk P) F G dk i) by unfold fR; rw [if_neg (by rw [e0]; decide), if_neg (by rw [e0]; decide), if_neg (by rw [e0]; decide)], show fB (pk P) dk i B = fPB (pk P) dk i B by unfold fB; rw [if_neg (by rw [e0]; decide), if_neg (by rw [e0]; decide), if_neg (by rw [e0]; decide)]]
    exact ctR_wide (ct_V C (c_X4_fitAct l D A P F B G dk i hO hi hk) Xp_bl (Or.inl rfl) tb_374 tb_4 ⟨Nat.le_trans (Nat.le_of_ble_eq_true rfl) hR.1, Nat.le_trans (Nat.le_of_ble_eq_true rfl) hR.2⟩ h1 tb_350 hx0 ⟨by decide, by decide⟩ (CN := cN (pk P i)) (by rw [e0]; exact tb_373) tb_348 (x_recv hw hi hk) (fun U hU hW => x_post hw hU hW) (by show _ = some 0; decide +kernel) hsize rfl hW hdg ⟨Nat.le_trans (Nat.add_le_add_left (Nat.le_of_ble_eq_true rfl) _) hf.1, Nat.le_trans (Nat.add_le_add_left (Nat.le_of_ble_eq_true rfl) _) hf.2⟩) (Nat.le_of_ble_eq_true rfl) (Nat.le_of_ble_eq_true rfl)
  · rw [show fR (pk P) F G dk i = (fP (pk P) F G dk i) by unfold fR; rw [if_neg (by rw [e0]; decide), if_neg (by rw [e0]; decide), if_neg (by rw [e0]; decide)], show fB (pk P) dk i B = fPB (pk P) dk i B by unfold fB; rw [if_neg (by rw [e0]; decide), if_neg (by rw [e0]; decide), if_neg (by rw [e0]; decide)]]
    exact ctR_wide (ct_V C (c_X4_fitAct l D A P F B G dk i hO hi hk) Xp_bl (Or.inl rfl) tb_374 tb_4 ⟨Nat.le_trans (Nat.le_of_ble_eq_true rfl) hR.1, Nat.le_trans (Nat.le_of_ble_eq_true rfl) hR.2⟩ h1 tb_350 hx0 ⟨by decide, by decide⟩ (CN := cN (pk P i)) (by rw [e0]; exact tb_353) tb_348 (x_recv hw hi hk) (fun U hU hW => x_post hw hU hW) (by show _ = some 0; decide +kernel) hsize rfl hW hdg ⟨Nat.le_trans (Nat.add_le_add_left (Nat.le_of_ble_eq_true rfl) _) hf.1, Nat.le_trans (Nat.add_le_add_left (Nat.le_of_ble_eq_true rfl) _) hf.2⟩) (Nat.le_of_ble_eq_true rfl) (Nat.le_of_ble_eq_true rfl)
  · rw [show fR (pk P) F G dk i = (fP (pk P) F G dk i) by unfold fR; rw [if_neg (by rw [e0]; decide), if_neg (by rw [e0]; decide), if_neg (by rw [e0]; decide)], show fB (pk P) dk i B = fPB (pk P) dk i B by unfold fB; rw [if_neg (by rw [e0]; decide), if_neg (by rw [e0]; decide), if_neg (by rw [e0]; decide)]]
    exact ctR_wide (ct_V C (c_X4_fitAct l D A P F B G dk i hO hi hk) Xp_bl (Or.inl rfl) tb_374 tb_4 ⟨Nat.le_trans (Nat.le_of_ble_eq_true rfl) hR.1, Nat.le_trans (Nat.le_of_ble_eq_true rfl) hR.2⟩ h1 tb_350 hx0 ⟨by decide, by decide⟩ (CN := cN (pk P i)) (by rw [e0]; exact tb_352) tb_348 (x_recv hw hi hk) (fun U hU hW => x_post hw hU hW) (by show _ = some 0; decide +kernel) hsize rfl hW hdg ⟨Nat.le_trans (Nat.add_le_add_left (Nat.le_of_ble_eq_true rfl) _) hf.1, Nat.le_trans (Nat.add_le_add_left (Nat.le_of_ble_eq_true rfl) _) hf.2⟩) (Nat.le_of_ble_eq_true rfl) (Nat.le_of_ble_eq_true rfl)
  · rw [show fR (pk P) F G dk i = (fP (pk P) F G dk i) by unfold fR; rw [if_neg (by rw [e0]; decide), if_neg (by rw [e0]; decide), if_neg (by rw [e0]; decide)], show fB (pk P) dk i B = fPB (pk P) dk i B by unfold fB; rw [if_neg (by rw [e0]; decide), if_neg (by rw [e0]; decide), if_neg (by rw [e0]; decide)]]
    exact ctR_wide (ct_V C (c_X4_fitAct l D A P F B G dk i hO hi hk) Xp_bl (Or.inl rfl) tb_374 tb_4 ⟨Nat.le_trans (Nat.le_of_ble_eq_true rfl) hR.1, Nat.le_trans (Nat.le_of_ble_eq_true rfl) hR.2⟩ h1 tb_350 hx0 ⟨by decide, by decide⟩ (CN := cN (pk P i)) (by rw [e0]; exact tb_367) tb_348 (x_recv hw hi hk) (fun U hU hW => x_post hw hU hW) (by show _ = some 0; decide +kernel) hsize rfl hW hdg ⟨Nat.le_trans (Nat.add_le_add_left (Nat.le_of_ble_eq_true rfl) _) hf.1, Nat.le_trans (Nat.add_le_add_left (Nat.le_of_ble_eq_true rfl) _) hf.2⟩) (Nat.le_of_ble_eq_true rfl) (Nat.le_of_ble_eq_true rfl)
  · rw [show fR (pk P) F G dk i = (fP (pk P) F G dk i && dk.isEmpty) by unfold fR; rw [if_pos e0], show fB (pk P) dk i B = fPB (pk P) dk i (iB B 5) by unfold fB; rw [if_pos e0]]
    exact ctR_wide (ct_V C (c_X8_fitAct l D A P F B G dk i hO hi hk) Xp_bl (Or.inl rfl) tb_370 tb_9 ⟨Nat.le_trans (Nat.le_of_ble_eq_true rfl) hR.1, Nat.le_trans (Nat.le_of_ble_eq_true rfl) hR.2⟩ h1 tb_350 hx0 ⟨by decide, by decide⟩ (CN := cN (pk P i)) (by rw [e0]; exact tb_368) tb_369 (x_recv hw hi hk) (fun U hU hW => x_post hw hU hW) (by show _ = some 0; decide +kernel) hsize rfl hW hdg ⟨Nat.le_trans (Nat.add_le_add_left (Nat.le_of_ble_eq_true rfl) _) hf.1, Nat.le_trans (Nat.add_le_add_left (Nat.le_of_ble_eq_true rfl) _) hf.2⟩) (Nat.le_of_ble_eq_true rfl) (Nat.le_of_ble_eq_true rfl)
  · rw [show fR (pk P) F G dk i = (fP (pk P) F G dk i) by unfold fR; rw [if_neg (by rw [e0]; decide), if_neg (by rw [e0]; decide), if_neg (by rw [e0]; decide)], show fB (pk P) dk i B = fPB (pk P) dk i B by unfold fB; rw [if_neg (by rw [e0]; decide), if_neg (by rw [e0]; decide), if_neg (by rw [e0]; decide)]]
    exact ctR_wide (ct_V C (c_X4_fitAct l D A P F B G dk i hO hi hk) Xp_bl (Or.inl rfl) tb_374 tb_4 ⟨Nat.le_trans (Nat.le_of_ble_eq_true rfl) hR.1, Nat.le_trans (Nat.le_of_ble_eq_true rfl) hR.2⟩ h1 tb_350 hx0 ⟨by decide, by decide⟩ (CN := cN (pk P i)) (by rw [e0]; exact tb_351) tb_348 (x_recv hw hi hk) (fun U hU hW => x_post hw hU hW) (by show _ = some 0; decide +kernel) hsize rfl hW hdg ⟨Nat.le_trans (Nat.add_le_add_left (Nat.le_of_ble_eq_true rfl) _) hf.1, Nat.le_trans (Nat.add_le_add_left (Nat.le_of_ble_eq_true rfl) _) hf.2⟩) (Nat.le_of_ble_eq_true rfl) (Nat.le_of_ble_eq_true rfl)
  · rw [show fR (pk P) F G dk i = (fP (pk P) F G dk i && !(dk.any (fun v => isBus (pk P v)))) by unfold fR; rw [if_neg (by rw [e0]; decide), if_pos e0], show fB (pk P) dk i B = fPB (pk P) dk i (iB B 7) by unfold fB; rw [if_neg (by rw [e0]; decide), if_pos e0]]
    exact ctR_wide (ct_V C (c_X6_fitAct l D A P F B G dk i hO hi hk) Xp_bl (Or.inl rfl) tb_359 tb_11 ⟨Nat.le_trans (Nat.le_of_ble_eq_true rfl) hR.1, Nat.le_trans (Nat.le_of_ble_eq_true rfl) hR.2⟩ h1 tb_350 hx0 ⟨by decide, by decide⟩ (CN := cN (pk P i)) (by rw [e0]; exact tb_357) tb_358 (x_recv hw hi hk) (fun U hU hW => x_post hw hU hW) (by show _ = some 0; decide +kernel) hsize rfl hW hdg ⟨Nat.le_trans (Nat.add_le_add_left (Nat.le_of_ble_eq_true rfl) _) hf.1, Nat.le_trans (Nat.add_le_add_left (Nat.le_of_ble_eq_true rfl) _) hf.2⟩) (Nat.le_of_ble_eq_true rfl) (Nat.le_of_ble_eq_true rfl)
  · rw [show fR (pk P) F G dk i = (decide (G 4 ≠ 0)) by unfold fR; rw [if_neg (by rw [e0]; decide), if_neg (by rw [e0]; decide), if_pos e0], show fB (pk P) dk i B = iB B 8 by unfold fB; rw [if_neg (by rw [e0]; decide), if_neg (by rw [e0]; decide), if_pos e0]]
    exact ctR_wide (ct_V C (c_X5_fitAct l D A P F B G dk i hO hi hk hz) Xp_bl (Or.inl rfl) tb_356 tb_12 ⟨Nat.le_trans (Nat.le_of_ble_eq_true rfl) hR.1, Nat.le_trans (Nat.le_of_ble_eq_true rfl) hR.2⟩ h1 tb_350 hx0 ⟨by decide, by decide⟩ (CN := cN (pk P i)) (by rw [e0]; exact tb_354) tb_355 (x_recv hw hi hk) (fun U hU hW => x_post hw hU hW) (by show _ = some 0; decide +kernel) hsize rfl hW hdg ⟨Nat.le_trans (Nat.add_le_add_left (Nat.le_of_ble_eq_true rfl) _) hf.1, Nat.le_trans (Nat.add_le_add_left (Nat.le_of_ble_eq_true rfl) _) hf.2⟩) (Nat.le_of_ble_eq_true rfl) (Nat.le_of_ble_eq_true rfl)
set_option maxHeartbeats 400000 in
set_option maxRecDepth 100000 in
theorem v_rebate (C : CallFix p m c cc nL s args wB own) (hw : XwR D A P F B G (nI dk.length) (dfd P dk) s H) (hi : i < pn P) (hk : pk P i < 9) (h1 : Cond.methodLink own index ⟨"SwingBridge$Cart", "rebateAct", "()I"⟩ ∈ wB) (hsize : ls.size = nL) (hdg : decode cc pc = .ok (.invokevirtual index, 3)) (hR : 2 ≤ R.frames ∧ 40 ≤ R.locals) (hW : (rest.map fun v => v.category).sum ≤ 8) (hf : cells + 0 ≤ R.cells ∧ slots + 0 ≤ R.slots) :
    CtR p l e R s m args below meth c H locs cells slots (F0 m pc ls (.ref (pa P i) :: rest)) rest ({ frames := 1, cells := 0, slots := 0, locals := 20 }) A (.inl (some (.int (rR (pk P i) F i)))) (Xp D A P F (rB (pk P i) B) G dk) := by
  have hx0 : va_Decl s ⟨"SwingBridge$Cart", "rebateAct", "()I"⟩ := va_Decl.of (C.2.2.2.2 _ tb_417) (C.2.2.2.2 _ tb_439)
  rcases (show pk P i = 0 ∨ pk P i = 1 ∨ pk P i = 2 ∨ pk P i = 3 ∨ pk P i = 4 ∨ pk P i = 5 ∨ pk P i = 6 ∨ pk P i = 7 ∨ pk P i = 8 by omega) with e0 | e0 | e0 | e0 | e0 | e0 | e0 | e0 | e0
  · rw [show rR (pk P i) F i = F i 4 by unfold rR; rw [if_neg (by rw [e0]; decide), if_neg (by rw [e0]; decide)], show rB (pk P i) B = iB B 0 by unfold rB; rw [if_neg (by rw [e0]; decide), if_neg (by rw [e0]; decide)]]
    exact ctR_wide (ct_V C (c_X4_rebateAct l D A P F B G dk i hi hk) Xp_bl (Or.inl rfl) tb_439 tb_4 ⟨Nat.le_trans (Nat.le_of_ble_eq_true rfl) hR.1, Nat.le_trans (Nat.le_of_ble_eq_true rfl) hR.2⟩ h1 tb_419 hx0 ⟨by decide, by decide⟩ (CN := cN (pk P i)) (by rw [e0]; exact tb_418) tb_417 (x_recv hw hi hk) (fun U hU hW => x_post hw hU hW) (by show _ = some 0; decide +kernel) hsize rfl hW hdg ⟨Nat.le_trans (Nat.add_le_add_left (Nat.le_of_ble_eq_true rfl) _) hf.1, Nat.le_trans (Nat.add_le_add_left (Nat.le_of_ble_eq_true rfl) _) hf.2⟩) (Nat.le_of_ble_eq_true rfl) (Nat.le_of_ble_eq_true rfl)
  · rw [show rR (pk P i) F i = F i 4 by unfold rR; rw [if_neg (by rw [e0]; decide), if_neg (by rw [e0]; decide)], show rB (pk P i) B = iB B 0 by unfold rB; rw [if_neg (by rw [e0]; decide), if_neg (by rw [e0]; decide)]]
    exact ctR_wide (ct_V C (c_X4_rebateAct l D A P F B G dk i hi hk) Xp_bl (Or.inl rfl) tb_439 tb_4 ⟨Nat.le_trans (Nat.le_of_ble_eq_true rfl) hR.1, Nat.le_trans (Nat.le_of_ble_eq_true rfl) hR.2⟩ h1 tb_419 hx0 ⟨by decide, by decide⟩ (CN := cN (pk P i)) (by rw [e0]; exact tb_438) tb_417 (x_recv hw hi hk) (fun U hU hW => x_post hw hU hW) (by show _ = some 0; decide +kernel) hsize rfl hW hdg ⟨Nat.le_trans (Nat.add_le_add_left (Nat.le_of_ble_eq_true rfl) _) hf.1, Nat.le_trans (Nat.add_le_add_left (Nat.le_of_ble_eq_true rfl) _) hf.2⟩) (Nat.le_of_ble_eq_true rfl) (Nat.le_of_ble_eq_true rfl)
  · rw [show rR (pk P i) F i = mn (F i 4 + 5) 100 by unfold rR; rw [if_pos (by rw [e0]; decide)], show rB (pk P i) B = iB (iB B 2) 0 by unfold rB; rw [if_pos (by rw [e0]; decide)]]
    exact ctR_wide (ct_V C (c_X3_rebateAct l D A P F B G dk i hi hk) Xp_bl (Or.inl rfl) tb_423 tb_6 ⟨Nat.le_trans (Nat.le_of_ble_eq_true rfl) hR.1, Nat.le_trans (Nat.le_of_ble_eq_true rfl) hR.2⟩ h1 tb_419 hx0 ⟨by decide, by decide⟩ (CN := cN (pk P i)) (by rw [e0]; exact tb_428) tb_422 (x_recv hw hi hk) (fun U hU hW => x_post hw hU hW) (by show _ = some 0; decide +kernel) hsize rfl hW hdg ⟨Nat.le_trans (Nat.add_le_add_left (Nat.le_of_ble_eq_true rfl) _) hf.1, Nat.le_trans (Nat.add_le_add_left (Nat.le_of_ble_eq_true rfl) _) hf.2⟩) (Nat.le_of_ble_eq_true rfl) (Nat.le_of_ble_eq_true rfl)
  · rw [show rR (pk P i) F i = mn (F i 4 + 5) 100 by unfold rR; rw [if_pos (by rw [e0]; decide)], show rB (pk P i) B = iB (iB B 2) 0 by unfold rB; rw [if_pos (by rw [e0]; decide)]]
    exact ctR_wide (ct_V C (c_X3_rebateAct l D A P F B G dk i hi hk) Xp_bl (Or.inl rfl) tb_423 tb_6 ⟨Nat.le_trans (Nat.le_of_ble_eq_true rfl) hR.1, Nat.le_trans (Nat.le_of_ble_eq_true rfl) hR.2⟩ h1 tb_419 hx0 ⟨by decide, by decide⟩ (CN := cN (pk P i)) (by rw [e0]; exact tb_421) tb_422 (x_recv hw hi hk) (fun U hU hW => x_post hw hU hW) (by show _ = some 0; decide +kernel) hsize rfl hW hdg ⟨Nat.le_trans (Nat.add_le_add_left (Nat.le_of_ble_eq_true rfl) _) hf.1, Nat.le_trans (Nat.add_le_add_left (Nat.le_of_ble_eq_true rfl) _) hf.2⟩) (Nat.le_of_ble_eq_true rfl) (Nat.le_of_ble_eq_true rfl)
  · rw [show rR (pk P i) F i = F i 4 by unfold rR; rw [if_neg (by rw [e0]; decide), if_neg (by rw [e0]; decide)], show rB (pk P i) B = iB B 0 by unfold rB; rw [if_neg (by rw [e0]; decide), if_neg (by rw [e0]; decide)]]
    exact ctR_wide (ct_V C (c_X4_rebateAct l D A P F B G dk i hi hk) Xp_bl (Or.inl rfl) tb_439 tb_4 ⟨Nat.le_trans (Nat.le_of_ble_eq_true rfl) hR.1, Nat.le_trans (Nat.le_of_ble_eq_true rfl) hR.2⟩ h1 tb_419 hx0 ⟨by decide, by decide⟩ (CN := cN (pk P i)) (by rw [e0]; exact tb_436) tb_417 (x_recv hw hi hk) (fun U hU hW => x_post hw hU hW) (by show _ = some 0; decide +kernel) hsize rfl hW hdg ⟨Nat.le_trans (Nat.add_le_add_left (Nat.le_of_ble_eq_true rfl) _) hf.1, Nat.le_trans (Nat.add_le_add_left (Nat.le_of_ble_eq_true rfl) _) hf.2⟩) (Nat.le_of_ble_eq_true rfl) (Nat.le_of_ble_eq_true rfl)
  · rw [show rR (pk P i) F i = F i 4 by unfold rR; rw [if_neg (by rw [e0]; decide), if_neg (by rw [e0]; decide)], show rB (pk P i) B = iB B 0 by unfold rB; rw [if_neg (by rw [e0]; decide), if_neg (by rw [e0]; decide)]]
    exact ctR_wide (ct_V C (c_X4_rebateAct l D A P F B G dk i hi hk) Xp_bl (Or.inl rfl) tb_439 tb_4 ⟨Nat.le_trans (Nat.le_of_ble_eq_true rfl) hR.1, Nat.le_trans (Nat.le_of_ble_eq_true rfl) hR.2⟩ h1 tb_419 hx0 ⟨by decide, by decide⟩ (CN := cN (pk P i)) (by rw [e0]; exact tb_437) tb_417 (x_recv hw hi hk) (fun U hU hW => x_post hw hU hW) (by show _ = some 0; decide +kernel) hsize rfl hW hdg ⟨Nat.le_trans (Nat.add_le_add_left (Nat.le_of_ble_eq_true rfl) _) hf.1, Nat.le_trans (Nat.add_le_add_left (Nat.le_of_ble_eq_true rfl) _) hf.2⟩) (Nat.le_of_ble_eq_true rfl) (Nat.le_of_ble_eq_true rfl)
  · rw [show rR (pk P i) F i = F i 4 by unfold rR; rw [if_neg (by rw [e0]; decide), if_neg (by rw [e0]; decide)], show rB (pk P i) B = iB B 0 by unfold rB; rw [if_neg (by rw [e0]; decide), if_neg (by rw [e0]; decide)]]
    exact ctR_wide (ct_V C (c_X4_rebateAct l D A P F B G dk i hi hk) Xp_bl (Or.inl rfl) tb_439 tb_4 ⟨Nat.le_trans (Nat.le_of_ble_eq_true rfl) hR.1, Nat.le_trans (Nat.le_of_ble_eq_true rfl) hR.2⟩ h1 tb_419 hx0 ⟨by decide, by decide⟩ (CN := cN (pk P i)) (by rw [e0]; exact tb_420) tb_417 (x_recv hw hi hk) (fun U hU hW => x_post hw hU hW) (by show _ = some 0; decide +kernel) hsize rfl hW hdg ⟨Nat.le_trans (Nat.add_le_add_left (Nat.le_of_ble_eq_true rfl) _) hf.1, Nat.le_trans (Nat.add_le_add_left (Nat.le_of_ble_eq_true rfl) _) hf.2⟩) (Nat.le_of_ble_eq_true rfl) (Nat.le_of_ble_eq_true rfl)
  · rw [show rR (pk P i) F i = mn (2 * F i 4) 100 by unfold rR; rw [if_neg (by rw [e0]; decide), if_pos e0], show rB (pk P i) B = iB (iB B 7) 0 by unfold rB; rw [if_neg (by rw [e0]; decide), if_pos e0]]
    exact ctR_wide (ct_V C (c_X6_rebateAct l D A P F B G dk i hi hk) Xp_bl (Or.inl rfl) tb_432 tb_11 ⟨Nat.le_trans (Nat.le_of_ble_eq_true rfl) hR.1, Nat.le_trans (Nat.le_of_ble_eq_true rfl) hR.2⟩ h1 tb_419 hx0 ⟨by decide, by decide⟩ (CN := cN (pk P i)) (by rw [e0]; exact tb_430) tb_431 (x_recv hw hi hk) (fun U hU hW => x_post hw hU hW) (by show _ = some 0; decide +kernel) hsize rfl hW hdg ⟨Nat.le_trans (Nat.add_le_add_left (Nat.le_of_ble_eq_true rfl) _) hf.1, Nat.le_trans (Nat.add_le_add_left (Nat.le_of_ble_eq_true rfl) _) hf.2⟩) (Nat.le_of_ble_eq_true rfl) (Nat.le_of_ble_eq_true rfl)
  · rw [show rR (pk P i) F i = F i 4 by unfold rR; rw [if_neg (by rw [e0]; decide), if_neg (by rw [e0]; decide)], show rB (pk P i) B = iB B 0 by unfold rB; rw [if_neg (by rw [e0]; decide), if_neg (by rw [e0]; decide)]]
    exact ctR_wide (ct_V C (c_X4_rebateAct l D A P F B G dk i hi hk) Xp_bl (Or.inl rfl) tb_439 tb_4 ⟨Nat.le_trans (Nat.le_of_ble_eq_true rfl) hR.1, Nat.le_trans (Nat.le_of_ble_eq_true rfl) hR.2⟩ h1 tb_419 hx0 ⟨by decide, by decide⟩ (CN := cN (pk P i)) (by rw [e0]; exact tb_429) tb_417 (x_recv hw hi hk) (fun U hU hW => x_post hw hU hW) (by show _ = some 0; decide +kernel) hsize rfl hW hdg ⟨Nat.le_trans (Nat.add_le_add_left (Nat.le_of_ble_eq_true rfl) _) hf.1, Nat.le_trans (Nat.add_le_add_left (Nat.le_of_ble_eq_true rfl) _) hf.2⟩) (Nat.le_of_ble_eq_true rfl) (Nat.le_of_ble_eq_true rfl)
set_option maxHeartbeats 400000 in
set_option maxRecDepth 100000 in
theorem v_tollA (C : CallFix p m c cc nL s args wB own) (hw : XwR D A P F B G (nI dk.length) (dfd P dk) s H) (hi : i < pn P) (hk : pk P i < 9) {h : Int32} (h8 : pk P i ≠ 8) (h1 : Cond.methodLink own index ⟨"SwingBridge$Cart", "tollAct", "(I)I"⟩ ∈ wB) (hsize : ls.size = nL) (hdg : decode cc pc = .ok (.invokevirtual index, 3)) (hR : 6 ≤ R.frames ∧ 124 ≤ R.locals) (hW : (rest.map fun v => v.category).sum ≤ 8) (hf : cells + 0 ≤ R.cells ∧ slots + 0 ≤ R.slots) :
    CtR p l e R s m args below meth c H locs cells slots (F0 m pc ls (.int h :: .ref (pa P i) :: rest)) rest ({ frames := 5, cells := 0, slots := 0, locals := 102 }) A (.inl (some (.int (tR (pk P i) F i h)))) (Xp D A P F (tB (pk P i) h B) G dk) := by
  have hx0 : va_Decl s ⟨"SwingBridge$Cart", "tollAct", "(I)I"⟩ := va_Decl.of (C.2.2.2.2 _ tb_475) (C.2.2.2.2 _ tb_571)
  rcases (show pk P i = 0 ∨ pk P i = 1 ∨ pk P i = 2 ∨ pk P i = 3 ∨ pk P i = 4 ∨ pk P i = 5 ∨ pk P i = 6 ∨ pk P i = 7 by omega) with e0 | e0 | e0 | e0 | e0 | e0 | e0 | e0
  · rw [show tR (pk P i) F i h = (tP (pk P i) F i) by unfold tR; rw [if_neg (by rw [e0]; decide), if_neg (by rw [e0]; decide), if_neg (by rw [e0]; decide), if_neg (by rw [e0]; decide), if_neg (by rw [e0]; decide)], show tB (pk P i) h B = (tPB (pk P i) B) by unfold tB; rw [if_neg (by rw [e0]; decide), if_neg (by rw [e0]; decide), if_neg (by rw [e0]; decide), if_neg (by rw [e0]; decide), if_neg (by rw [e0]; decide)]]
    exact ctR_wide (ct_V C (c_X4_tollAct l D A P F B G dk i h hi hk) Xp_bl (Or.inl rfl) tb_571 tb_4 ⟨Nat.le_trans (Nat.le_of_ble_eq_true rfl) hR.1, Nat.le_trans (Nat.le_of_ble_eq_true rfl) hR.2⟩ h1 tb_477 hx0 ⟨by decide, by decide⟩ (CN := cN (pk P i)) (by rw [e0]; exact tb_476) tb_475 (x_recv hw hi hk) (fun U hU hW => x_post hw hU hW) (by show _ = some 1; decide +kernel) hsize rfl hW hdg ⟨Nat.le_trans (Nat.add_le_add_left (Nat.le_of_ble_eq_true rfl) _) hf.1, Nat.le_trans (Nat.add_le_add_left (Nat.le_of_ble_eq_true rfl) _) hf.2⟩) (Nat.le_of_ble_eq_true rfl) (Nat.le_of_ble_eq_true rfl)
  · rw [show tR (pk P i) F i h = (tP (pk P i) F i) by unfold tR; rw [if_neg (by rw [e0]; decide), if_neg (by rw [e0]; decide), if_neg (by rw [e0]; decide), if_neg (by rw [e0]; decide), if_neg (by rw [e0]; decide)], show tB (pk P i) h B = (tPB (pk P i) B) by unfold tB; rw [if_neg (by rw [e0]; decide), if_neg (by rw [e0]; decide), if_neg (by rw [e0]; decide), if_neg (by rw [e0]; decide), if_neg (by rw [e0]; decide)]]
    exact ctR_wide (ct_V C (c_X4_tollAct l D A P F B G dk i h hi hk) Xp_bl (Or.inl rfl) tb_571 tb_4 ⟨Nat.le_trans (Nat.le_of_ble_eq_true rfl) hR.1, Nat.le_trans (Nat.le_of_ble_eq_true rfl) hR.2⟩ h1 tb_477 hx0 ⟨by decide, by decide⟩ (CN := cN (pk P i)) (by rw [e0]; exact tb_570) tb_475 (x_recv hw hi hk) (fun U hU hW => x_post hw hU hW) (by show _ = some 1; decide +kernel) hsize rfl hW hdg ⟨Nat.le_trans (Nat.add_le_add_left (Nat.le_of_ble_eq_true rfl) _) hf.1, Nat.le_trans (Nat.add_le_add_left (Nat.le_of_ble_eq_true rfl) _) hf.2⟩) (Nat.le_of_ble_eq_true rfl) (Nat.le_of_ble_eq_true rfl)
  · rw [show tR (pk P i) F i h = (tP (pk P i) F i + 10) by unfold tR; rw [if_pos e0], show tB (pk P i) h B = (tPB (pk P i) (iB B 2)) by unfold tB; rw [if_pos e0]]
    exact ctR_wide (ct_V C (c_X3_tollAct l D A P F B G dk i h hi hk) Xp_bl (Or.inl rfl) tb_484 tb_6 ⟨Nat.le_trans (Nat.le_of_ble_eq_true rfl) hR.1, Nat.le_trans (Nat.le_of_ble_eq_true rfl) hR.2⟩ h1 tb_477 hx0 ⟨by decide, by decide⟩ (CN := cN (pk P i)) (by rw [e0]; exact tb_488) tb_483 (x_recv hw hi hk) (fun U hU hW => x_post hw hU hW) (by show _ = some 1; decide +kernel) hsize rfl hW hdg ⟨Nat.le_trans (Nat.add_le_add_left (Nat.le_of_ble_eq_true rfl) _) hf.1, Nat.le_trans (Nat.add_le_add_left (Nat.le_of_ble_eq_true rfl) _) hf.2⟩) (Nat.le_of_ble_eq_true rfl) (Nat.le_of_ble_eq_true rfl)
  · rw [show tR (pk P i) F i h = (if 20 ≤ h then 2 * (tP (pk P i) F i + 10) else if 6 ≤ h then tP (pk P i) F i + 10 + F i 9 else 2 * (tP (pk P i) F i + 10)) by unfold tR; rw [if_neg (by rw [e0]; decide), if_pos e0], show tB (pk P i) h B = (tPB (pk P i) (iB (iB B 3) 2)) by unfold tB; rw [if_neg (by rw [e0]; decide), if_pos e0]]
    exact ctR_wide (ct_V C (c_X2_tollAct l D A P F B G dk i h hi hk) Xp_bl (Or.inl rfl) tb_481 tb_7 ⟨Nat.le_trans (Nat.le_of_ble_eq_true rfl) hR.1, Nat.le_trans (Nat.le_of_ble_eq_true rfl) hR.2⟩ h1 tb_477 hx0 ⟨by decide, by decide⟩ (CN := cN (pk P i)) (by rw [e0]; exact tb_479) tb_480 (x_recv hw hi hk) (fun U hU hW => x_post hw hU hW) (by show _ = some 1; decide +kernel) hsize rfl hW hdg ⟨Nat.le_trans (Nat.add_le_add_left (Nat.le_of_ble_eq_true rfl) _) hf.1, Nat.le_trans (Nat.add_le_add_left (Nat.le_of_ble_eq_true rfl) _) hf.2⟩) (Nat.le_of_ble_eq_true rfl) (Nat.le_of_ble_eq_true rfl)
  · rw [show tR (pk P i) F i h = (tP (pk P i) F i) by unfold tR; rw [if_neg (by rw [e0]; decide), if_neg (by rw [e0]; decide), if_neg (by rw [e0]; decide), if_neg (by rw [e0]; decide), if_neg (by rw [e0]; decide)], show tB (pk P i) h B = (tPB (pk P i) B) by unfold tB; rw [if_neg (by rw [e0]; decide), if_neg (by rw [e0]; decide), if_neg (by rw [e0]; decide), if_neg (by rw [e0]; decide), if_neg (by rw [e0]; decide)]]
    exact ctR_wide (ct_V C (c_X4_tollAct l D A P F B G dk i h hi hk) Xp_bl (Or.inl rfl) tb_571 tb_4 ⟨Nat.le_trans (Nat.le_of_ble_eq_true rfl) hR.1, Nat.le_trans (Nat.le_of_ble_eq_true rfl) hR.2⟩ h1 tb_477 hx0 ⟨by decide, by decide⟩ (CN := cN (pk P i)) (by rw [e0]; exact tb_564) tb_475 (x_recv hw hi hk) (fun U hU hW => x_post hw hU hW) (by show _ = some 1; decide +kernel) hsize rfl hW hdg ⟨Nat.le_trans (Nat.add_le_add_left (Nat.le_of_ble_eq_true rfl) _) hf.1, Nat.le_trans (Nat.add_le_add_left (Nat.le_of_ble_eq_true rfl) _) hf.2⟩) (Nat.le_of_ble_eq_true rfl) (Nat.le_of_ble_eq_true rfl)
  · rw [show tR (pk P i) F i h = (tP (pk P i) F i + 50) by unfold tR; rw [if_neg (by rw [e0]; decide), if_neg (by rw [e0]; decide), if_pos e0], show tB (pk P i) h B = (tPB (pk P i) (iB B 5)) by unfold tB; rw [if_neg (by rw [e0]; decide), if_neg (by rw [e0]; decide), if_pos e0]]
    exact ctR_wide (ct_V C (c_X8_tollAct l D A P F B G dk i h hi hk) Xp_bl (Or.inl rfl) tb_567 tb_9 ⟨Nat.le_trans (Nat.le_of_ble_eq_true rfl) hR.1, Nat.le_trans (Nat.le_of_ble_eq_true rfl) hR.2⟩ h1 tb_477 hx0 ⟨by decide, by decide⟩ (CN := cN (pk P i)) (by rw [e0]; exact tb_565) tb_566 (x_recv hw hi hk) (fun U hU hW => x_post hw hU hW) (by show _ = some 1; decide +kernel) hsize rfl hW hdg ⟨Nat.le_trans (Nat.add_le_add_left (Nat.le_of_ble_eq_true rfl) _) hf.1, Nat.le_trans (Nat.add_le_add_left (Nat.le_of_ble_eq_true rfl) _) hf.2⟩) (Nat.le_of_ble_eq_true rfl) (Nat.le_of_ble_eq_true rfl)
  · rw [show tR (pk P i) F i h = (tP (pk P i) F i) by unfold tR; rw [if_neg (by rw [e0]; decide), if_neg (by rw [e0]; decide), if_neg (by rw [e0]; decide), if_neg (by rw [e0]; decide), if_neg (by rw [e0]; decide)], show tB (pk P i) h B = (tPB (pk P i) B) by unfold tB; rw [if_neg (by rw [e0]; decide), if_neg (by rw [e0]; decide), if_neg (by rw [e0]; decide), if_neg (by rw [e0]; decide), if_neg (by rw [e0]; decide)]]
    exact ctR_wide (ct_V C (c_X4_tollAct l D A P F B G dk i h hi hk) Xp_bl (Or.inl rfl) tb_571 tb_4 ⟨Nat.le_trans (Nat.le_of_ble_eq_true rfl) hR.1, Nat.le_trans (Nat.le_of_ble_eq_true rfl) hR.2⟩ h1 tb_477 hx0 ⟨by decide, by decide⟩ (CN := cN (pk P i)) (by rw [e0]; exact tb_478) tb_475 (x_recv hw hi hk) (fun U hU hW => x_post hw hU hW) (by show _ = some 1; decide +kernel) hsize rfl hW hdg ⟨Nat.le_trans (Nat.add_le_add_left (Nat.le_of_ble_eq_true rfl) _) hf.1, Nat.le_trans (Nat.add_le_add_left (Nat.le_of_ble_eq_true rfl) _) hf.2⟩) (Nat.le_of_ble_eq_true rfl) (Nat.le_of_ble_eq_true rfl)
  · rw [show tR (pk P i) F i h = (if 22 ≤ h then 0 else if 5 ≤ h then tP (pk P i) F i else 0) by unfold tR; rw [if_neg (by rw [e0]; decide), if_neg (by rw [e0]; decide), if_neg (by rw [e0]; decide), if_pos e0], show tB (pk P i) h B = (if 22 ≤ h then iB B 7 else if 5 ≤ h then tPB (pk P i) (iB B 7) else iB B 7) by unfold tB; rw [if_neg (by rw [e0]; decide), if_neg (by rw [e0]; decide), if_neg (by rw [e0]; decide), if_pos e0]]
    exact ctR_wide (ct_V C (c_X6_tollAct l D A P F B G dk i h hi hk) Xp_bl (Or.inl rfl) tb_561 tb_11 ⟨Nat.le_trans (Nat.le_of_ble_eq_true rfl) hR.1, Nat.le_trans (Nat.le_of_ble_eq_true rfl) hR.2⟩ h1 tb_477 hx0 ⟨by decide, by decide⟩ (CN := cN (pk P i)) (by rw [e0]; exact tb_559) tb_560 (x_recv hw hi hk) (fun U hU hW => x_post hw hU hW) (by show _ = some 1; decide +kernel) hsize rfl hW hdg ⟨Nat.le_trans (Nat.add_le_add_left (Nat.le_of_ble_eq_true rfl) _) hf.1, Nat.le_trans (Nat.add_le_add_left (Nat.le_of_ble_eq_true rfl) _) hf.2⟩) (Nat.le_of_ble_eq_true rfl) (Nat.le_of_ble_eq_true rfl)
end XV2
set_option maxHeartbeats 400000 in
set_option maxRecDepth 100000 in
/-- CART: it is ashore, the others keep their order -/
theorem c_X4_leaveAct (l : Launch) (D : va_G) (A : Nat → Prop) (P : SwP) (F : Nat → Nat → Int32) (B G : Nat → Int32) (dk : List Nat) (i : Nat) (hO : Ok P F dk) (hi : i < pn P) (hk : pk P i < 9) : Ct l yX4_leaveAct (.code yX4_leaveAct cX4_leaveAct 1 none) ({ frames := 1, cells := 0, slots := 0, locals := 24 }) A [.ref (pa P i)] (fun U => Asg U ∧ Xp D A P F B G dk U) (.inl none) (Xp D A P (uF F i 6 0) (iB B 0) (G) (dk.erase i)) := by
  refine ct_mk (by decide) (Nat.le_of_ble_eq_true rfl) (fun p e s m below meth c ls C hr hlocks hnm htab hP hl => ?_)
  obtain ⟨hg, hw⟩ := hP
  have hS : va_S A s.heap s.heap [] := va_S.rf
  have hl : lv_has ls 1 [(0, .ref (pa P i))] := hl
  refine x_begun C hw hi hk tb_111 (Or.inl rfl) tb_38 (lv_at hl 0 rfl) dX4_leaveAct_0 dX4_leaveAct_1 dX4_leaveAct_4 ?_
  refine lv_iconst (v := 0) C.1 C.2.1 dX4_leaveAct_7 (by decide) ?_
  refine x_inc C hw hS (j := 0) (by decide) (by decide) dX4_leaveAct_8 dX4_leaveAct_9 dX4_leaveAct_10 dX4_leaveAct_11 dX4_leaveAct_12 (fun H locs hw hS => ?_)
  refine lv_aload_n C.1 C.2.1 dX4_leaveAct_13 rfl (lv_at hl 0 rfl) ?_
  refine lv_iconst (v := 0) C.1 C.2.1 dX4_leaveAct_14 (by decide) ?_
  refine xv_put C hw hS hi hk 6 (by decide) (by decide) tb_146 (Or.inl rfl) dX4_leaveAct_15 (fun H locs hw hS => ?_)
  refine lv_aload_n C.1 C.2.1 dX4_leaveAct_18 rfl (lv_at hl 0 rfl) ?_
  refine xv_get C hw hi hk 0 (by decide) tb_111 (Or.inl rfl) rfl dX4_leaveAct_19 ?_
  refine lv_aload_n C.1 C.2.1 dX4_leaveAct_22 rfl (lv_at hl 0 rfl) ?_
  refine ct_ret (ct_V0 C (c_X0_letOff l D A P _ _ _ _ (hO.uf (by decide)) i hi hk) Xg_bl (Or.inl rfl) tb_411 tb_2 ⟨Nat.le_of_ble_eq_true rfl, Nat.le_of_ble_eq_true rfl⟩ tb_408 ⟨by decide, by decide⟩ tb_410 tb_409 (x_recvB hw) (fun U hU hW => ⟨hg.moved hW.alike, x_post hw hU hW⟩) (sig_code (C.2.2.2.2 _ tb_411)) (by show _ = some 1; decide +kernel) hl.1 rfl (Nat.le_of_ble_eq_true rfl) dX4_leaveAct_23 ⟨Nat.le_of_ble_eq_true rfl, Nat.le_of_ble_eq_true rfl⟩) hS (fun _ h => h) (fun t H locs ht hvm hw _ _ hS => ?_)
  have hw := x_back hw ht hvm
  exact ct_v C hr hlocks rfl (fun t ht hW => x_post hw ht hW) hS (Nat.le_of_ble_eq_true rfl) (Nat.le_of_ble_eq_true rfl) dX4_leaveAct_26
set_option maxHeartbeats 400000 in
set_option maxRecDepth 100000 in
/-- CAB: UNDER, METER is 0 -/
theorem c_X2_leaveAct (l : Launch) (D : va_G) (A : Nat → Prop) (P : SwP) (F : Nat → Nat → Int32) (B G : Nat → Int32) (dk : List Nat) (i : Nat) (hO : Ok P F dk) (hi : i < pn P) (hk : pk P i < 9) : Ct l yX2_leaveAct (.code yX2_leaveAct cX2_leaveAct 1 none) ({ frames := 2, cells := 0, slots := 0, locals := 44 }) A [.ref (pa P i)] (fun U => Asg U ∧ Xp D A P F B G dk U) (.inl none) (Xp D A P (uF (uF F i 6 0) i 9 0) (iB (iB B 3) 0) (G) (dk.erase i)) := by
  refine ct_mk (by decide) (Nat.le_of_ble_eq_true rfl) (fun p e s m below meth c ls C hr hlocks hnm htab hP hl => ?_)
  obtain ⟨hg, hw⟩ := hP
  have hS : va_S A s.heap s.heap [] := va_S.rf
  have hl : lv_has ls 1 [(0, .ref (pa P i))] := hl
  refine x_begun C hw hi hk tb_118 (Or.inr tb_119) tb_42 (lv_at hl 0 rfl) dX2_leaveAct_0 dX2_leaveAct_1 dX2_leaveAct_4 ?_
  refine lv_iconst (v := 3) C.1 C.2.1 dX2_leaveAct_7 (by decide) ?_
  refine x_inc C hw hS (j := 3) (by decide) (by decide) dX2_leaveAct_8 dX2_leaveAct_9 dX2_leaveAct_10 dX2_leaveAct_11 dX2_leaveAct_12 (fun H locs hw hS => ?_)
  refine lv_aload_n C.1 C.2.1 dX2_leaveAct_13 rfl (lv_at hl 0 rfl) ?_
  refine ct_ret (x_SU C hw hi hk (c_X4_leaveAct l D A P _ _ _ _ i hO hi hk) Xg_bl (fun U hU hW => ⟨hg.moved hW.alike, x_post hw hU hW⟩) tb_407 tb_4 tb_381 tb_393 tb_394 ⟨rfl, rfl⟩ tb_210 (by decide) (sup2 C hw tb_193 tb_176) (by show _ = some 0; decide +kernel) hl.1 dX2_leaveAct_14 ⟨Nat.le_of_ble_eq_true rfl, Nat.le_of_ble_eq_true rfl⟩ rfl (Nat.le_of_ble_eq_true rfl) ⟨Nat.le_of_ble_eq_true rfl, Nat.le_of_ble_eq_true rfl⟩) hS (fun _ h => h) (fun t H locs ht hvm hw _ _ hS => ?_)
  have hw := x_back hw ht hvm
  refine lv_aload_n C.1 C.2.1 dX2_leaveAct_17 rfl (lv_at hl 0 rfl) ?_
  refine lv_iconst (v := 0) C.1 C.2.1 dX2_leaveAct_18 (by decide) ?_
  refine xv_put C hw hS hi hk 9 (by decide) (by decide) tb_153 (Or.inr tb_154) dX2_leaveAct_19 (fun H locs hw hS => ?_)
  exact ct_v C hr hlocks rfl (fun t ht hW => x_post hw ht hW) hS (Nat.le_of_ble_eq_true rfl) (Nat.le_of_ble_eq_true rfl) dX2_leaveAct_22
set_option maxHeartbeats 400000 in
set_option maxRecDepth 100000 in
/-- LORRY: UNDER, LOAD is LOAD / 2 -/
theorem c_X7_leaveAct (l : Launch) (D : va_G) (A : Nat → Prop) (P : SwP) (F : Nat → Nat → Int32) (B G : Nat → Int32) (dk : List Nat) (i : Nat) (hO : Ok P F dk) (hi : i < pn P) (hk : pk P i < 9) : Ct l yX7_leaveAct (.code yX7_leaveAct cX7_leaveAct 1 none) ({ frames := 2, cells := 0, slots := 0, locals := 44 }) A [.ref (pa P i)] (fun U => Asg U ∧ Xp D A P F B G dk U) (.inl none) (Xp D A P (uF (uF F i 6 0) i 5 (F i 5 / 2)) (iB (iB B 4) 0) (G) (dk.erase i)) := by
  refine ct_mk (by decide) (Nat.le_of_ble_eq_true rfl) (fun p e s m below meth c ls C hr hlocks hnm htab hP hl => ?_)
  obtain ⟨hg, hw⟩ := hP
  have hS : va_S A s.heap s.heap [] := va_S.rf
  have hl : lv_has ls 1 [(0, .ref (pa P i))] := hl
  refine x_begun C hw hi hk tb_112 (Or.inr tb_113) tb_39 (lv_at hl 0 rfl) dX7_leaveAct_0 dX7_leaveAct_1 dX7_leaveAct_4 ?_
  refine lv_iconst (v := 4) C.1 C.2.1 dX7_leaveAct_7 (by decide) ?_
  refine x_inc C hw hS (j := 4) (by decide) (by decide) dX7_leaveAct_8 dX7_leaveAct_9 dX7_leaveAct_10 dX7_leaveAct_11 dX7_leaveAct_12 (fun H locs hw hS => ?_)
  refine lv_aload_n C.1 C.2.1 dX7_leaveAct_13 rfl (lv_at hl 0 rfl) ?_
  refine ct_ret (x_SU C hw hi hk (c_X4_leaveAct l D A P _ _ _ _ i hO hi hk) Xg_bl (fun U hU hW => ⟨hg.moved hW.alike, x_post hw hU hW⟩) tb_407 tb_4 tb_381 tb_387 tb_388 ⟨rfl, rfl⟩ tb_227 (by decide) (sup1 C tb_176) (by show _ = some 0; decide +kernel) hl.1 dX7_leaveAct_14 ⟨Nat.le_of_ble_eq_true rfl, Nat.le_of_ble_eq_true rfl⟩ rfl (Nat.le_of_ble_eq_true rfl) ⟨Nat.le_of_ble_eq_true rfl, Nat.le_of_ble_eq_true rfl⟩) hS (fun _ h => h) (fun t H locs ht hvm hw _ _ hS => ?_)
  have hw := x_back hw ht hvm
  refine lv_aload_n C.1 C.2.1 dX7_leaveAct_17 rfl (lv_at hl 0 rfl) ?_
  refine lv_aload_n C.1 C.2.1 dX7_leaveAct_18 rfl (lv_at hl 0 rfl) ?_
  refine xv_get C hw hi hk 5 (by decide) tb_141 (Or.inr tb_142) rfl dX7_leaveAct_19 ?_
  refine lv_iconst (v := 2) C.1 C.2.1 dX7_leaveAct_22 (by decide) ?_
  refine lv_idiv C.1 C.2.1 dX7_leaveAct_23 (by decide) ?_
  refine xv_put C hw hS hi hk 5 (by decide) (by decide) tb_141 (Or.inr tb_142) dX7_leaveAct_24 (fun H locs hw hS => ?_)
  rw [uF_ne (b := 5) (v := 6) (by decide)] at hw
  exact ct_v C hr hlocks rfl (fun t ht hW => x_post hw ht hW) hS (Nat.le_of_ble_eq_true rfl) (Nat.le_of_ble_eq_true rfl) dX7_leaveAct_27
set_option maxHeartbeats 400000 in
set_option maxRecDepth 100000 in
/-- TANKER: UNDER, LIMIT is 100 more (9000 at most) -/
theorem c_X8_leaveAct (l : Launch) (D : va_G) (A : Nat → Prop) (P : SwP) (F : Nat → Nat → Int32) (B G : Nat → Int32) (dk : List Nat) (i : Nat) (hO : Ok P F dk) (hi : i < pn P) (hk : pk P i < 9) : Ct l yX8_leaveAct (.code yX8_leaveAct cX8_leaveAct 1 none) ({ frames := 3, cells := 0, slots := 0, locals := 64 }) A [.ref (pa P i)] (fun U => Asg U ∧ Xp D A P F B G dk U) (.inl none) (Xp D A P (uF (uF F i 6 0) i 5 (F i 5 / 2)) (iB (iB (iB B 5) 4) 0) (upd G 3 (mn (G 3 + 100) 9000)) (dk.erase i)) := by
  refine ct_mk (by decide) (Nat.le_of_ble_eq_true rfl) (fun p e s m below meth c ls C hr hlocks hnm htab hP hl => ?_)
  obtain ⟨hg, hw⟩ := hP
  have hS : va_S A s.heap s.heap [] := va_S.rf
  have hl : lv_has ls 1 [(0, .ref (pa P i))] := hl
  refine x_begun C hw hi hk tb_116 (Or.inr tb_117) tb_41 (lv_at hl 0 rfl) dX8_leaveAct_0 dX8_leaveAct_1 dX8_leaveAct_4 ?_
  refine lv_iconst (v := 5) C.1 C.2.1 dX8_leaveAct_7 (by decide) ?_
  refine x_inc C hw hS (j := 5) (by decide) (by decide) dX8_leaveAct_8 dX8_leaveAct_9 dX8_leaveAct_10 dX8_leaveAct_11 dX8_leaveAct_12 (fun H locs hw hS => ?_)
  refine lv_aload_n C.1 C.2.1 dX8_leaveAct_13 rfl (lv_at hl 0 rfl) ?_
  refine ct_ret (x_SU C hw hi hk (c_X7_leaveAct l D A P _ _ _ _ i hO hi hk) Xg_bl (fun U hU hW => ⟨hg.moved hW.alike, x_post hw hU hW⟩) tb_386 tb_8 tb_385 tb_402 tb_887 ⟨rfl, rfl⟩ tb_244 (by decide) sup0 (by show _ = some 0; decide +kernel) hl.1 dX8_leaveAct_14 ⟨Nat.le_of_ble_eq_true rfl, Nat.le_of_ble_eq_true rfl⟩ rfl (Nat.le_of_ble_eq_true rfl) ⟨Nat.le_of_ble_eq_true rfl, Nat.le_of_ble_eq_true rfl⟩) hS (fun _ h => h) (fun t H locs ht hvm hw _ _ hS => ?_)
  have hw := x_back hw ht hvm
  refine lv_aload_n C.1 C.2.1 dX8_leaveAct_17 rfl (lv_at hl 0 rfl) ?_
  refine xv_get C hw hi hk 0 (by decide) tb_116 (Or.inr tb_117) rfl dX8_leaveAct_18 ?_
  refine lv_aload_n C.1 C.2.1 dX8_leaveAct_21 rfl (lv_at hl 0 rfl) ?_
  refine xv_get C hw hi hk 0 (by decide) tb_116 (Or.inr tb_117) rfl dX8_leaveAct_22 ?_
  refine xb_get C hw 3 (by decide) tb_52 rfl dX8_leaveAct_25 ?_
  refine lv_bipush (v := 100) C.1 C.2.1 dX8_leaveAct_28 (by decide) ?_
  refine lv_iadd C.1 C.2.1 dX8_leaveAct_30 ?_
  refine lv_sipush (v := 9000) C.1 C.2.1 dX8_leaveAct_31 (by decide) ?_
  refine va_mmin C.1 C.2.1 (by rw [C.2.2.1]; exact hl.1.symm) C.2.2.2.1 (C.2.2.2.2 _ tb_403) (C.2.2.2.2 _ tb_404) (C.2.2.2.2 _ tb_18) (C.2.2.2.2 _ h_mmin) (Nat.le_of_ble_eq_true rfl) (Nat.le_of_ble_eq_true rfl) (Nat.le_of_ble_eq_true rfl) (Nat.le_of_ble_eq_true rfl) dX8_leaveAct_34 ?_
  refine xb_puti C hw hS 3 (by decide) tb_52 dX8_leaveAct_37 (fun H locs hw hS => ?_)
  exact ct_v C hr hlocks rfl (fun t ht hW => x_post hw ht hW) hS (Nat.le_of_ble_eq_true rfl) (Nat.le_of_ble_eq_true rfl) dX8_leaveAct_40
section XV3
variable {p : Program} {l : Launch} {e : Env} {R : Room} {s : State} {m : MethodId} {args : Array Value} {below : List Frame} {meth : Method} {c : Code} {H : Heap} {locs : List Loc} {cells slots : Nat}
variable {cc : ByteArray} {nL index pc : Nat} {ls : Array Slot} {rest : List Value} {own : String} {D : va_G} {A : Nat → Prop} {P : SwP} {F : Nat → Nat → Int32} {B G : Nat → Int32} {dk : List Nat} {i : Nat}

set_option maxHeartbeats 400000 in
set_option maxRecDepth 100000 in
theorem v_leave (C : CallFix p m c cc nL s args wB own) (hw : XwR D A P F B G (nI dk.length) (dfd P dk) s H) (hi : i < pn P) (hk : pk P i < 9) (hO : Ok P F dk) (hg : Asg s) (h1 : Cond.methodLink own index ⟨"SwingBridge$Cart", "leaveAct", "()V"⟩ ∈ wB) (hsize : ls.size = nL) (hdg : decode cc pc = .ok (.invokevirtual index, 3)) (hR : 4 ≤ R.frames ∧ 84 ≤ R.locals) (hW : (rest.map fun v => v.category).sum ≤ 8) (hf : cells + 0 ≤ R.cells ∧ slots + 0 ≤ R.slots) :
    CtR p l e R s m args below meth c H locs cells slots (F0 m pc ls (.ref (pa P i) :: rest)) rest ({ frames := 3, cells := 0, slots := 0, locals := 64 }) A (.inl none) (Xp D A P (lR (pk P) i (F, B, G, dk)).1 (lR (pk P) i (F, B, G, dk)).2.1 (lR (pk P) i (F, B, G, dk)).2.2.1 (lR (pk P) i (F, B, G, dk)).2.2.2) := by
  have hx0 : va_Decl s ⟨"SwingBridge$Cart", "leaveAct", "()V"⟩ := va_Decl.of (C.2.2.2.2 _ tb_381) (C.2.2.2.2 _ tb_407)
  rcases (show pk P i = 0 ∨ pk P i = 1 ∨ pk P i = 2 ∨ pk P i = 3 ∨ pk P i = 4 ∨ pk P i = 5 ∨ pk P i = 6 ∨ pk P i = 7 ∨ pk P i = 8 by omega) with e0 | e0 | e0 | e0 | e0 | e0 | e0 | e0 | e0
  · rw [show lR (pk P) i (F, B, G, dk) = (uF F i 6 0, iB B 0, G, dk.erase i) by unfold lR; rw [if_neg (by rw [e0]; decide), if_neg (by rw [e0]; decide), if_neg (by rw [e0]; decide)]]
    exact ctR_wide (ct_V C (c_X4_leaveAct l D A P F B G dk i hO hi hk) Xg_bl (Or.inl rfl) tb_407 tb_4 ⟨Nat.le_trans (Nat.le_of_ble_eq_true rfl) hR.1, Nat.le_trans (Nat.le_of_ble_eq_true rfl) hR.2⟩ h1 tb_383 hx0 ⟨by decide, by decide⟩ (CN := cN (pk P i)) (by rw [e0]; exact tb_382) tb_381 (x_recv hw hi hk) (fun U hU hW => ⟨hg.moved hW.alike, x_post hw hU hW⟩) (by show _ = some 0; decide +kernel) hsize rfl hW hdg ⟨Nat.le_trans (Nat.add_le_add_left (Nat.le_of_ble_eq_true rfl) _) hf.1, Nat.le_trans (Nat.add_le_add_left (Nat.le_of_ble_eq_true rfl) _) hf.2⟩) (Nat.le_of_ble_eq_true rfl) (Nat.le_of_ble_eq_true rfl)
  · rw [show lR (pk P) i (F, B, G, dk) = (uF F i 6 0, iB B 0, G, dk.erase i) by unfold lR; rw [if_neg (by rw [e0]; decide), if_neg (by rw [e0]; decide), if_neg (by rw [e0]; decide)]]
    exact ctR_wide (ct_V C (c_X4_leaveAct l D A P F B G dk i hO hi hk) Xg_bl (Or.inl rfl) tb_407 tb_4 ⟨Nat.le_trans (Nat.le_of_ble_eq_true rfl) hR.1, Nat.le_trans (Nat.le_of_ble_eq_true rfl) hR.2⟩ h1 tb_383 hx0 ⟨by decide, by decide⟩ (CN := cN (pk P i)) (by rw [e0]; exact tb_406) tb_381 (x_recv hw hi hk) (fun U hU hW => ⟨hg.moved hW.alike, x_post hw hU hW⟩) (by show _ = some 0; decide +kernel) hsize rfl hW hdg ⟨Nat.le_trans (Nat.add_le_add_left (Nat.le_of_ble_eq_true rfl) _) hf.1, Nat.le_trans (Nat.add_le_add_left (Nat.le_of_ble_eq_true rfl) _) hf.2⟩) (Nat.le_of_ble_eq_true rfl) (Nat.le_of_ble_eq_true rfl)
  · rw [show lR (pk P) i (F, B, G, dk) = (uF F i 6 0, iB B 0, G, dk.erase i) by unfold lR; rw [if_neg (by rw [e0]; decide), if_neg (by rw [e0]; decide), if_neg (by rw [e0]; decide)]]
    exact ctR_wide (ct_V C (c_X4_leaveAct l D A P F B G dk i hO hi hk) Xg_bl (Or.inl rfl) tb_407 tb_4 ⟨Nat.le_trans (Nat.le_of_ble_eq_true rfl) hR.1, Nat.le_trans (Nat.le_of_ble_eq_true rfl) hR.2⟩ h1 tb_383 hx0 ⟨by decide, by decide⟩ (CN := cN (pk P i)) (by rw [e0]; exact tb_395) tb_381 (x_recv hw hi hk) (fun U hU hW => ⟨hg.moved hW.alike, x_post hw hU hW⟩) (by show _ = some 0; decide +kernel) hsize rfl hW hdg ⟨Nat.le_trans (Nat.add_le_add_left (Nat.le_of_ble_eq_true rfl) _) hf.1, Nat.le_trans (Nat.add_le_add_left (Nat.le_of_ble_eq_true rfl) _) hf.2⟩) (Nat.le_of_ble_eq_true rfl) (Nat.le_of_ble_eq_true rfl)
  · rw [show lR (pk P) i (F, B, G, dk) = (uF (uF F i 6 0) i 9 0, iB (iB B 3) 0, G, dk.erase i) by unfold lR; rw [if_pos e0]]
    exact ctR_wide (ct_V C (c_X2_leaveAct l D A P F B G dk i hO hi hk) Xg_bl (Or.inl rfl) tb_392 tb_7 ⟨Nat.le_trans (Nat.le_of_ble_eq_true rfl) hR.1, Nat.le_trans (Nat.le_of_ble_eq_true rfl) hR.2⟩ h1 tb_383 hx0 ⟨by decide, by decide⟩ (CN := cN (pk P i)) (by rw [e0]; exact tb_390) tb_391 (x_recv hw hi hk) (fun U hU hW => ⟨hg.moved hW.alike, x_post hw hU hW⟩) (by show _ = some 0; decide +kernel) hsize rfl hW hdg ⟨Nat.le_trans (Nat.add_le_add_left (Nat.le_of_ble_eq_true rfl) _) hf.1, Nat.le_trans (Nat.add_le_add_left (Nat.le_of_ble_eq_true rfl) _) hf.2⟩) (Nat.le_of_ble_eq_true rfl) (Nat.le_of_ble_eq_true rfl)
  · rw [show lR (pk P) i (F, B, G, dk) = (uF (uF F i 6 0) i 5 (F i 5 / 2), iB (iB B 4) 0, G, dk.erase i) by unfold lR; rw [if_neg (by rw [e0]; decide), if_neg (by rw [e0]; decide), if_pos (by rw [e0]; decide)]]
    exact ctR_wide (ct_V C (c_X7_leaveAct l D A P F B G dk i hO hi hk) Xg_bl (Or.inl rfl) tb_386 tb_8 ⟨Nat.le_trans (Nat.le_of_ble_eq_true rfl) hR.1, Nat.le_trans (Nat.le_of_ble_eq_true rfl) hR.2⟩ h1 tb_383 hx0 ⟨by decide, by decide⟩ (CN := cN (pk P i)) (by rw [e0]; exact tb_398) tb_385 (x_recv hw hi hk) (fun U hU hW => ⟨hg.moved hW.alike, x_post hw hU hW⟩) (by show _ = some 0; decide +kernel) hsize rfl hW hdg ⟨Nat.le_trans (Nat.add_le_add_left (Nat.le_of_ble_eq_true rfl) _) hf.1, Nat.le_trans (Nat.add_le_add_left (Nat.le_of_ble_eq_true rfl) _) hf.2⟩) (Nat.le_of_ble_eq_true rfl) (Nat.le_of_ble_eq_true rfl)
  · rw [show lR (pk P) i (F, B, G, dk) = (uF (uF F i 6 0) i 5 (F i 5 / 2), iB (iB (iB B 5) 4) 0, upd G 3 (mn (G 3 + 100) 9000), dk.erase i) by unfold lR; rw [if_neg (by rw [e0]; decide), if_pos e0]]
    exact ctR_wide (ct_V C (c_X8_leaveAct l D A P F B G dk i hO hi hk) Xg_bl (Or.inl rfl) tb_401 tb_9 ⟨Nat.le_trans (Nat.le_of_ble_eq_true rfl) hR.1, Nat.le_trans (Nat.le_of_ble_eq_true rfl) hR.2⟩ h1 tb_383 hx0 ⟨by decide, by decide⟩ (CN := cN (pk P i)) (by rw [e0]; exact tb_399) tb_400 (x_recv hw hi hk) (fun U hU hW => ⟨hg.moved hW.alike, x_post hw hU hW⟩) (by show _ = some 0; decide +kernel) hsize rfl hW hdg ⟨Nat.le_trans (Nat.add_le_add_left (Nat.le_of_ble_eq_true rfl) _) hf.1, Nat.le_trans (Nat.add_le_add_left (Nat.le_of_ble_eq_true rfl) _) hf.2⟩) (Nat.le_of_ble_eq_true rfl) (Nat.le_of_ble_eq_true rfl)
  · rw [show lR (pk P) i (F, B, G, dk) = (uF (uF F i 6 0) i 5 (F i 5 / 2), iB (iB B 4) 0, G, dk.erase i) by unfold lR; rw [if_neg (by rw [e0]; decide), if_neg (by rw [e0]; decide), if_pos (by rw [e0]; decide)]]
    exact ctR_wide (ct_V C (c_X7_leaveAct l D A P F B G dk i hO hi hk) Xg_bl (Or.inl rfl) tb_386 tb_8 ⟨Nat.le_trans (Nat.le_of_ble_eq_true rfl) hR.1, Nat.le_trans (Nat.le_of_ble_eq_true rfl) hR.2⟩ h1 tb_383 hx0 ⟨by decide, by decide⟩ (CN := cN (pk P i)) (by rw [e0]; exact tb_384) tb_385 (x_recv hw hi hk) (fun U hU hW => ⟨hg.moved hW.alike, x_post hw hU hW⟩) (by show _ = some 0; decide +kernel) hsize rfl hW hdg ⟨Nat.le_trans (Nat.add_le_add_left (Nat.le_of_ble_eq_true rfl) _) hf.1, Nat.le_trans (Nat.add_le_add_left (Nat.le_of_ble_eq_true rfl) _) hf.2⟩) (Nat.le_of_ble_eq_true rfl) (Nat.le_of_ble_eq_true rfl)
  · rw [show lR (pk P) i (F, B, G, dk) = (uF (uF F i 6 0) i 5 (F i 5 / 2), iB (iB B 4) 0, G, dk.erase i) by unfold lR; rw [if_neg (by rw [e0]; decide), if_neg (by rw [e0]; decide), if_pos (by rw [e0]; decide)]]
    exact ctR_wide (ct_V C (c_X7_leaveAct l D A P F B G dk i hO hi hk) Xg_bl (Or.inl rfl) tb_386 tb_8 ⟨Nat.le_trans (Nat.le_of_ble_eq_true rfl) hR.1, Nat.le_trans (Nat.le_of_ble_eq_true rfl) hR.2⟩ h1 tb_383 hx0 ⟨by decide, by decide⟩ (CN := cN (pk P i)) (by rw [e0]; exact tb_397) tb_385 (x_recv hw hi hk) (fun U hU hW => ⟨hg.moved hW.alike, x_post hw hU hW⟩) (by show _ = some 0; decide +kernel) hsize rfl hW hdg ⟨Nat.le_trans (Nat.add_le_add_left (Nat.le_of_ble_eq_true rfl) _) hf.1, Nat.le_trans (Nat.add_le_add_left (Nat.le_of_ble_eq_true rfl) _) hf.2⟩) (Nat.le_of_ble_eq_true rfl) (Nat.le_of_ble_eq_true rfl)
  · rw [show lR (pk P) i (F, B, G, dk) = (uF F i 6 0, iB B 0, G, dk.erase i) by unfold lR; rw [if_neg (by rw [e0]; decide), if_neg (by rw [e0]; decide), if_neg (by rw [e0]; decide)]]
    exact ctR_wide (ct_V C (c_X4_leaveAct l D A P F B G dk i hO hi hk) Xg_bl (Or.inl rfl) tb_407 tb_4 ⟨Nat.le_trans (Nat.le_of_ble_eq_true rfl) hR.1, Nat.le_trans (Nat.le_of_ble_eq_true rfl) hR.2⟩ h1 tb_383 hx0 ⟨by decide, by decide⟩ (CN := cN (pk P i)) (by rw [e0]; exact tb_396) tb_381 (x_recv hw hi hk) (fun U hU hW => ⟨hg.moved hW.alike, x_post hw hU hW⟩) (by show _ = some 0; decide +kernel) hsize rfl hW hdg ⟨Nat.le_trans (Nat.add_le_add_left (Nat.le_of_ble_eq_true rfl) _) hf.1, Nat.le_trans (Nat.add_le_add_left (Nat.le_of_ble_eq_true rfl) _) hf.2⟩) (Nat.le_of_ble_eq_true rfl) (Nat.le_of_ble_eq_true rfl)
end XV3
set_option maxHeartbeats 400000 in
set_option maxRecDepth 100000 in
/-- whether it has an ACCOUNT -/
theorem c_X4_hasAccount (l : Launch) (D : va_G) (A : Nat → Prop) (P : SwP) (F : Nat → Nat → Int32) (B G : Nat → Int32) (dk : List Nat) (i : Nat) (hi : i < pn P) (hk : pk P i < 9) : Ct l yX4_hasAccount (.code yX4_hasAccount cX4_hasAccount 1 (some .boolean)) ({ frames := 0, cells := 0, slots := 0, locals := 0 }) A [.ref (pa P i)] (Xp D A P F B G dk) (.inl (some (.int 0))) (Xp D A P F B G dk) := by
  refine ct_mk (by decide) (Nat.le_of_ble_eq_true rfl) (fun p e s m below meth c ls C hr hlocks hnm htab hP hl => ?_)
  have hw := hP
  have hS : va_S A s.heap s.heap [] := va_S.rf
  have hl : lv_has ls 1 [(0, .ref (pa P i))] := hl
  refine lv_iconst (v := 0) C.1 C.2.1 dX4_hasAccount_0 (by decide) ?_
  exact ct_z C hr hlocks (by decide) rfl (fun t ht hW => x_post hw ht hW) hS (Nat.le_of_ble_eq_true rfl) (Nat.le_of_ble_eq_true rfl) dX4_hasAccount_1
set_option maxHeartbeats 400000 in
set_option maxRecDepth 100000 in
/-- whether it has an ACCOUNT -/
theorem c_X2_hasAccount (l : Launch) (D : va_G) (A : Nat → Prop) (P : SwP) (F : Nat → Nat → Int32) (B G : Nat → Int32) (dk : List Nat) (i : Nat) (hi : i < pn P) (hk : pk P i < 9) : Ct l yX2_hasAccount (.code yX2_hasAccount cX2_hasAccount 1 (some .boolean)) ({ frames := 0, cells := 0, slots := 0, locals := 0 }) A [.ref (pa P i)] (Xp D A P F B G dk) (.inl (some (.int 1))) (Xp D A P F B G dk) := by
  refine ct_mk (by decide) (Nat.le_of_ble_eq_true rfl) (fun p e s m below meth c ls C hr hlocks hnm htab hP hl => ?_)
  have hw := hP
  have hS : va_S A s.heap s.heap [] := va_S.rf
  have hl : lv_has ls 1 [(0, .ref (pa P i))] := hl
  refine lv_iconst (v := 1) C.1 C.2.1 dX2_hasAccount_0 (by decide) ?_
  exact ct_z C hr hlocks (by decide) rfl (fun t ht hW => x_post hw ht hW) hS (Nat.le_of_ble_eq_true rfl) (Nat.le_of_ble_eq_true rfl) dX2_hasAccount_1
set_option maxHeartbeats 400000 in
set_option maxRecDepth 100000 in
/-- whether it has an ACCOUNT -/
theorem c_X1_hasAccount (l : Launch) (D : va_G) (A : Nat → Prop) (P : SwP) (F : Nat → Nat → Int32) (B G : Nat → Int32) (dk : List Nat) (i : Nat) (hi : i < pn P) (hk : pk P i < 9) : Ct l yX1_hasAccount (.code yX1_hasAccount cX1_hasAccount 1 (some .boolean)) ({ frames := 0, cells := 0, slots := 0, locals := 0 }) A [.ref (pa P i)] (Xp D A P F B G dk) (.inl (some (.int 1))) (Xp D A P F B G dk) := by
  refine ct_mk (by decide) (Nat.le_of_ble_eq_true rfl) (fun p e s m below meth c ls C hr hlocks hnm htab hP hl => ?_)
  have hw := hP
  have hS : va_S A s.heap s.heap [] := va_S.rf
  have hl : lv_has ls 1 [(0, .ref (pa P i))] := hl
  refine lv_iconst (v := 1) C.1 C.2.1 dX1_hasAccount_0 (by decide) ?_
  exact ct_z C hr hlocks (by decide) rfl (fun t ht hW => x_post hw ht hW) hS (Nat.le_of_ble_eq_true rfl) (Nat.le_of_ble_eq_true rfl) dX1_hasAccount_1
set_option maxHeartbeats 400000 in
set_option maxRecDepth 100000 in
/-- BILL -/
theorem c_X4_billOf (l : Launch) (D : va_G) (A : Nat → Prop) (P : SwP) (F : Nat → Nat → Int32) (B G : Nat → Int32) (dk : List Nat) (i : Nat) (h : Int32) (hi : i < pn P) (hk : pk P i < 9) (h8 : pk P i ≠ 8) : Ct l yX4_billOf (.code yX4_billOf cX4_billOf 3 (some .int)) ({ frames := 6, cells := 0, slots := 0, locals := 124 }) A [.ref (pa P i), .int h] (Xp D A P F B G dk) (.inl (some (.int (bR (pk P i) F i h)))) (Xp D A P F (bB (pk P i) h B) G dk) := by
  refine ct_mk (by decide) (Nat.le_of_ble_eq_true rfl) (fun p e s m below meth c ls C hr hlocks hnm htab hP hl => ?_)
  have hw := hP
  have hS : va_S A s.heap s.heap [] := va_S.rf
  have hl : lv_has ls 3 [(0, .ref (pa P i)), (1, .int h)] := hl
  refine lv_aload_n C.1 C.2.1 dX4_billOf_0 rfl (lv_at hl 0 rfl) ?_
  refine lv_iload_n C.1 C.2.1 dX4_billOf_1 rfl (lv_at hl 1 rfl) ?_
  refine ct_ret (v_tollA C hw hi hk h8 tb_474 hl.1 dX4_billOf_2 ⟨Nat.le_of_ble_eq_true rfl, Nat.le_of_ble_eq_true rfl⟩ (Nat.le_of_ble_eq_true rfl) ⟨Nat.le_of_ble_eq_true rfl, Nat.le_of_ble_eq_true rfl⟩) hS (fun _ h => h) (fun t H locs ht hvm hw _ _ hS => ?_)
  have hw := x_back hw ht hvm
  refine lv_istore_n (lv' := [(2, .int (tR (pk P i) F i h)), (0, .ref (pa P i)), (1, .int (h))]) C.1 C.2.1 dX4_billOf_5 rfl hl (by decide) rfl (fun ls hl => ?_)
  refine lv_iload_n C.1 C.2.1 dX4_billOf_6 rfl (lv_at hl 0 rfl) ?_
  refine lv_iload_n C.1 C.2.1 dX4_billOf_7 rfl (lv_at hl 0 rfl) ?_
  refine lv_aload_n C.1 C.2.1 dX4_billOf_8 rfl (lv_at hl 1 rfl) ?_
  refine ct_ret (v_rebate C hw hi hk tb_572 hl.1 dX4_billOf_9 ⟨Nat.le_of_ble_eq_true rfl, Nat.le_of_ble_eq_true rfl⟩ (Nat.le_of_ble_eq_true rfl) ⟨Nat.le_of_ble_eq_true rfl, Nat.le_of_ble_eq_true rfl⟩) hS (fun _ h => h) (fun t H locs ht hvm hw _ _ hS => ?_)
  have hw := x_back hw ht hvm
  refine lv_imul C.1 C.2.1 dX4_billOf_12 ?_
  refine lv_bipush (v := 100) C.1 C.2.1 dX4_billOf_13 (by decide) ?_
  refine lv_idiv C.1 C.2.1 dX4_billOf_15 (by decide) ?_
  refine lv_isub C.1 C.2.1 dX4_billOf_16 ?_
  exact ct_i C hr hlocks rfl (fun t ht hW => x_post hw ht hW) hS (Nat.le_of_ble_eq_true rfl) (Nat.le_of_ble_eq_true rfl) dX4_billOf_17
set_option maxHeartbeats 400000 in
set_option maxRecDepth 100000 in
/-- MONTH -/
theorem c_X4_monthOf (l : Launch) (D : va_G) (A : Nat → Prop) (P : SwP) (F : Nat → Nat → Int32) (B G : Nat → Int32) (dk : List Nat) (i : Nat) (n : Int32) (hi : i < pn P) (hka : pk P i = 3 ∨ pk P i = 6) : Ct l yX4_monthOf (.code yX4_monthOf cX4_monthOf 2 (some .int)) ({ frames := 7, cells := 0, slots := 0, locals := 146 }) A [.ref (pa P i), .int n] (Xp D A P F B G dk) (.inl (some (.int (20 * n + bR (pk P i) F i 12)))) (Xp D A P F (bB (pk P i) 12 B) G dk) := by
  refine ct_mk (by decide) (Nat.le_of_ble_eq_true rfl) (fun p e s m below meth c ls C hr hlocks hnm htab hP hl => ?_)
  have hw := hP
  have hS : va_S A s.heap s.heap [] := va_S.rf
  have hl : lv_has ls 2 [(0, .ref (pa P i)), (1, .int n)] := hl
  have hk : pk P i < 9 := by omega
  have h8 : pk P i ≠ 8 := by omega
  refine lv_bipush (v := 20) C.1 C.2.1 dX4_monthOf_0 (by decide) ?_
  refine lv_iload_n C.1 C.2.1 dX4_monthOf_2 rfl (lv_at hl 1 rfl) ?_
  refine lv_imul C.1 C.2.1 dX4_monthOf_3 ?_
  refine lv_aload_n C.1 C.2.1 dX4_monthOf_4 rfl (lv_at hl 0 rfl) ?_
  refine lv_bipush (v := 12) C.1 C.2.1 dX4_monthOf_5 (by decide) ?_
  have hx0 : va_Decl s ⟨"SwingBridge$Cart", "billOf", "(I)I"⟩ := va_Decl.of (C.2.2.2.2 _ tb_462) (C.2.2.2.2 _ tb_473)
  have hsel : Cond.selects (cN (pk P i)) ⟨"SwingBridge$Cart", "billOf", "(I)I"⟩ yX4_billOf ∈ wB := by
    rcases hka with e0 | e0
    · rw [e0]; exact tb_466
    · rw [e0]; exact tb_465
  refine ct_ret (ct_V C (c_X4_billOf l D A P F B G dk i 12 hi hk h8) Xp_bl (Or.inl rfl) tb_473 tb_4 ⟨Nat.le_of_ble_eq_true rfl, Nat.le_of_ble_eq_true rfl⟩ tb_596 tb_464 hx0 ⟨by decide, by decide⟩ hsel tb_462 (x_recv hw hi hk) (fun U hU hW => x_post hw hU hW) (by show _ = some 1; decide +kernel) hl.1 rfl (Nat.le_of_ble_eq_true rfl) dX4_monthOf_7 ⟨Nat.le_of_ble_eq_true rfl, Nat.le_of_ble_eq_true rfl⟩) hS (fun _ h => h) (fun t H locs ht hvm hw _ _ hS => ?_)
  have hw := x_back hw ht hvm
  refine lv_iadd C.1 C.2.1 dX4_monthOf_10 ?_
  exact ct_i C hr hlocks rfl (fun t ht hW => x_post hw ht hW) hS (Nat.le_of_ble_eq_true rfl) (Nat.le_of_ble_eq_true rfl) dX4_monthOf_11
set_option maxHeartbeats 400000 in
set_option maxRecDepth 100000 in
/-- MONTH -/
theorem c_X6_monthOf (l : Launch) (D : va_G) (A : Nat → Prop) (P : SwP) (F : Nat → Nat → Int32) (B G : Nat → Int32) (dk : List Nat) (i : Nat) (n : Int32) (hi : i < pn P) (hka : pk P i = 7) : Ct l yX6_monthOf (.code yX6_monthOf cX6_monthOf 2 (some .int)) ({ frames := 7, cells := 0, slots := 0, locals := 146 }) A [.ref (pa P i), .int n] (Xp D A P F B G dk) (.inl (some (.int (15 * n + bR (pk P i) F i 23)))) (Xp D A P F (bB (pk P i) 23 B) G dk) := by
  refine ct_mk (by decide) (Nat.le_of_ble_eq_true rfl) (fun p e s m below meth c ls C hr hlocks hnm htab hP hl => ?_)
  have hw := hP
  have hS : va_S A s.heap s.heap [] := va_S.rf
  have hl : lv_has ls 2 [(0, .ref (pa P i)), (1, .int n)] := hl
  have hk : pk P i < 9 := by omega
  have h8 : pk P i ≠ 8 := by omega
  refine lv_bipush (v := 15) C.1 C.2.1 dX6_monthOf_0 (by decide) ?_
  refine lv_iload_n C.1 C.2.1 dX6_monthOf_2 rfl (lv_at hl 1 rfl) ?_
  refine lv_imul C.1 C.2.1 dX6_monthOf_3 ?_
  refine lv_aload_n C.1 C.2.1 dX6_monthOf_4 rfl (lv_at hl 0 rfl) ?_
  refine lv_bipush (v := 23) C.1 C.2.1 dX6_monthOf_5 (by decide) ?_
  have hx0 : va_Decl s ⟨"SwingBridge$Cart", "billOf", "(I)I"⟩ := va_Decl.of (C.2.2.2.2 _ tb_462) (C.2.2.2.2 _ tb_473)
  have hsel : Cond.selects (cN (pk P i)) ⟨"SwingBridge$LateBus", "billOf", "(I)I"⟩ yX4_billOf ∈ wB := by
    have e0 := hka
    · rw [e0]; exact tb_591
  refine ct_ret (ct_V C (c_X4_billOf l D A P F B G dk i 23 hi hk h8) Xp_bl (Or.inl rfl) tb_473 tb_4 ⟨Nat.le_of_ble_eq_true rfl, Nat.le_of_ble_eq_true rfl⟩ tb_588 tb_589 hx0 ⟨by decide, by decide⟩ hsel tb_462 (x_recv hw hi hk) (fun U hU hW => x_post hw hU hW) (by show _ = some 1; decide +kernel) hl.1 rfl (Nat.le_of_ble_eq_true rfl) dX6_monthOf_7 ⟨Nat.le_of_ble_eq_true rfl, Nat.le_of_ble_eq_true rfl⟩) hS (fun _ h => h) (fun t H locs ht hvm hw _ _ hS => ?_)
  have hw := x_back hw ht hvm
  refine lv_iadd C.1 C.2.1 dX6_monthOf_10 ?_
  exact ct_i C hr hlocks rfl (fun t ht hW => x_post hw ht hW) hS (Nat.le_of_ble_eq_true rfl) (Nat.le_of_ble_eq_true rfl) dX6_monthOf_11
section XV4
variable {p : Program} {l : Launch} {e : Env} {R : Room} {s : State} {m : MethodId} {args : Array Value} {below : List Frame} {meth : Method} {c : Code} {H : Heap} {locs : List Loc} {cells slots : Nat}
variable {cc : ByteArray} {nL index pc : Nat} {ls : Array Slot} {rest : List Value} {own : String} {D : va_G} {A : Nat → Prop} {P : SwP} {F : Nat → Nat → Int32} {B G : Nat → Int32} {dk : List Nat} {i : Nat}

set_option maxHeartbeats 400000 in
set_option maxRecDepth 100000 in
theorem v_hasAcc (C : CallFix p m c cc nL s args wB own) (hw : XwR D A P F B G (nI dk.length) (dfd P dk) s H) (hi : i < pn P) (hk : pk P i < 9) (h1 : Cond.methodLink own index ⟨"SwingBridge$Cart", "hasAccount", "()Z"⟩ ∈ wB) (hsize : ls.size = nL) (hdg : decode cc pc = .ok (.invokevirtual index, 3)) (hR : 1 ≤ R.frames ∧ 20 ≤ R.locals) (hW : (rest.map fun v => v.category).sum ≤ 8) (hf : cells + 0 ≤ R.cells ∧ slots + 0 ≤ R.slots) :
    CtR p l e R s m args below meth c H locs cells slots (F0 m pc ls (.ref (pa P i) :: rest)) rest ({ frames := 0, cells := 0, slots := 0, locals := 0 }) A (.inl (some (.int (b2i (hasAcc (pk P i)))))) (Xp D A P F B G dk) := by
  have hx0 : va_Decl s ⟨"SwingBridge$Cart", "hasAccount", "()Z"⟩ := va_Decl.of (C.2.2.2.2 _ tb_445) (C.2.2.2.2 _ tb_460)
  rcases (show pk P i = 0 ∨ pk P i = 1 ∨ pk P i = 2 ∨ pk P i = 3 ∨ pk P i = 4 ∨ pk P i = 5 ∨ pk P i = 6 ∨ pk P i = 7 ∨ pk P i = 8 by omega) with e0 | e0 | e0 | e0 | e0 | e0 | e0 | e0 | e0
  · rw [show b2i (hasAcc (pk P i)) = 0 by rw [e0]; rfl]
    exact ctR_wide (ct_V C (c_X4_hasAccount l D A P F B G dk i hi hk) Xp_bl (Or.inl rfl) tb_460 tb_4 ⟨Nat.le_trans (Nat.le_of_ble_eq_true rfl) hR.1, Nat.le_trans (Nat.le_of_ble_eq_true rfl) hR.2⟩ h1 tb_447 hx0 ⟨by decide, by decide⟩ (CN := cN (pk P i)) (by rw [e0]; exact tb_446) tb_445 (x_recv hw hi hk) (fun U hU hW => x_post hw hU hW) (by show _ = some 0; decide +kernel) hsize rfl hW hdg ⟨Nat.le_trans (Nat.add_le_add_left (Nat.le_of_ble_eq_true rfl) _) hf.1, Nat.le_trans (Nat.add_le_add_left (Nat.le_of_ble_eq_true rfl) _) hf.2⟩) (Nat.le_of_ble_eq_true rfl) (Nat.le_of_ble_eq_true rfl)
  · rw [show b2i (hasAcc (pk P i)) = 0 by rw [e0]; rfl]
    exact ctR_wide (ct_V C (c_X4_hasAccount l D A P F B G dk i hi hk) Xp_bl (Or.inl rfl) tb_460 tb_4 ⟨Nat.le_trans (Nat.le_of_ble_eq_true rfl) hR.1, Nat.le_trans (Nat.le_of_ble_eq_true rfl) hR.2⟩ h1 tb_447 hx0 ⟨by decide, by decide⟩ (CN := cN (pk P i)) (by rw [e0]; exact tb_459) tb_445 (x_recv hw hi hk) (fun U hU hW => x_post hw hU hW) (by show _ = some 0; decide +kernel) hsize rfl hW hdg ⟨Nat.le_trans (Nat.add_le_add_left (Nat.le_of_ble_eq_true rfl) _) hf.1, Nat.le_trans (Nat.add_le_add_left (Nat.le_of_ble_eq_true rfl) _) hf.2⟩) (Nat.le_of_ble_eq_true rfl) (Nat.le_of_ble_eq_true rfl)
  · rw [show b2i (hasAcc (pk P i)) = 0 by rw [e0]; rfl]
    exact ctR_wide (ct_V C (c_X4_hasAccount l D A P F B G dk i hi hk) Xp_bl (Or.inl rfl) tb_460 tb_4 ⟨Nat.le_trans (Nat.le_of_ble_eq_true rfl) hR.1, Nat.le_trans (Nat.le_of_ble_eq_true rfl) hR.2⟩ h1 tb_447 hx0 ⟨by decide, by decide⟩ (CN := cN (pk P i)) (by rw [e0]; exact tb_454) tb_445 (x_recv hw hi hk) (fun U hU hW => x_post hw hU hW) (by show _ = some 0; decide +kernel) hsize rfl hW hdg ⟨Nat.le_trans (Nat.add_le_add_left (Nat.le_of_ble_eq_true rfl) _) hf.1, Nat.le_trans (Nat.add_le_add_left (Nat.le_of_ble_eq_true rfl) _) hf.2⟩) (Nat.le_of_ble_eq_true rfl) (Nat.le_of_ble_eq_true rfl)
  · rw [show b2i (hasAcc (pk P i)) = 1 by rw [e0]; rfl]
    exact ctR_wide (ct_V C (c_X2_hasAccount l D A P F B G dk i hi hk) Xp_bl (Or.inl rfl) tb_453 tb_7 ⟨Nat.le_trans (Nat.le_of_ble_eq_true rfl) hR.1, Nat.le_trans (Nat.le_of_ble_eq_true rfl) hR.2⟩ h1 tb_447 hx0 ⟨by decide, by decide⟩ (CN := cN (pk P i)) (by rw [e0]; exact tb_451) tb_452 (x_recv hw hi hk) (fun U hU hW => x_post hw hU hW) (by show _ = some 0; decide +kernel) hsize rfl hW hdg ⟨Nat.le_trans (Nat.add_le_add_left (Nat.le_of_ble_eq_true rfl) _) hf.1, Nat.le_trans (Nat.add_le_add_left (Nat.le_of_ble_eq_true rfl) _) hf.2⟩) (Nat.le_of_ble_eq_true rfl) (Nat.le_of_ble_eq_true rfl)
  · rw [show b2i (hasAcc (pk P i)) = 0 by rw [e0]; rfl]
    exact ctR_wide (ct_V C (c_X4_hasAccount l D A P F B G dk i hi hk) Xp_bl (Or.inl rfl) tb_460 tb_4 ⟨Nat.le_trans (Nat.le_of_ble_eq_true rfl) hR.1, Nat.le_trans (Nat.le_of_ble_eq_true rfl) hR.2⟩ h1 tb_447 hx0 ⟨by decide, by decide⟩ (CN := cN (pk P i)) (by rw [e0]; exact tb_457) tb_445 (x_recv hw hi hk) (fun U hU hW => x_post hw hU hW) (by show _ = some 0; decide +kernel) hsize rfl hW hdg ⟨Nat.le_trans (Nat.add_le_add_left (Nat.le_of_ble_eq_true rfl) _) hf.1, Nat.le_trans (Nat.add_le_add_left (Nat.le_of_ble_eq_true rfl) _) hf.2⟩) (Nat.le_of_ble_eq_true rfl) (Nat.le_of_ble_eq_true rfl)
  · rw [show b2i (hasAcc (pk P i)) = 0 by rw [e0]; rfl]
    exact ctR_wide (ct_V C (c_X4_hasAccount l D A P F B G dk i hi hk) Xp_bl (Or.inl rfl) tb_460 tb_4 ⟨Nat.le_trans (Nat.le_of_ble_eq_true rfl) hR.1, Nat.le_trans (Nat.le_of_ble_eq_true rfl) hR.2⟩ h1 tb_447 hx0 ⟨by decide, by decide⟩ (CN := cN (pk P i)) (by rw [e0]; exact tb_458) tb_445 (x_recv hw hi hk) (fun U hU hW => x_post hw hU hW) (by show _ = some 0; decide +kernel) hsize rfl hW hdg ⟨Nat.le_trans (Nat.add_le_add_left (Nat.le_of_ble_eq_true rfl) _) hf.1, Nat.le_trans (Nat.add_le_add_left (Nat.le_of_ble_eq_true rfl) _) hf.2⟩) (Nat.le_of_ble_eq_true rfl) (Nat.le_of_ble_eq_true rfl)
  · rw [show b2i (hasAcc (pk P i)) = 1 by rw [e0]; rfl]
    exact ctR_wide (ct_V C (c_X1_hasAccount l D A P F B G dk i hi hk) Xp_bl (Or.inl rfl) tb_450 tb_10 ⟨Nat.le_trans (Nat.le_of_ble_eq_true rfl) hR.1, Nat.le_trans (Nat.le_of_ble_eq_true rfl) hR.2⟩ h1 tb_447 hx0 ⟨by decide, by decide⟩ (CN := cN (pk P i)) (by rw [e0]; exact tb_448) tb_449 (x_recv hw hi hk) (fun U hU hW => x_post hw hU hW) (by show _ = some 0; decide +kernel) hsize rfl hW hdg ⟨Nat.le_trans (Nat.add_le_add_left (Nat.le_of_ble_eq_true rfl) _) hf.1, Nat.le_trans (Nat.add_le_add_left (Nat.le_of_ble_eq_true rfl) _) hf.2⟩) (Nat.le_of_ble_eq_true rfl) (Nat.le_of_ble_eq_true rfl)
  · rw [show b2i (hasAcc (pk P i)) = 1 by rw [e0]; rfl]
    exact ctR_wide (ct_V C (c_X1_hasAccount l D A P F B G dk i hi hk) Xp_bl (Or.inl rfl) tb_450 tb_10 ⟨Nat.le_trans (Nat.le_of_ble_eq_true rfl) hR.1, Nat.le_trans (Nat.le_of_ble_eq_true rfl) hR.2⟩ h1 tb_447 hx0 ⟨by decide, by decide⟩ (CN := cN (pk P i)) (by rw [e0]; exact tb_456) tb_449 (x_recv hw hi hk) (fun U hU hW => x_post hw hU hW) (by show _ = some 0; decide +kernel) hsize rfl hW hdg ⟨Nat.le_trans (Nat.add_le_add_left (Nat.le_of_ble_eq_true rfl) _) hf.1, Nat.le_trans (Nat.add_le_add_left (Nat.le_of_ble_eq_true rfl) _) hf.2⟩) (Nat.le_of_ble_eq_true rfl) (Nat.le_of_ble_eq_true rfl)
  · rw [show b2i (hasAcc (pk P i)) = 0 by rw [e0]; rfl]
    exact ctR_wide (ct_V C (c_X4_hasAccount l D A P F B G dk i hi hk) Xp_bl (Or.inl rfl) tb_460 tb_4 ⟨Nat.le_trans (Nat.le_of_ble_eq_true rfl) hR.1, Nat.le_trans (Nat.le_of_ble_eq_true rfl) hR.2⟩ h1 tb_447 hx0 ⟨by decide, by decide⟩ (CN := cN (pk P i)) (by rw [e0]; exact tb_455) tb_445 (x_recv hw hi hk) (fun U hU hW => x_post hw hU hW) (by show _ = some 0; decide +kernel) hsize rfl hW hdg ⟨Nat.le_trans (Nat.add_le_add_left (Nat.le_of_ble_eq_true rfl) _) hf.1, Nat.le_trans (Nat.add_le_add_left (Nat.le_of_ble_eq_true rfl) _) hf.2⟩) (Nat.le_of_ble_eq_true rfl) (Nat.le_of_ble_eq_true rfl)
set_option maxHeartbeats 400000 in
set_option maxRecDepth 100000 in
theorem v_bill (C : CallFix p m c cc nL s args wB own) (hw : XwR D A P F B G (nI dk.length) (dfd P dk) s H) (hi : i < pn P) (hk : pk P i < 9) {h : Int32} (h8 : pk P i ≠ 8) (h1 : Cond.methodLink own index ⟨"SwingBridge$Cart", "billOf", "(I)I"⟩ ∈ wB) (hsize : ls.size = nL) (hdg : decode cc pc = .ok (.invokevirtual index, 3)) (hR : 7 ≤ R.frames ∧ 146 ≤ R.locals) (hW : (rest.map fun v => v.category).sum ≤ 8) (hf : cells + 0 ≤ R.cells ∧ slots + 0 ≤ R.slots) :
    CtR p l e R s m args below meth c H locs cells slots (F0 m pc ls (.int h :: .ref (pa P i) :: rest)) rest ({ frames := 6, cells := 0, slots := 0, locals := 124 }) A (.inl (some (.int (bR (pk P i) F i h)))) (Xp D A P F (bB (pk P i) h B) G dk) := by
  have hx0 : va_Decl s ⟨"SwingBridge$Cart", "billOf", "(I)I"⟩ := va_Decl.of (C.2.2.2.2 _ tb_462) (C.2.2.2.2 _ tb_473)
  rcases (show pk P i = 0 ∨ pk P i = 1 ∨ pk P i = 2 ∨ pk P i = 3 ∨ pk P i = 4 ∨ pk P i = 5 ∨ pk P i = 6 ∨ pk P i = 7 by omega) with e0 | e0 | e0 | e0 | e0 | e0 | e0 | e0
  · exact ctR_wide (ct_V C (c_X4_billOf l D A P F B G dk i h hi hk h8) Xp_bl (Or.inl rfl) tb_473 tb_4 ⟨Nat.le_trans (Nat.le_of_ble_eq_true rfl) hR.1, Nat.le_trans (Nat.le_of_ble_eq_true rfl) hR.2⟩ h1 tb_464 hx0 ⟨by decide, by decide⟩ (CN := cN (pk P i)) (by rw [e0]; exact tb_463) tb_462 (x_recv hw hi hk) (fun U hU hW => x_post hw hU hW) (by show _ = some 1; decide +kernel) hsize rfl hW hdg ⟨Nat.le_trans (Nat.add_le_add_left (Nat.le_of_ble_eq_true rfl) _) hf.1, Nat.le_trans (Nat.add_le_add_left (Nat.le_of_ble_eq_true rfl) _) hf.2⟩) (Nat.le_of_ble_eq_true rfl) (Nat.le_of_ble_eq_true rfl)
  · exact ctR_wide (ct_V C (c_X4_billOf l D A P F B G dk i h hi hk h8) Xp_bl (Or.inl rfl) tb_473 tb_4 ⟨Nat.le_trans (Nat.le_of_ble_eq_true rfl) hR.1, Nat.le_trans (Nat.le_of_ble_eq_true rfl) hR.2⟩ h1 tb_464 hx0 ⟨by decide, by decide⟩ (CN := cN (pk P i)) (by rw [e0]; exact tb_472) tb_462 (x_recv hw hi hk) (fun U hU hW => x_post hw hU hW) (by show _ = some 1; decide +kernel) hsize rfl hW hdg ⟨Nat.le_trans (Nat.add_le_add_left (Nat.le_of_ble_eq_true rfl) _) hf.1, Nat.le_trans (Nat.add_le_add_left (Nat.le_of_ble_eq_true rfl) _) hf.2⟩) (Nat.le_of_ble_eq_true rfl) (Nat.le_of_ble_eq_true rfl)
  · exact ctR_wide (ct_V C (c_X4_billOf l D A P F B G dk i h hi hk h8) Xp_bl (Or.inl rfl) tb_473 tb_4 ⟨Nat.le_trans (Nat.le_of_ble_eq_true rfl) hR.1, Nat.le_trans (Nat.le_of_ble_eq_true rfl) hR.2⟩ h1 tb_464 hx0 ⟨by decide, by decide⟩ (CN := cN (pk P i)) (by rw [e0]; exact tb_467) tb_462 (x_recv hw hi hk) (fun U hU hW => x_post hw hU hW) (by show _ = some 1; decide +kernel) hsize rfl hW hdg ⟨Nat.le_trans (Nat.add_le_add_left (Nat.le_of_ble_eq_true rfl) _) hf.1, Nat.le_trans (Nat.add_le_add_left (Nat.le_of_ble_eq_true rfl) _) hf.2⟩) (Nat.le_of_ble_eq_true rfl) (Nat.le_of_ble_eq_true rfl)
  · exact ctR_wide (ct_V C (c_X4_billOf l D A P F B G dk i h hi hk h8) Xp_bl (Or.inl rfl) tb_473 tb_4 ⟨Nat.le_trans (Nat.le_of_ble_eq_true rfl) hR.1, Nat.le_trans (Nat.le_of_ble_eq_true rfl) hR.2⟩ h1 tb_464 hx0 ⟨by decide, by decide⟩ (CN := cN (pk P i)) (by rw [e0]; exact tb_466) tb_462 (x_recv hw hi hk) (fun U hU hW => x_post hw hU hW) (by show _ = some 1; decide +kernel) hsize rfl hW hdg ⟨Nat.le_trans (Nat.add_le_add_left (Nat.le_of_ble_eq_true rfl) _) hf.1, Nat.le_trans (Nat.add_le_add_left (Nat.le_of_ble_eq_true rfl) _) hf.2⟩) (Nat.le_of_ble_eq_true rfl) (Nat.le_of_ble_eq_true rfl)
  · exact ctR_wide (ct_V C (c_X4_billOf l D A P F B G dk i h hi hk h8) Xp_bl (Or.inl rfl) tb_473 tb_4 ⟨Nat.le_trans (Nat.le_of_ble_eq_true rfl) hR.1, Nat.le_trans (Nat.le_of_ble_eq_true rfl) hR.2⟩ h1 tb_464 hx0 ⟨by decide, by decide⟩ (CN := cN (pk P i)) (by rw [e0]; exact tb_470) tb_462 (x_recv hw hi hk) (fun U hU hW => x_post hw hU hW) (by show _ = some 1; decide +kernel) hsize rfl hW hdg ⟨Nat.le_trans (Nat.add_le_add_left (Nat.le_of_ble_eq_true rfl) _) hf.1, Nat.le_trans (Nat.add_le_add_left (Nat.le_of_ble_eq_true rfl) _) hf.2⟩) (Nat.le_of_ble_eq_true rfl) (Nat.le_of_ble_eq_true rfl)
  · exact ctR_wide (ct_V C (c_X4_billOf l D A P F B G dk i h hi hk h8) Xp_bl (Or.inl rfl) tb_473 tb_4 ⟨Nat.le_trans (Nat.le_of_ble_eq_true rfl) hR.1, Nat.le_trans (Nat.le_of_ble_eq_true rfl) hR.2⟩ h1 tb_464 hx0 ⟨by decide, by decide⟩ (CN := cN (pk P i)) (by rw [e0]; exact tb_471) tb_462 (x_recv hw hi hk) (fun U hU hW => x_post hw hU hW) (by show _ = some 1; decide +kernel) hsize rfl hW hdg ⟨Nat.le_trans (Nat.add_le_add_left (Nat.le_of_ble_eq_true rfl) _) hf.1, Nat.le_trans (Nat.add_le_add_left (Nat.le_of_ble_eq_true rfl) _) hf.2⟩) (Nat.le_of_ble_eq_true rfl) (Nat.le_of_ble_eq_true rfl)
  · exact ctR_wide (ct_V C (c_X4_billOf l D A P F B G dk i h hi hk h8) Xp_bl (Or.inl rfl) tb_473 tb_4 ⟨Nat.le_trans (Nat.le_of_ble_eq_true rfl) hR.1, Nat.le_trans (Nat.le_of_ble_eq_true rfl) hR.2⟩ h1 tb_464 hx0 ⟨by decide, by decide⟩ (CN := cN (pk P i)) (by rw [e0]; exact tb_465) tb_462 (x_recv hw hi hk) (fun U hU hW => x_post hw hU hW) (by show _ = some 1; decide +kernel) hsize rfl hW hdg ⟨Nat.le_trans (Nat.add_le_add_left (Nat.le_of_ble_eq_true rfl) _) hf.1, Nat.le_trans (Nat.add_le_add_left (Nat.le_of_ble_eq_true rfl) _) hf.2⟩) (Nat.le_of_ble_eq_true rfl) (Nat.le_of_ble_eq_true rfl)
  · exact ctR_wide (ct_V C (c_X4_billOf l D A P F B G dk i h hi hk h8) Xp_bl (Or.inl rfl) tb_473 tb_4 ⟨Nat.le_trans (Nat.le_of_ble_eq_true rfl) hR.1, Nat.le_trans (Nat.le_of_ble_eq_true rfl) hR.2⟩ h1 tb_464 hx0 ⟨by decide, by decide⟩ (CN := cN (pk P i)) (by rw [e0]; exact tb_469) tb_462 (x_recv hw hi hk) (fun U hU hW => x_post hw hU hW) (by show _ = some 1; decide +kernel) hsize rfl hW hdg ⟨Nat.le_trans (Nat.add_le_add_left (Nat.le_of_ble_eq_true rfl) _) hf.1, Nat.le_trans (Nat.add_le_add_left (Nat.le_of_ble_eq_true rfl) _) hf.2⟩) (Nat.le_of_ble_eq_true rfl) (Nat.le_of_ble_eq_true rfl)
set_option maxHeartbeats 400000 in
set_option maxRecDepth 100000 in
theorem v_month (C : CallFix p m c cc nL s args wB own) (hw : XwR D A P F B G (nI dk.length) (dfd P dk) s H) (hi : i < pn P) (hk : pk P i < 9) {n : Int32} (ha : pk P i = 3 ∨ pk P i = 6 ∨ pk P i = 7) (h1 : Cond.methodLink own index ⟨"SwingBridge$Cart", "monthOf", "(I)I"⟩ ∈ wB) (hsize : ls.size = nL) (hdg : decode cc pc = .ok (.invokevirtual index, 3)) (hR : 8 ≤ R.frames ∧ 167 ≤ R.locals) (hW : (rest.map fun v => v.category).sum ≤ 8) (hf : cells + 0 ≤ R.cells ∧ slots + 0 ≤ R.slots) :
    CtR p l e R s m args below meth c H locs cells slots (F0 m pc ls (.int n :: .ref (pa P i) :: rest)) rest ({ frames := 7, cells := 0, slots := 0, locals := 146 }) A (.inl (some (.int (mR (pk P i) F i n)))) (Xp D A P F (mB (pk P i) B) G dk) := by
  have hx0 : va_Decl s ⟨"SwingBridge$Cart", "monthOf", "(I)I"⟩ := va_Decl.of (C.2.2.2.2 _ tb_578) (C.2.2.2.2 _ tb_595)
  rcases (show pk P i = 3 ∨ pk P i = 6 ∨ pk P i = 7 by omega) with e0 | e0 | e0
  · rw [show mR (pk P i) F i n = 20 * n + bR (pk P i) F i 12 by unfold mR; rw [if_neg (by rw [e0]; decide)], show mB (pk P i) B = bB (pk P i) 12 B by unfold mB; rw [if_neg (by rw [e0]; decide)]]
    exact ctR_wide (ct_V C (c_X4_monthOf l D A P F B G dk i n hi (by omega)) Xp_bl (Or.inl rfl) tb_595 tb_4 ⟨Nat.le_trans (Nat.le_of_ble_eq_true rfl) hR.1, Nat.le_trans (Nat.le_of_ble_eq_true rfl) hR.2⟩ h1 tb_580 hx0 ⟨by decide, by decide⟩ (CN := cN (pk P i)) (by rw [e0]; exact tb_582) tb_578 (x_recv hw hi hk) (fun U hU hW => x_post hw hU hW) (by show _ = some 1; decide +kernel) hsize rfl hW hdg ⟨Nat.le_trans (Nat.add_le_add_left (Nat.le_of_ble_eq_true rfl) _) hf.1, Nat.le_trans (Nat.add_le_add_left (Nat.le_of_ble_eq_true rfl) _) hf.2⟩) (Nat.le_of_ble_eq_true rfl) (Nat.le_of_ble_eq_true rfl)
  · rw [show mR (pk P i) F i n = 20 * n + bR (pk P i) F i 12 by unfold mR; rw [if_neg (by rw [e0]; decide)], show mB (pk P i) B = bB (pk P i) 12 B by unfold mB; rw [if_neg (by rw [e0]; decide)]]
    exact ctR_wide (ct_V C (c_X4_monthOf l D A P F B G dk i n hi (by omega)) Xp_bl (Or.inl rfl) tb_595 tb_4 ⟨Nat.le_trans (Nat.le_of_ble_eq_true rfl) hR.1, Nat.le_trans (Nat.le_of_ble_eq_true rfl) hR.2⟩ h1 tb_580 hx0 ⟨by decide, by decide⟩ (CN := cN (pk P i)) (by rw [e0]; exact tb_581) tb_578 (x_recv hw hi hk) (fun U hU hW => x_post hw hU hW) (by show _ = some 1; decide +kernel) hsize rfl hW hdg ⟨Nat.le_trans (Nat.add_le_add_left (Nat.le_of_ble_eq_true rfl) _) hf.1, Nat.le_trans (Nat.add_le_add_left (Nat.le_of_ble_eq_true rfl) _) hf.2⟩) (Nat.le_of_ble_eq_true rfl) (Nat.le_of_ble_eq_true rfl)
  · rw [show mR (pk P i) F i n = 15 * n + bR (pk P i) F i 23 by unfold mR; rw [if_pos e0], show mB (pk P i) B = bB (pk P i) 23 B by unfold mB; rw [if_pos e0]]
    exact ctR_wide (ct_V C (c_X6_monthOf l D A P F B G dk i n hi e0) Xp_bl (Or.inl rfl) tb_587 tb_11 ⟨Nat.le_trans (Nat.le_of_ble_eq_true rfl) hR.1, Nat.le_trans (Nat.le_of_ble_eq_true rfl) hR.2⟩ h1 tb_580 hx0 ⟨by decide, by decide⟩ (CN := cN (pk P i)) (by rw [e0]; exact tb_585) tb_586 (x_recv hw hi hk) (fun U hU hW => x_post hw hU hW) (by show _ = some 1; decide +kernel) hsize rfl hW hdg ⟨Nat.le_trans (Nat.add_le_add_left (Nat.le_of_ble_eq_true rfl) _) hf.1, Nat.le_trans (Nat.add_le_add_left (Nat.le_of_ble_eq_true rfl) _) hf.2⟩) (Nat.le_of_ble_eq_true rfl) (Nat.le_of_ble_eq_true rfl)
end XV4
end
section
section Rows2
variable {p : Program} {l : Launch} {e : Env} {R : Room} {s : State} {m : MethodId} {args : Array Value} {below : List Frame} {meth : Method} {c : Code} {H : Heap} {locs : List Loc} {cells slots : Nat} {Q : State → Prop}
variable {mc ms : Nat} {free : Addr → Prop} {A0 A1 : Nat → Prop} {H0 : Heap} {a : Array Value} {pc : Nat} {ls : Array Slot} {st0 rest : List Value}
/-- caught by the row x of this method's table; the rows ahead don't take it -/
theorem vx_catch {own name : String} {E : String} {ce : Cell} {q : Addr} (hown : s.vm.findClass own = some m.cls) (pre : List ExceptionTableEntry) (x : ExceptionTableEntry) (suf : List ExceptionTableEntry) (hsplit : c.exceptionTable.toList = pre ++ x :: suf)
    (hpass : ∀ z ∈ pre, covers z pc = false ∨ (z.catchType ≠ 0 ∧ ∃ nm : String, (Cond.classLink own z.catchType nm).before args s = true ∧ va_Nc E nm s)) (hx : covers x pc = true) (h0 : x.catchType ≠ 0)
    (hlink : (Cond.classLink own x.catchType name).before args s = true) (hcast : (Cond.castable E name).before args s = true) (hcell : H[q]? = some ce) (hv : ce.vm = .none) (hcl : s.vm.findClass E = some ce.cls)
    (kk : W p l e R s m args below meth c H locs cells slots Q (F0 m x.handlerPc ls [.ref q])) : vx_W p l e R s m args below meth c H locs cells slots Q (F0 m pc ls rest) q := by
  intro T hT X
  have hpl : e.platform.magicAccessors = ({} : Platform).magicAccessors := by rw [X.admits.platform]
  obtain ⟨c3, c4, hc3, hc4, hasg⟩ := Cond.castable_spec hcast
  cases Option.some.inj (hc3.symm.trans hcl)
  obtain ⟨c5, hc5, hcl5⟩ := Cond.classLink_spec hown hlink e.platform hpl
  cases Option.some.inj (hc4.symm.trans hc5)
  obtain ⟨vm', X', st⟩ := Stand.thenCaughtThrough X q (g := F0 m pc ls rest) rfl (Steps.refl _) (by rw [hT]; exact hcell) (by rw [hv]; rfl) (by obtain ⟨k9, h9, -⟩ := Vm.findClass_spec hcl; exact ⟨k9, h9⟩) pre x suf hsplit
    (fun z hz => by
      rcases hpass z hz with h | ⟨hz0, nm, hl1, hn1⟩
      · exact Or.inl h
      · obtain ⟨c6, hc6, hcl6⟩ := Cond.classLink_spec hown hl1 e.platform hpl
        obtain ⟨a8, b8, h1, h2, h3⟩ := hn1
        cases Option.some.inj (h1.symm.trans hcl)
        cases Option.some.inj (h2.symm.trans hc6)
        exact Or.inr ⟨hz0, _, hcl6, h3⟩) hx (Or.inr ⟨h0, c4, hcl5, hasg⟩)
  obtain ⟨t, a1, b1⟩ := kk (T.setVm vm') hT X'
  exact ⟨t, st.trans a1, b1⟩
end Rows2
section Ends2
variable {p : Program} {l : Launch} {e : Env} {R : Room} {s : State} {m : MethodId} {args : Array Value} {below : List Frame} {meth : Method} {c : Code} {H : Heap} {locs : List Loc} {cells slots : Nat} {Q : State → Prop}
variable {mc ms : Nat} {free : Addr → Prop} {A0 A1 : Nat → Prop} {H0 : Heap} {a : Array Value} {ls : Array Slot} {st0 rest : List Value}
variable {Qc : Array Value → State → Outcome → State → Prop} {XC : String → State → State → Prop}
theorem vx_frame {U : State} {k n : Nat} (h : s.sameButNew ({ U with vm := s.vm } : State) locs k n) : s.heap.size ≤ U.heap.size ∧ ∀ q : Nat, q < s.heap.size → (∀ z ∈ locs, z.base ≠ q) → U.heap[q]? = s.heap[q]? := by
  obtain ⟨-, h2, -, -, -, h6⟩ := h
  refine ⟨h2, fun q hq hz => ?_⟩
  obtain ⟨c9, e1, e2, e3, e4⟩ := h6 q _ (Array.getElem?_eq_getElem hq)
  have hs : c9.slots = (s.heap[q]).slots := Array.ext_getElem? fun i => e4 i fun hm => hz _ hm rfl
  have h9 : c9 = s.heap[q] := by
    rw [hs] at e2
    exact e2
  have e5 : U.heap[q]? = some c9 := e1
  rw [e5, h9, Array.getElem?_eq_getElem hq]
/-- the words of a throw but the four that speak of the heap -/
def vx_no (w : Cond) : Bool := decide (w ≠ .isRef (.static Bundle.tN "UNASSIGNED_STACK" Bundle.steD)) && decide (w ≠ .isRef (.static Bundle.tN "SUPPRESSED_SENTINEL" Bundle.listD)) && decide (w ≠ .laysStatic Bundle.tN "UNASSIGNED_STACK" Bundle.steD) && decide (w ≠ .laysStatic Bundle.tN "SUPPRESSED_SENTINEL" Bundle.listD)
def vx_at0 (own : String) (ic : Nat) (X : String) (names : List String) : List Cond := (Bundle.ownAtoms0 own ic X names).filter vx_no
def vx_atS (own : String) (ic : Nat) (X : String) (names : List String) : List Cond := (Bundle.ownAtoms own ic X names).filter vx_no
/-- a word that the tables alone decide, or a good one -/
def vx_ot (w : Cond) : Bool := w.onTables || goodWord w
theorem vx_ot_at {args a' : Array Value} {s U : State} {w : Cond} (hW : s.WarmedH U.vm) (hvm : s.vm = U.vm) (hg : vx_ot w = true) (h : w.before args s = true) : w.before a' U = true := by
  simp only [vx_ot, Bool.or_eq_true] at hg
  rcases hg with hg | hg
  · exact va_tabs hg hvm h
  · exact word_at hW (good_of_word hg) h
/-- a list's words: the good ones out of the method's own list, the others by premises of their own -/
theorem vx_hat {args : Array Value} {s : State} {L B : List Cond} (h1 : ∀ w ∈ L.filter goodWord, w.before args s = true) (h2 : ∀ w ∈ L.filter (fun w => !goodWord w), w ∈ B) (h3 : ∀ w ∈ B, w.before args s = true) : ∀ w ∈ L, w.before args s = true := by
  intro w hw
  by_cases g : goodWord w = true
  · exact h1 w (List.mem_filter.mpr ⟨hw, g⟩)
  · refine h3 w (h2 w (List.mem_filter.mpr ⟨hw, ?_⟩))
    show (!goodWord w) = true
    cases hgw : goodWord w
    · rfl
    · exact absurd hgw g
theorem vx_c {args : Array Value} {s : State} {w : Cond} {B : List Cond} (h : w.before args s = true) (t : ∀ w ∈ B, w.before args s = true) : ∀ w' ∈ w :: B, w'.before args s = true := fun w' h' => (List.mem_cons.mp h').elim (fun e => by rw [e]; exact h) (t w')
theorem vx_n {args : Array Value} {s : State} : ∀ w ∈ ([] : List Cond), w.before args s = true := fun _ h => nomatch h
theorem vx_own {args : Array Value} {s : State} {L : List Cond} (h1 : ∀ w ∈ L.filter vx_no, w.before args s = true)
    (hU : (Cond.isRef (.static Bundle.tN "UNASSIGNED_STACK" Bundle.steD)).before args s = true) (hN : (Cond.isRef (.static Bundle.tN "SUPPRESSED_SENTINEL" Bundle.listD)).before args s = true)
    (lU : (Cond.laysStatic Bundle.tN "UNASSIGNED_STACK" Bundle.steD).before args s = true) (lN : (Cond.laysStatic Bundle.tN "SUPPRESSED_SENTINEL" Bundle.listD).before args s = true) : ∀ w ∈ L, w.before args s = true := by
  intro w hw
  by_cases e1 : w = .isRef (.static Bundle.tN "UNASSIGNED_STACK" Bundle.steD)
  · rw [e1]; exact hU
  · by_cases e2 : w = .isRef (.static Bundle.tN "SUPPRESSED_SENTINEL" Bundle.listD)
    · rw [e2]; exact hN
    · by_cases e3 : w = .laysStatic Bundle.tN "UNASSIGNED_STACK" Bundle.steD
      · rw [e3]; exact lU
      · by_cases e4 : w = .laysStatic Bundle.tN "SUPPRESSED_SENTINEL" Bundle.listD
        · rw [e4]; exact lN
        · exact h1 w (List.mem_filter.mpr ⟨hw, by unfold vx_no; rw [decide_eq_true e1, decide_eq_true e2, decide_eq_true e3, decide_eq_true e4]; rfl⟩)
/-- where a static field lies, its class's statics cell in H -/
def vx_L (C n d : String) (A : Nat → Prop) (U : State) (H : Heap) : Prop := ∃ (c : ClassId) (k : Class) (i : Nat) (f : Field) (a : Nat) (cell : Cell), U.vm.findClass C = some c ∧ U.fieldFound? C n d = some (c, k, i, f) ∧ f.isStatic = true ∧ k.statics = some a ∧ H[a]? = some cell ∧ cell.vm.isStatics = true ∧ cell.cls = c ∧ f.slot < cell.slots.size ∧ k.staticTypes[f.slot]? = some f.type ∧ ¬ A a
theorem vx_L.moved {C n d : String} {A : Nat → Prop} {u U : State} {H : Heap} (hvm : u.vm.Alike U.vm) (h : vx_L C n d A u H) : vx_L C n d A U H := by
  obtain ⟨c, k, i, f, a, cell, h1, h2, h3, h4, h5, h6, h7, h8, h9, h10⟩ := h
  obtain ⟨k', hi', he⟩ := State.fieldFound?_setVm hvm h2
  exact ⟨c, k', i, f, a, cell, by rw [hvm.findClass]; exact h1, hi', h3, by rw [he]; exact h4, h5, h6, h7, h8, by rw [he]; exact h9, h10⟩
theorem vx_L.kept {C n d : String} {A : Nat → Prop} {U : State} {H H1 : Heap} (h : vx_L C n d A U H) (hq : ∀ a : Nat, a < H.size → ¬ A a → H1[a]? = H[a]?) : vx_L C n d A U H1 := by
  obtain ⟨c, k, i, f, a, cell, h1, h2, h3, h4, h5, h6, h7, h8, h9, h10⟩ := h
  exact ⟨c, k, i, f, a, cell, h1, h2, h3, h4, by rw [hq a (Array.getElem?_eq_some_iff.mp h5).1 h10]; exact h5, h6, h7, h8, h9, h10⟩
theorem vx_L.narrow {C n d : String} {A B : Nat → Prop} {U : State} {H : Heap} (h : vx_L C n d A U H) (hAB : ∀ q, B q → A q) : vx_L C n d B U H := by
  obtain ⟨c, k, i, f, a, cell, h1, h2, h3, h4, h5, h6, h7, h8, h9, h10⟩ := h
  exact ⟨c, k, i, f, a, cell, h1, h2, h3, h4, h5, h6, h7, h8, h9, fun z => h10 (hAB _ z)⟩
theorem vx_L.word {C n d : String} {A : Nat → Prop} {s : State} {args : Array Value} (h : vx_L C n d A s s.heap) : (Cond.laysStatic C n d).before args s = true := by
  obtain ⟨c, k, i, f, a, cell, h1, h2, h3, h4, h5, h6, h7, h8, h9, -⟩ := h
  show (Cond.laysStatic C n d).holds args s none s [] = true
  exact Cond.laysStatic_of h1 h2 h3 h4 h5 h6 h7 h8 h9
/-- .. and what it holds: null or some reference -/
def vx_Zq (C n d : String) (A : Nat → Prop) (U : State) (H : Heap) : Prop := va_Zq C n d A U H ∧ vx_L C n d A U H
theorem vx_Zq.moved {C n d : String} {A : Nat → Prop} {u U : State} {H : Heap} (hvm : u.vm.Alike U.vm) (h : vx_Zq C n d A u H) : vx_Zq C n d A U H := ⟨va_Zq.moved hvm h.1, vx_L.moved hvm h.2⟩
theorem vx_Zq.kept {C n d : String} {A : Nat → Prop} {U : State} {H H1 : Heap} (h : vx_Zq C n d A U H) (hq : ∀ a : Nat, a < H.size → ¬ A a → H1[a]? = H[a]?) : vx_Zq C n d A U H1 := ⟨va_Zq.kept h.1 hq, vx_L.kept h.2 hq⟩
theorem vx_Zq.narrow {C n d : String} {A B : Nat → Prop} {U : State} {H : Heap} (h : vx_Zq C n d A U H) (hAB : ∀ q, B q → A q) : vx_Zq C n d B U H := ⟨va_Zq.narrow h.1 hAB, vx_L.narrow h.2 hAB⟩
theorem vx_Zqof {args : Array Value} {s : State} {C n d : String} {A : Nat → Prop} (hl : (Cond.laysStatic C n d).before args s = true) (hini : (Cond.initialized C).before args s = true) (h : (Cond.isRef (.static C n d)).before args s = true) (hA : ∀ a : Nat, a < s.heap.size → ¬ A a) : vx_Zq C n d A s s.heap := by
  refine ⟨va_Zqof hl hini h hA, ?_⟩
  obtain ⟨c, k, i, f, a, cell, h1, h2, h3, h4, h5, h6, h7, h8, h9⟩ := Cond.laysStatic_spec hl
  exact ⟨c, k, i, f, a, cell, h1, h2, h3, h4, h5, h6, h7, h8, h9, hA a (Array.getElem?_eq_some_iff.mp h5).1⟩
theorem vx_isRef {C n d : String} {v : Value} {A : Nat → Prop} {s : State} {args : Array Value} (h : va_Z C n d v A s s.heap) (hv : v.isRef = true) : (Cond.isRef (.static C n d)).before args s = true := by
  obtain ⟨cf, kf, fi, f, a, cell, h1, h2, h3, h4, h5, h6, h7, -⟩ := h
  have he : (Term.static C n d).eval args s none [] s = some v := by
    simp [Term.eval, State.fieldNamed?, h1, h2, h4, h5, h6, h7]
  simp only [Cond.before, Cond.holds, Cond.value, he]
  cases v <;> simp_all [Value.isRef]
theorem vx_isRefq {C n d : String} {A : Nat → Prop} {s : State} {args : Array Value} (h : va_Zq C n d A s s.heap) : (Cond.isRef (.static C n d)).before args s = true := by
  rcases h with h | ⟨t, h⟩
  · exact vx_isRef h rfl
  · exact vx_isRef h rfl
/-- the same frame, seen from here: as if the method were called anew in this heap -/
theorem vx_rebase {T : State} (X : Stand p l e R s m args below meth c T locs cells slots) {R' : Room} (hf : R'.frames ≤ R.frames) (hl : R'.locals ≤ R.locals) (hc : cells + R'.cells ≤ R.cells) (hs : slots + R'.slots ≤ R.slots) :
    Stand p l e R' ((T.setVm s.vm).setFrames (.invoking m args :: below)) m args below meth c T [] 0 0 := by
  have htop : (T.setVm s.vm).topJava?.isSome := X.here.top
  have hF : ((T.setVm s.vm).setFrames (.invoking m args :: below)).frames = .invoking m args :: below := State.frames_setFrames _ (State.cur_lt_of_top htop)
  obtain ⟨g₀, hg0⟩ := Option.isSome_iff_exists.mp htop
  obtain ⟨r, hr⟩ := State.topJava?_eq_some.mp hg0
  have hl9 : e.platform.stackLimits (T.setVm s.vm).me = e.platform.stackLimits s.me := X.limits
  have hb9 : (T.setVm s.vm).me.stackBytes = s.me.stackBytes := X.bytes
  refine ⟨X.admits, X.cas, X.clock, hF, ?_, X.hears, X.method, X.code, X.here, X.tail, X.warmed, ?_, ?_, ?_⟩
  · have h := X.room
    have hU : ((T.setVm s.vm).setFrames (.invoking m args :: below)).localsInUse = s.localsInUse := by
      rw [State.localsInUse_invoking hF (meth := meth) (c := c) X.method X.code, State.localsInUse_invoking X.frames X.method X.code]
    simp only [State.hasRoom, Bool.and_eq_true, decide_eq_true_eq] at h ⊢
    obtain ⟨⟨⟨⟨h1, h2, h3, h4, h5, h6⟩, h7⟩, h8⟩, h9⟩ := h
    rw [X.frames, List.length_cons] at h2 h3
    have q1 := X.heapSize
    have q2 := X.used
    simp only [hF, hU, List.length_cons, State.stackLimits_setFrames, State.stackBytes_setFrames, hl9, hb9]
    refine ⟨⟨⟨⟨by omega, by omega, by omega, by omega, by omega, h6⟩, ?_⟩, ?_⟩, X.book⟩
    · show T.heap.size + R'.cells ≤ e.platform.maxCells
      omega
    · show T.slotsUsed + R'.slots ≤ e.platform.maxSlots
      omega
  · rw [State.stackLimits_setFrames]; rfl
  · rw [State.stackBytes_setFrames]; rfl
  · refine ⟨?_, Nat.le_refl _, Nat.le_refl _, ?_, ?_, fun a c9 h9 => ⟨c9, h9, rfl, rfl, fun _ _ => rfl⟩⟩
    · obtain ⟨t, ht, -⟩ := State.frames_cons hr
      show T.setVm s.vm = { ((T.setVm s.vm).setFrames (.invoking m args :: below)).setFrames (T.setVm s.vm).frames with heap := T.heap, slotsUsed := T.slotsUsed }
      rw [State.setFrames_setFrames, State.setFrames_self ht]
      rfl
    · show T.slotsUsed = T.slotsUsed + ((T.heap.toList.drop T.heap.size).map (·.slots.size)).sum
      rw [List.drop_eq_nil_of_le (Nat.le_of_eq Array.length_toList)]
      rfl
    · show ((T.heap.toList.drop T.heap.size).map (·.slots.size)).sum ≤ 0
      rw [List.drop_eq_nil_of_le (Nat.le_of_eq Array.length_toList)]
      exact Nat.le_refl _
/-- 'throw new E()': new; dup; invokespecial; athrow -/
theorem vx_throw0 {cc : ByteArray} {pc : Nat} (hexec : p.tables.exec = Jvm.exec) (hb : c.code = cc) (hl : l.stackTraces = false) {own cls : String} {names : List String} {ik ic mc ms : Nat} {A : Nat → Prop}
    (hown : s.vm.findClass own = some m.cls) (hcls : Bundle.fit cls = true) (hnames : ∀ n ∈ names, Bundle.fit n = true)
    (hk : (Cond.classLink own ik cls).before args s = true) (hini : (Cond.initialized cls).before args s = true) (hat : ∀ w ∈ vx_at0 own ic cls names, w.before args s = true)
    (hgood : ∀ w ∈ Cond.classLink own ik cls :: Cond.initialized cls :: vx_at0 own ic cls names, vx_ot w = true)
    (hU : vx_Zq Bundle.tN "UNASSIGNED_STACK" Bundle.steD A s s.heap) (hN : vx_Zq Bundle.tN "SUPPRESSED_SENTINEL" Bundle.listD A s s.heap) (hS : va_S A s.heap H locs) (hsize : ls.size = c.maxLocals)
    (d0 : decode cc pc = .ok (.new ik, 3)) (d3 : decode cc (pc + 3) = .ok (.dup, 1)) (d4 : decode cc (pc + 4) = .ok (.invokespecial ic, 3)) (d7 : decode cc (pc + 7) = .ok (.athrow, 1))
    (hout : ∀ x ∈ c.exceptionTable.toList, covers x (pc + 7) = false)
    (hRframes : names.length + 3 < R.frames) (hRlocals : (rest.map fun v => v.category).sum + (13 * (names.length + 1) + 42) ≤ R.locals) (hRcells : cells + 1 ≤ R.cells) (hRslots : slots + 6 ≤ R.slots) (hlocks : meth.locks = false)
    (hx : ∀ t : State, s.vm.Alike t.vm → H.size ≤ t.heap.size → (∀ q : Nat, q < H.size → t.heap[q]? = H[q]?) → XC cls s t)
    (hf : ∀ z ∈ locs, free z.base) (hc : cells + 1 ≤ mc) (hs : slots + 6 ≤ ms) :
    W p l e R s m args below meth c H locs cells slots (vx_MQ below Qc XC args s mc ms free) (F0 m pc ls rest) := by
  intro T hT X
  have htr : e.platform.stackTraces = false := (show e.platform.stackTraces = l.stackTraces by rw [X.admits.platform]).trans hl
  have Y := vx_rebase X (R' := { frames := R.frames, locals := R.locals, cells := 1, slots := 6 }) (Nat.le_refl _) (Nat.le_refl _) hRcells hRslots
  obtain ⟨s', hA⟩ : ∃ z, z = (T.setVm s.vm).setFrames (.invoking m args :: below) := ⟨_, rfl⟩
  rw [← hA] at Y
  have hvm : s'.vm = s.vm := by rw [hA]; rfl
  have hhp : s'.heap = H := by rw [hA]; exact hT
  have hW0 : s.WarmedH s'.vm := by rw [hvm]; exact State.WarmedH.refl s
  have hat' : ∀ w ∈ vx_at0 own ic cls names, w.before args s' = true := fun w hw => vx_ot_at hW0 hvm.symm (hgood w (List.mem_cons_of_mem _ (List.mem_cons_of_mem _ hw))) (hat w hw)
  have hk' : (Cond.classLink own ik cls).before args s' = true := vx_ot_at hW0 hvm.symm (hgood _ List.mem_cons_self) hk
  have hini' : (Cond.initialized cls).before args s' = true := vx_ot_at hW0 hvm.symm (hgood _ (List.mem_cons_of_mem _ List.mem_cons_self)) hini
  have hU' : vx_Zq Bundle.tN "UNASSIGNED_STACK" Bundle.steD A s' s'.heap := by rw [hhp]; exact vx_Zq.moved hW0.alike (hU.kept hS.2.1)
  have hN' : vx_Zq Bundle.tN "SUPPRESSED_SENTINEL" Bundle.listD A s' s'.heap := by rw [hhp]; exact vx_Zq.moved hW0.alike (hN.kept hS.2.1)
  have h : ∀ w ∈ Bundle.ownAtoms0 own ic cls names, w.before args s' = true := vx_own hat' (vx_isRefq hU'.1) (vx_isRefq hN'.1) hU'.2.word hN'.2.word
  have hown' : s'.vm.findClass own = some m.cls := by rw [hvm]; exact hown
  have hins : (Cond.instantiable cls 6).before args s' = true := h _ (by simp [Bundle.ownAtoms0])
  obtain ⟨vm₁, cX, kX, hfX, hkX, -, -, X₁, st1⟩ := Y.newCold hexec (own := own) (C := cls) (index := ik) (n := 6) hown' hk' hins hini'
    (g := F0 m pc ls rest) rfl (by rw [hb]; exact d0) (Nat.le_refl _) (Nat.le_refl _)
  generalize hT1 : (T.setVm vm₁).pushCell { cls := cX, slots := kX.instanceTypes.map defaultValue, vm := .none } = T1 at X₁ st1
  have hcat : (Value.ref T.heap.size).category = 1 := rfl
  have hcellA : T1.heap[T.heap.size]? = some (freshCell cX kX) := by rw [← hT1]; exact State.heap_pushCell_size _ _
  have d3' : decode c.code (pc + 3) = .ok (.dup, 1) := by rw [hb]; exact d3
  obtain ⟨U, hsteps, hrun, hend, hW, hsame, ce, hce, hO⟩ := X₁.ctorThrow0 hexec htr (own := own) (cls := cls) (names := names) (ic := ic) hown' hcls hnames h (fun x hx => nomatch hx) hfX hkX hcellA (by rw [hhp, hT]; exact Nat.le_refl _)
    (g := { method := m, pc := pc + 4, locals := ls, stack := .ref T.heap.size :: .ref T.heap.size :: rest, locked := none }) rfl hsize rfl rfl (rest := rest) rfl
    (by rw [hb]; exact d4) (by rw [hb]; exact d7) hout hRframes (by simp only [List.map_cons, List.sum_cons, hcat]; omega) hlocks
  obtain ⟨f1, f2⟩ := vx_frame hsame
  rw [hhp] at f1 f2
  have hWs : s.WarmedH U.vm := State.WarmedH.trans hW0 hW
  have hcl : s.vm.findClass cls = some ce.cls := by
    have h9 := hO.cls
    rw [hvm] at h9
    exact h9
  have hall : s.sameButNew ({ U with vm := s.vm } : State) locs mc ms := by
    subst hA
    obtain ⟨e1, e2⟩ := hsame
    rw [State.setFrames_setFrames] at e1
    have h2 : (T.setVm s.vm).sameButNew ({ U with vm := s.vm } : State) [] (0 + 1) (0 + 6) := ⟨e1, e2⟩
    have h3 := X.same.trans h2
    rw [List.append_nil] at h3
    exact h3.mono hc hs
  refine ⟨U, ?_, .threw T.heap.size, hrun, hend, Or.inr ⟨T.heap.size, rfl, cls, ce, locs, hx U hWs.alike f1 (fun q hq => f2 q hq (fun z hz => nomatch hz)), hce, hO.vm, hcl, hWs, hall, hf⟩⟩
  refine st1 _ ?_
  show Steps p.tables e below (T1.setTop { method := m, pc := pc + 3, locals := ls, stack := .ref T.heap.size :: rest, locked := none }) _
  jvm_step X₁.here [X₁.here.top, hexec, d3', Value.category]
  exact hsteps
/-- 'throw new E("text")': new; dup; ldc; invokespecial; athrow -/
theorem vx_throwS {cc : ByteArray} {pc : Nat} (hexec : p.tables.exec = Jvm.exec) (hb : c.code = cc) (hl : l.stackTraces = false) {own cls text : String} {names : List String} {ik is ic mc ms sa : Nat} {A : Nat → Prop}
    (hown : s.vm.findClass own = some m.cls) (hcls : Bundle.fit cls = true) (hnames : ∀ n ∈ names, Bundle.fit n = true)
    (hk : (Cond.classLink own ik cls).before args s = true) (hini : (Cond.initialized cls).before args s = true) (hstr : vk_R own is text sa s) (hat : ∀ w ∈ vx_atS own ic cls names, w.before args s = true)
    (hgood : ∀ w ∈ Cond.classLink own ik cls :: Cond.initialized cls :: vx_atS own ic cls names, vx_ot w = true)
    (hU : vx_Zq Bundle.tN "UNASSIGNED_STACK" Bundle.steD A s s.heap) (hN : vx_Zq Bundle.tN "SUPPRESSED_SENTINEL" Bundle.listD A s s.heap) (hS : va_S A s.heap H locs) (hsize : ls.size = c.maxLocals)
    (d0 : decode cc pc = .ok (.new ik, 3)) (d3 : decode cc (pc + 3) = .ok (.dup, 1)) (d4 : decode cc (pc + 4) = .ok (.ldc is, 2)) (d6 : decode cc (pc + 6) = .ok (.invokespecial ic, 3)) (d9 : decode cc (pc + 9) = .ok (.athrow, 1))
    (hout : ∀ x ∈ c.exceptionTable.toList, covers x (pc + 9) = false)
    (hRframes : names.length + 3 < R.frames) (hRlocals : (rest.map fun v => v.category).sum + (13 * (names.length + 1) + 43) ≤ R.locals) (hRcells : cells + 1 ≤ R.cells) (hRslots : slots + 6 ≤ R.slots) (hlocks : meth.locks = false)
    (hx : ∀ t : State, s.vm.Alike t.vm → H.size ≤ t.heap.size → (∀ q : Nat, q < H.size → t.heap[q]? = H[q]?) → XC cls s t)
    (hf : ∀ z ∈ locs, free z.base) (hc : cells + 1 ≤ mc) (hs : slots + 6 ≤ ms) :
    W p l e R s m args below meth c H locs cells slots (vx_MQ below Qc XC args s mc ms free) (F0 m pc ls rest) := by
  intro T hT X
  have htr : e.platform.stackTraces = false := (show e.platform.stackTraces = l.stackTraces by rw [X.admits.platform]).trans hl
  have Y := vx_rebase X (R' := { frames := R.frames, locals := R.locals, cells := 1, slots := 6 }) (Nat.le_refl _) (Nat.le_refl _) hRcells hRslots
  obtain ⟨s', hA⟩ : ∃ z, z = (T.setVm s.vm).setFrames (.invoking m args :: below) := ⟨_, rfl⟩
  rw [← hA] at Y
  have hvm : s'.vm = s.vm := by rw [hA]; rfl
  have hhp : s'.heap = H := by rw [hA]; exact hT
  have hW0 : s.WarmedH s'.vm := by rw [hvm]; exact State.WarmedH.refl s
  have hat' : ∀ w ∈ vx_atS own ic cls names, w.before args s' = true := fun w hw => vx_ot_at hW0 hvm.symm (hgood w (List.mem_cons_of_mem _ (List.mem_cons_of_mem _ hw))) (hat w hw)
  have hk' : (Cond.classLink own ik cls).before args s' = true := vx_ot_at hW0 hvm.symm (hgood _ List.mem_cons_self) hk
  have hini' : (Cond.initialized cls).before args s' = true := vx_ot_at hW0 hvm.symm (hgood _ (List.mem_cons_of_mem _ List.mem_cons_self)) hini
  have hU' : vx_Zq Bundle.tN "UNASSIGNED_STACK" Bundle.steD A s' s'.heap := by rw [hhp]; exact vx_Zq.moved hW0.alike (hU.kept hS.2.1)
  have hN' : vx_Zq Bundle.tN "SUPPRESSED_SENTINEL" Bundle.listD A s' s'.heap := by rw [hhp]; exact vx_Zq.moved hW0.alike (hN.kept hS.2.1)
  have h : ∀ w ∈ Bundle.ownAtoms own ic cls names, w.before args s' = true := vx_own hat' (vx_isRefq hU'.1) (vx_isRefq hN'.1) hU'.2.word hN'.2.word
  have hown' : s'.vm.findClass own = some m.cls := by rw [hvm]; exact hown
  have hins : (Cond.instantiable cls 6).before args s' = true := h _ (by simp [Bundle.ownAtoms])
  obtain ⟨vm₁, cX, kX, hfX, hkX, -, -, X₁, st1⟩ := Y.newCold hexec (own := own) (C := cls) (index := ik) (n := 6) hown' hk' hins hini'
    (g := F0 m pc ls rest) rfl (by rw [hb]; exact d0) (Nat.le_refl _) (Nat.le_refl _)
  generalize hT1 : (T.setVm vm₁).pushCell { cls := cX, slots := kX.instanceTypes.map defaultValue, vm := .none } = T1 at X₁ st1
  have hcat : (Value.ref T.heap.size).category = 1 := rfl
  have hcellA : T1.heap[T.heap.size]? = some (freshCell cX kX) := by rw [← hT1]; exact State.heap_pushCell_size _ _
  have d3' : decode c.code (pc + 3) = .ok (.dup, 1) := by rw [hb]; exact d3
  have d4' : decode c.code (pc + 4) = .ok (.ldc is, 2) := by rw [hb]; exact d4
  have hstr' : vk_R own is text sa s' := vk_R.warm hW0 hstr
  obtain ⟨U, hsteps, hrun, hend, hW, hsame, ce, hce, hO⟩ := X₁.ctorThrowS hexec htr (own := own) (cls := cls) (names := names) (ic := ic) hown' hcls hnames h (fun x hx => nomatch hx) hfX hkX hcellA (by rw [hhp, hT]; exact Nat.le_refl _) (msg := .ref sa) rfl
    (g := { method := m, pc := pc + 6, locals := ls, stack := .ref sa :: .ref T.heap.size :: .ref T.heap.size :: rest, locked := none }) rfl hsize rfl rfl (rest := rest) rfl
    (by rw [hb]; exact d6) (by rw [hb]; exact d9) hout hRframes (by simp only [List.map_cons, List.sum_cons, hcat]; omega) hlocks
  obtain ⟨f1, f2⟩ := vx_frame hsame
  rw [hhp] at f1 f2
  have hWs : s.WarmedH U.vm := State.WarmedH.trans hW0 hW
  have hcl : s.vm.findClass cls = some ce.cls := by
    have h9 := hO.cls
    rw [hvm] at h9
    exact h9
  have hall : s.sameButNew ({ U with vm := s.vm } : State) locs mc ms := by
    subst hA
    obtain ⟨e1, e2⟩ := hsame
    rw [State.setFrames_setFrames] at e1
    have h2 : (T.setVm s.vm).sameButNew ({ U with vm := s.vm } : State) [] (0 + 1) (0 + 6) := ⟨e1, e2⟩
    have h3 := X.same.trans h2
    rw [List.append_nil] at h3
    exact h3.mono hc hs
  refine ⟨U, ?_, .threw T.heap.size, hrun, hend, Or.inr ⟨T.heap.size, rfl, cls, ce, locs, hx U hWs.alike f1 (fun q hq => f2 q hq (fun z hz => nomatch hz)), hce, hO.vm, hcl, hWs, hall, hf⟩⟩
  refine st1 _ ?_
  show Steps p.tables e below (T1.setTop { method := m, pc := pc + 3, locals := ls, stack := .ref T.heap.size :: rest, locked := none }) _
  jvm_step X₁.here [X₁.here.top, hexec, d3', Value.category]
  exact X₁.ldcString hexec (own := own) (text := text) (index := is) (a := sa) hown' hstr'.1 hstr'.2
    (g := { method := m, pc := pc + 4, locals := ls, stack := .ref T.heap.size :: .ref T.heap.size :: rest, locked := none }) rfl d4' _ hsteps
/-- 'throw new E("text")', the text by a wide index -/
theorem vx_throwSW {cc : ByteArray} {pc : Nat} (hexec : p.tables.exec = Jvm.exec) (hb : c.code = cc) (hl : l.stackTraces = false) {own cls text : String} {names : List String} {ik is ic mc ms sa : Nat} {A : Nat → Prop}
    (hown : s.vm.findClass own = some m.cls) (hcls : Bundle.fit cls = true) (hnames : ∀ n ∈ names, Bundle.fit n = true)
    (hk : (Cond.classLink own ik cls).before args s = true) (hini : (Cond.initialized cls).before args s = true) (hstr : vk_R own is text sa s) (hat : ∀ w ∈ vx_atS own ic cls names, w.before args s = true)
    (hgood : ∀ w ∈ Cond.classLink own ik cls :: Cond.initialized cls :: vx_atS own ic cls names, vx_ot w = true)
    (hU : vx_Zq Bundle.tN "UNASSIGNED_STACK" Bundle.steD A s s.heap) (hN : vx_Zq Bundle.tN "SUPPRESSED_SENTINEL" Bundle.listD A s s.heap) (hS : va_S A s.heap H locs) (hsize : ls.size = c.maxLocals)
    (d0 : decode cc pc = .ok (.new ik, 3)) (d3 : decode cc (pc + 3) = .ok (.dup, 1)) (d4 : decode cc (pc + 4) = .ok (.ldc_w is, 3)) (d7 : decode cc (pc + 7) = .ok (.invokespecial ic, 3)) (d10 : decode cc (pc + 10) = .ok (.athrow, 1))
    (hout : ∀ x ∈ c.exceptionTable.toList, covers x (pc + 10) = false)
    (hRframes : names.length + 3 < R.frames) (hRlocals : (rest.map fun v => v.category).sum + (13 * (names.length + 1) + 43) ≤ R.locals) (hRcells : cells + 1 ≤ R.cells) (hRslots : slots + 6 ≤ R.slots) (hlocks : meth.locks = false)
    (hx : ∀ t : State, s.vm.Alike t.vm → H.size ≤ t.heap.size → (∀ q : Nat, q < H.size → t.heap[q]? = H[q]?) → XC cls s t)
    (hf : ∀ z ∈ locs, free z.base) (hc : cells + 1 ≤ mc) (hs : slots + 6 ≤ ms) :
    W p l e R s m args below meth c H locs cells slots (vx_MQ below Qc XC args s mc ms free) (F0 m pc ls rest) := by
  intro T hT X
  have htr : e.platform.stackTraces = false := (show e.platform.stackTraces = l.stackTraces by rw [X.admits.platform]).trans hl
  have Y := vx_rebase X (R' := { frames := R.frames, locals := R.locals, cells := 1, slots := 6 }) (Nat.le_refl _) (Nat.le_refl _) hRcells hRslots
  obtain ⟨s', hA⟩ : ∃ z, z = (T.setVm s.vm).setFrames (.invoking m args :: below) := ⟨_, rfl⟩
  rw [← hA] at Y
  have hvm : s'.vm = s.vm := by rw [hA]; rfl
  have hhp : s'.heap = H := by rw [hA]; exact hT
  have hW0 : s.WarmedH s'.vm := by rw [hvm]; exact State.WarmedH.refl s
  have hat' : ∀ w ∈ vx_atS own ic cls names, w.before args s' = true := fun w hw => vx_ot_at hW0 hvm.symm (hgood w (List.mem_cons_of_mem _ (List.mem_cons_of_mem _ hw))) (hat w hw)
  have hk' : (Cond.classLink own ik cls).before args s' = true := vx_ot_at hW0 hvm.symm (hgood _ List.mem_cons_self) hk
  have hini' : (Cond.initialized cls).before args s' = true := vx_ot_at hW0 hvm.symm (hgood _ (List.mem_cons_of_mem _ List.mem_cons_self)) hini
  have hU' : vx_Zq Bundle.tN "UNASSIGNED_STACK" Bundle.steD A s' s'.heap := by rw [hhp]; exact vx_Zq.moved hW0.alike (hU.kept hS.2.1)
  have hN' : vx_Zq Bundle.tN "SUPPRESSED_SENTINEL" Bundle.listD A s' s'.heap := by rw [hhp]; exact vx_Zq.moved hW0.alike (hN.kept hS.2.1)
  have h : ∀ w ∈ Bundle.ownAtoms own ic cls names, w.before args s' = true := vx_own hat' (vx_isRefq hU'.1) (vx_isRefq hN'.1) hU'.2.word hN'.2.word
  have hown' : s'.vm.findClass own = some m.cls := by rw [hvm]; exact hown
  have hins : (Cond.instantiable cls 6).before args s' = true := h _ (by simp [Bundle.ownAtoms])
  obtain ⟨vm₁, cX, kX, hfX, hkX, -, -, X₁, st1⟩ := Y.newCold hexec (own := own) (C := cls) (index := ik) (n := 6) hown' hk' hins hini'
    (g := F0 m pc ls rest) rfl (by rw [hb]; exact d0) (Nat.le_refl _) (Nat.le_refl _)
  generalize hT1 : (T.setVm vm₁).pushCell { cls := cX, slots := kX.instanceTypes.map defaultValue, vm := .none } = T1 at X₁ st1
  have hcat : (Value.ref T.heap.size).category = 1 := rfl
  have hcellA : T1.heap[T.heap.size]? = some (freshCell cX kX) := by rw [← hT1]; exact State.heap_pushCell_size _ _
  have d3' : decode c.code (pc + 3) = .ok (.dup, 1) := by rw [hb]; exact d3
  have d4' : decode c.code (pc + 4) = .ok (.ldc_w is, 3) := by rw [hb]; exact d4
  have hstr' : vk_R own is text sa s' := vk_R.warm hW0 hstr
  obtain ⟨U, hsteps, hrun, hend, hW, hsame, ce, hce, hO⟩ := X₁.ctorThrowS hexec htr (own := own) (cls := cls) (names := names) (ic := ic) hown' hcls hnames h (fun x hx => nomatch hx) hfX hkX hcellA (by rw [hhp, hT]; exact Nat.le_refl _) (msg := .ref sa) rfl
    (g := { method := m, pc := pc + 7, locals := ls, stack := .ref sa :: .ref T.heap.size :: .ref T.heap.size :: rest, locked := none }) rfl hsize rfl rfl (rest := rest) rfl
    (by rw [hb]; exact d7) (by rw [hb]; exact d10) hout hRframes (by simp only [List.map_cons, List.sum_cons, hcat]; omega) hlocks
  obtain ⟨f1, f2⟩ := vx_frame hsame
  rw [hhp] at f1 f2
  have hWs : s.WarmedH U.vm := State.WarmedH.trans hW0 hW
  have hcl : s.vm.findClass cls = some ce.cls := by
    have h9 := hO.cls
    rw [hvm] at h9
    exact h9
  have hall : s.sameButNew ({ U with vm := s.vm } : State) locs mc ms := by
    subst hA
    obtain ⟨e1, e2⟩ := hsame
    rw [State.setFrames_setFrames] at e1
    have h2 : (T.setVm s.vm).sameButNew ({ U with vm := s.vm } : State) [] (0 + 1) (0 + 6) := ⟨e1, e2⟩
    have h3 := X.same.trans h2
    rw [List.append_nil] at h3
    exact h3.mono hc hs
  refine ⟨U, ?_, .threw T.heap.size, hrun, hend, Or.inr ⟨T.heap.size, rfl, cls, ce, locs, hx U hWs.alike f1 (fun q hq => f2 q hq (fun z hz => nomatch hz)), hce, hO.vm, hcl, hWs, hall, hf⟩⟩
  refine st1 _ ?_
  show Steps p.tables e below (T1.setTop { method := m, pc := pc + 3, locals := ls, stack := .ref T.heap.size :: rest, locked := none }) _
  jvm_step X₁.here [X₁.here.top, hexec, d3', Value.category]
  exact X₁.ldcStringW hexec (own := own) (text := text) (index := is) (a := sa) hown' hstr'.1 hstr'.2
    (g := { method := m, pc := pc + 4, locals := ls, stack := .ref T.heap.size :: .ref T.heap.size :: rest, locked := none }) rfl d4' _ hsteps
end Ends2
/-- not caught here, past rows that name other classes: it goes on to the caller -/
theorem vx_outP {p : Program} {l : Launch} {e : Env} {R : Room} {s : State} {m : MethodId} {args : Array Value} {below : List Frame} {meth : Method} {c : Code} {H : Heap} {locs : List Loc} {cells slots : Nat} {free : Addr → Prop} {ls : Array Slot} {rest : List Value} {Qc : Array Value → State → Outcome → State → Prop} {XC : String → State → State → Prop}
    {pc : Nat} {own E : String} {ce : Cell} {q : Addr} {mc ms : Nat} (hown : s.vm.findClass own = some m.cls) (hlocks : meth.locks = false)
    (hpass : ∀ z ∈ c.exceptionTable.toList, covers z pc = false ∨ (z.catchType ≠ 0 ∧ ∃ nm : String, (Cond.classLink own z.catchType nm).before args s = true ∧ va_Nc E nm s)) (hcell : H[q]? = some ce) (hv : ce.vm = .none) (hcl : s.vm.findClass E = some ce.cls)
    (hx : ∀ t : State, t.heap = H → s.vm.Alike t.vm → XC E s t) (hf : ∀ z ∈ locs, free z.base) (hc : cells ≤ mc) (hs : slots ≤ ms) :
    vx_W p l e R s m args below meth c H locs cells slots (vx_MQ below Qc XC args s mc ms free) (F0 m pc ls rest) q := by
  intro T hT X
  have hpl : e.platform.magicAccessors = ({} : Platform).magicAccessors := by rw [X.admits.platform]
  obtain ⟨vm', hW', X', st⟩ := Stand.outThrough X hlocks q (g := F0 m pc ls rest) rfl rfl rfl (cell := ce) (by rw [hT]; exact hcell) (by rw [hv]; rfl)
    (by obtain ⟨k9, h9, -⟩ := Vm.findClass_spec hcl; exact ⟨k9, h9⟩) (fun z hz => by
      rcases hpass z hz with h | ⟨hz0, nm, hl1, hn1⟩
      · exact Or.inl h
      · obtain ⟨c6, hc6, hcl6⟩ := Cond.classLink_spec hown hl1 e.platform hpl
        obtain ⟨a8, b8, h1, h2, h3⟩ := hn1
        cases Option.some.inj (h1.symm.trans hcl)
        cases Option.some.inj (h2.symm.trans hc6)
        exact Or.inr ⟨hz0, _, hcl6, h3⟩)
  obtain ⟨g₀, hfr⟩ := X'.frames_eq
  have hcell9 : ((T.setVm vm').setFrames (.throwing q :: below)).heap[q]? = some ce := by
    show T.heap[q]? = some ce
    rw [hT]; exact hcell
  have hend : Ended ((T.setVm vm').setFrames (.throwing q :: below)) below (.threw q) := State.frames_setFrames _ (State.cur_lt_of_frames hfr)
  refine ⟨(T.setVm vm').setFrames (.throwing q :: below), ?_, .threw q, X'.here.running, hend, Or.inr ⟨q, rfl, E, ce, locs, hx _ hT (X'.ends _).1.alike, hcell9, hv, hcl, (X'.ends _).1, (X'.ends _).2.mono hc hs, hf⟩⟩
  rw [X.pushThrowing_eq]
  exact st
end
section
/-! WHAT A THROW NEEDS of the state: kept by every method, since none of it is written. -/
abbrev ISE : String := "java/lang/IllegalStateException"
abbrev AE : String := "java/lang/ArithmeticException"
abbrev dcR : Cond := .declares (Bundle.initS "java/lang/RuntimeException")
abbrev dcE : Cond := .declares (Bundle.initS "java/lang/Exception")
abbrev dcT : Cond := .declares (Bundle.initS Bundle.tN)
def Ev (A : Nat → Prop) (U : State) : Prop := (∀ q : Nat, U.heap.size ≤ q → A q) ∧ Asg U ∧ (va_Nw (.castable ISE ISE) U ∧ va_Nw (.castable AE AE) U ∧ va_Nc AE ISE U) ∧ (va_Nw dcR U ∧ va_Nw dcE U ∧ va_Nw dcT U) ∧ (vx_Zq Bundle.tN "UNASSIGNED_STACK" Bundle.steD A U U.heap ∧ vx_Zq Bundle.tN "SUPPRESSED_SENTINEL" Bundle.listD A U U.heap) ∧ ∃ sa sb : Nat, vk_R RX4 73 "stopped" sa U ∧ vk_R RX5 30 "no load to divide by" sb U
theorem Ev.go {A : Nat → Prop} {s U : State} {H : Heap} {locs : List Loc} (h : Ev A s) (hS : va_S A s.heap H locs) (hU : U.heap = H) (hW : s.WarmedH U.vm) : Ev A U := by
  obtain ⟨h1, h2, ⟨h3, h4, h5⟩, ⟨u1, u2, u3⟩, ⟨h6, h7⟩, sa, sb, h8, h9⟩ := h
  refine ⟨fun q hq => h1 q (Nat.le_trans hS.1 (by rw [← hU]; exact hq)), h2.moved hW.alike, ⟨va_Nw.warmC hW h3, va_Nw.warmC hW h4, h5.moved hW.alike⟩, ⟨va_Nw.warmD hW u1, va_Nw.warmD hW u2, va_Nw.warmD hW u3⟩, ⟨?_, ?_⟩, sa, sb, vk_R.warm hW h8, vk_R.warm hW h9⟩
  · rw [hU]; exact (h6.moved hW.alike).kept (fun a ha hn => hS.2.1 a ha hn)
  · rw [hU]; exact (h7.moved hW.alike).kept (fun a ha hn => hS.2.1 a ha hn)
theorem Ev.same {A : Nat → Prop} {u U : State} (h : Ev A u) (hv : U.vm = u.vm) (hh : U.heap = u.heap) : Ev A U := by
  obtain ⟨h1, h2, ⟨h3, h4, h5⟩, ⟨u1, u2, u3⟩, ⟨h6, h7⟩, sa, sb, h8, h9⟩ := h
  have hal : u.vm.Alike U.vm := by rw [hv]; exact Vm.Alike.refl u.vm
  refine ⟨fun q hq => h1 q (by rw [← hh]; exact hq), h2.moved hal, ⟨va_Nw.same rfl hv.symm h3, va_Nw.same rfl hv.symm h4, h5.moved hal⟩, ⟨va_Nw.same rfl hv.symm u1, va_Nw.same rfl hv.symm u2, va_Nw.same rfl hv.symm u3⟩, ⟨?_, ?_⟩, sa, sb, vk_R.same hv h8, vk_R.same hv h9⟩
  · rw [hh]; exact h6.moved hal
  · rw [hh]; exact h7.moved hal
theorem Ev.narrow {A A' : Nat → Prop} {U : State} (h : Ev A U) (hA : ∀ q, A' q → A q) (hf : ∀ q : Nat, U.heap.size ≤ q → A' q) : Ev A' U := by
  obtain ⟨h1, h2, h3, h4, ⟨h6, h7⟩, h8⟩ := h
  exact ⟨hf, h2, h3, h4, ⟨h6.narrow hA, h7.narrow hA⟩, h8⟩
section XThrow
variable {p : Program} {l : Launch} {e : Env} {R : Room} {s : State} {m : MethodId} {args : Array Value} {below : List Frame} {meth : Method} {c : Code} {H : Heap} {locs : List Loc} {cells slots : Nat}
variable {cc : ByteArray} {nL pc : Nat} {ls : Array Slot} {rest : List Value} {rm : Room} {Post : State → Prop} {oc : Option Value ⊕ String} {D : va_G} {A : Nat → Prop} {P : SwP} {F : Nat → Nat → Int32} {B G : Nat → Int32} {n : Int32} {fd : Nat → Option Nat} {dk : List Nat}
theorem Xe_bl : Bl (fun U => Ev A U ∧ Xp D A P F B G dk U) := fun U g mk a h => ⟨h.1.same (U := U.calling g mk a) rfl rfl, Xp_bl U g mk a h.2⟩
theorem x_grow {t : State} (hw : XwR D A P F B G n fd s H) (hvm : s.vm.Alike t.vm) (hk : ∀ q : Nat, q < H.size → t.heap[q]? = H[q]?) : XwR D A P F B G n fd t t.heap := ⟨va_K.moved hvm hw.1, hw.2.1.kept (fun k q hq => hk q.1 (vx_lt hw.2.1 hq)), hw.2.2⟩
theorem f_grow {t : State} (hS : va_S A s.heap H locs) (hz : H.size ≤ t.heap.size) (hk : ∀ q : Nat, q < H.size → t.heap[q]? = H[q]?) : va_F A s t := ⟨Nat.le_trans hS.1 hz, fun q h1 h2 => (hk q (Nat.lt_of_lt_of_le h1 hS.1)).trans (hS.2.1 q h1 h2)⟩
abbrev exN : List String := ["java/lang/RuntimeException", "java/lang/Exception"]
theorem at4g : ∀ w ∈ (vx_atS RX4 75 ISE exN).filter goodWord, w ∈ wB := by decide +kernel
theorem at4b : ∀ w ∈ (vx_atS RX4 75 ISE exN).filter (fun w => !goodWord w), w ∈ [Cond.castable ISE ISE, dcR, dcE, dcT] := by decide +kernel
theorem at4o : ∀ w ∈ Cond.classLink RX4 71 ISE :: Cond.initialized ISE :: vx_atS RX4 75 ISE exN, vx_ot w = true := by decide +kernel
theorem at5g : ∀ w ∈ (vx_atS RX5 32 AE exN).filter goodWord, w ∈ wB := by decide +kernel
theorem at5b : ∀ w ∈ (vx_atS RX5 32 AE exN).filter (fun w => !goodWord w), w ∈ [Cond.castable AE AE, dcR, dcE, dcT] := by decide +kernel
theorem at5o : ∀ w ∈ Cond.classLink RX5 28 AE :: Cond.initialized AE :: vx_atS RX5 32 AE exN, vx_ot w = true := by decide +kernel
/-- throw new IllegalStateException("stopped"), in Cart -/
theorem x_thr4 (C : CallFix p m c cc nL s args wB RX4) (hlt : l.stackTraces = false) (hE : Ev A s) (hlocks : meth.locks = false) (hout : ∀ x ∈ c.exceptionTable.toList, False) (hS : va_S A s.heap H locs) (hsize : ls.size = nL)
    (d0 : decode cc pc = .ok (.new 71, 3)) (d3 : decode cc (pc + 3) = .ok (.dup, 1)) (d4 : decode cc (pc + 4) = .ok (.ldc 73, 2)) (d6 : decode cc (pc + 6) = .ok (.invokespecial 75, 3)) (d9 : decode cc (pc + 9) = .ok (.athrow, 1))
    (hR : 5 < R.frames ∧ (rest.map fun v => v.category).sum + 82 ≤ R.locals ∧ cells + 1 ≤ R.cells ∧ slots + 6 ≤ R.slots) (hc : cells + 1 ≤ rm.cells) (hs : slots + 6 ≤ rm.slots) (hoc : oc = .inr ISE) (hp : ∀ t : State, s.vm.Alike t.vm → (∀ q : Nat, q < H.size → t.heap[q]? = H[q]?) → Post t) :
    W p l e R s m args below meth c H locs cells slots (CtQ below s args rm A oc Post) (F0 m pc ls rest) := by
  obtain ⟨h1, h2, ⟨h3, h4, h5⟩, ⟨u1, u2, u3⟩, ⟨h6, h7⟩, sa, sb, h8, h9⟩ := hE
  exact vx_throwS (names := exN) (A := A) C.1 C.2.1 hlt C.2.2.2.1 (by decide) (by decide) (C.2.2.2.2 _ (by decide +kernel)) (C.2.2.2.2 _ (by decide +kernel)) h8 (vx_hat (fun w hw => C.2.2.2.2 _ (at4g w hw)) at4b (vx_c (va_Nw.use rfl h3) (vx_c (va_Nw.use rfl u1) (vx_c (va_Nw.use rfl u2) (vx_c (va_Nw.use rfl u3) vx_n))))) at4o h6 h7 hS (hsize.trans C.2.2.1.symm) d0 d3 d4 d6 d9 (fun x hx => absurd (hout x hx) id) hR.1 hR.2.1 hR.2.2.1 hR.2.2.2 hlocks (fun t hvm hz hk => ⟨hoc, hp t hvm hk, f_grow hS hz hk⟩) hS.2.2 hc hs
/-- throw new ArithmeticException(".."), in Cycle -/
theorem x_thr5 (C : CallFix p m c cc nL s args wB RX5) (hlt : l.stackTraces = false) (hE : Ev A s) (hlocks : meth.locks = false) (hout : ∀ x ∈ c.exceptionTable.toList, False) (hS : va_S A s.heap H locs) (hsize : ls.size = nL)
    (d0 : decode cc pc = .ok (.new 28, 3)) (d3 : decode cc (pc + 3) = .ok (.dup, 1)) (d4 : decode cc (pc + 4) = .ok (.ldc 30, 2)) (d6 : decode cc (pc + 6) = .ok (.invokespecial 32, 3)) (d9 : decode cc (pc + 9) = .ok (.athrow, 1))
    (hR : 5 < R.frames ∧ (rest.map fun v => v.category).sum + 82 ≤ R.locals ∧ cells + 1 ≤ R.cells ∧ slots + 6 ≤ R.slots) (hc : cells + 1 ≤ rm.cells) (hs : slots + 6 ≤ rm.slots) (hoc : oc = .inr AE) (hp : ∀ t : State, s.vm.Alike t.vm → (∀ q : Nat, q < H.size → t.heap[q]? = H[q]?) → Post t) :
    W p l e R s m args below meth c H locs cells slots (CtQ below s args rm A oc Post) (F0 m pc ls rest) := by
  obtain ⟨h1, h2, ⟨h3, h4, h5⟩, ⟨u1, u2, u3⟩, ⟨h6, h7⟩, sa, sb, h8, h9⟩ := hE
  exact vx_throwS (names := exN) (A := A) C.1 C.2.1 hlt C.2.2.2.1 (by decide) (by decide) (C.2.2.2.2 _ (by decide +kernel)) (C.2.2.2.2 _ (by decide +kernel)) h9 (vx_hat (fun w hw => C.2.2.2.2 _ (at5g w hw)) at5b (vx_c (va_Nw.use rfl h4) (vx_c (va_Nw.use rfl u1) (vx_c (va_Nw.use rfl u2) (vx_c (va_Nw.use rfl u3) vx_n))))) at5o h6 h7 hS (hsize.trans C.2.2.1.symm) d0 d3 d4 d6 d9 (fun x hx => absurd (hout x hx) id) hR.1 hR.2.1 hR.2.2.1 hR.2.2.2 hlocks (fun t hvm hz hk => ⟨hoc, hp t hvm hk, f_grow hS hz hk⟩) hS.2.2 hc hs
end XThrow
end
section
/-- how an act ended: 0 it came to its end, 1 STOPPED, 2 ARITHMETIC -/
def ocE (n : Nat) (v : Option Value) : Option Value ⊕ String := if n = 0 then .inl v else if n = 1 then .inr ISE else .inr AE
theorem ocE_l {n : Nat} {v w : Option Value} (h : ocE n v = .inl w) : n = 0 ∧ w = v := by
  unfold ocE at h
  by_cases h0 : n = 0
  · rw [if_pos h0] at h; exact ⟨h0, (Sum.inl.inj h).symm⟩
  · rw [if_neg h0] at h
    by_cases h1 : n = 1
    · rw [if_pos h1] at h; cases h
    · rw [if_neg h1] at h; cases h
theorem ocE_r {n : Nat} {v : Option Value} {E : String} (h : ocE n v = .inr E) : (n = 1 ∧ E = ISE) ∨ (n ≠ 0 ∧ n ≠ 1 ∧ E = AE) := by
  unfold ocE at h
  by_cases h0 : n = 0
  · rw [if_pos h0] at h; cases h
  · rw [if_neg h0] at h
    by_cases h1 : n = 1
    · rw [if_pos h1] at h; exact Or.inl ⟨h1, (Sum.inr.inj h).symm⟩
    · rw [if_neg h1] at h; exact Or.inr ⟨h0, h1, (Sum.inr.inj h).symm⟩
theorem ocE_0 {n : Nat} {v : Option Value} (h : n = 0) : ocE n v = .inl v := if_pos h
/-- TOLL: its end, and what it does to the counts -/
def tO (k : Nat) (F : Nat → Nat → Int32) (i : Nat) (h : Int32) : Option Value ⊕ String := if tX k F i = true then .inr AE else .inl (some (.int (tR k F i h)))
def tG (k : Nat) (F : Nat → Nat → Int32) (i : Nat) (G : Nat → Int32) : Nat → Int32 := if tX k F i = true then upd G 6 (G 6 + 1) else G
theorem tO_r {k i : Nat} {F : Nat → Nat → Int32} {h : Int32} {E : String} (q : tO k F i h = .inr E) : tX k F i = true ∧ E = AE := by
  unfold tO at q
  by_cases h0 : tX k F i = true
  · rw [if_pos h0] at q; exact ⟨h0, (Sum.inr.inj q).symm⟩
  · rw [if_neg h0] at q; cases q
theorem tO_l {k i : Nat} {F : Nat → Nat → Int32} {h : Int32} {v : Option Value} (q : tO k F i h = .inl v) : tX k F i = false ∧ v = some (.int (tR k F i h)) := by
  unfold tO at q
  by_cases h0 : tX k F i = true
  · rw [if_pos h0] at q; cases q
  · rw [if_neg h0] at q; exact ⟨Bool.eq_false_iff.mpr h0, (Sum.inl.inj q).symm⟩
/-- ENTER by TANKER, by CYCLE, out of UNDER's end r -/
def eT (r : Nat × SwSt) : Nat × SwSt := if r.1 = 0 then (0, r.2.1, r.2.2.1, upd r.2.2.2.1 3 (mx (r.2.2.2.1 3 - 100) 0), r.2.2.2.2) else r
def eC (K : Nat → Nat) (i : Nat) (h : Int32) (r : Nat × SwSt) : Nat × SwSt := if r.1 = 1 then pE K i h r.2 else r
def eN (K : Nat → Nat) (i : Nat) (h : Int32) (z : SwSt) : Nat × SwSt :=
  if K i = 3 then pE K i h (uF z.1 i 9 (z.1 i 9 + 1), iB z.2.1 3, z.2.2)
  else if K i = 5 then eT (pE K i h (z.1, iB z.2.1 5, z.2.2))
  else if K i = 6 ∨ K i = 7 then pE K i h (uF z.1 i 5 (mn (z.1 i 5 + 40) 5000), iB z.2.1 6, z.2.2)
  else if K i = 8 then eC K i h (pE K i h (z.1, iB z.2.1 8, z.2.2))
  else pE K i h z
theorem pE_s {K : Nat → Nat} {i : Nat} {h : Int32} {F : Nat → Nat → Int32} {B G : Nat → Int32} {dk : List Nat} (q : fR K F G dk i = false) : pE K i h (F, B, G, dk) = (1, F, fB K dk i (iB B 0), upd G 5 (G 5 + 1), dk) := if_pos q
theorem pE_x {K : Nat → Nat} {i : Nat} {h : Int32} {F : Nat → Nat → Int32} {B G : Nat → Int32} {dk : List Nat} (q : fR K F G dk i = true) (q2 : tX (K i) F i = true) : pE K i h (F, B, G, dk) = (2, F, tB (K i) h (fB K dk i (iB B 0)), upd G 6 (G 6 + 1), dk) := (if_neg (by rw [q]; decide)).trans (if_pos q2)
theorem pE_0 {K : Nat → Nat} {i : Nat} {h : Int32} {F : Nat → Nat → Int32} {B G : Nat → Int32} {dk : List Nat} (q : fR K F G dk i = true) (q2 : tX (K i) F i = false) : pE K i h (F, B, G, dk) = (0, uF (uF (uF F i 7 (F i 7 + tR (K i) F i h)) i 8 (F i 8 + 1)) i 6 1, tB (K i) h (fB K dk i (iB B 0)), G, dk ++ [i]) := (if_neg (by rw [q]; decide)).trans (if_neg (by rw [q2]; decide))
theorem pE_1 {K : Nat → Nat} {i : Nat} {h : Int32} {F : Nat → Nat → Int32} {B G : Nat → Int32} {dk : List Nat} (q : (pE K i h (F, B, G, dk)).1 = 1) : pE K i h (F, B, G, dk) = (1, F, fB K dk i (iB B 0), upd G 5 (G 5 + 1), dk) := by
  cases h1 : fR K F G dk i with
  | false => exact pE_s h1
  | true =>
    cases h2 : tX (K i) F i with
    | false => rw [pE_0 h1 h2] at q; exact absurd (show (0 : Nat) = 1 from q) (by decide)
    | true => rw [pE_x h1 h2] at q; exact absurd (show (2 : Nat) = 1 from q) (by decide)
theorem covers_f {z : ExceptionTableEntry} {pc : Nat} (h : ¬ (z.startPc ≤ pc ∧ pc < z.endPc)) : covers z pc = false := by
  unfold covers
  by_cases h1 : z.startPc ≤ pc <;> by_cases h2 : pc < z.endPc <;> simp [h1, h2] <;> exact h ⟨h1, h2⟩
section XOut
variable {p : Program} {l : Launch} {e : Env} {R : Room} {s : State} {m : MethodId} {args : Array Value} {below : List Frame} {meth : Method} {c : Code} {H : Heap} {locs : List Loc} {cells slots pc : Nat} {ls : Array Slot} {rest : List Value} {rm : Room} {Post : State → Prop} {oc : Option Value ⊕ String} {A : Nat → Prop} {E : String} {ce : Cell} {q : Addr}
theorem x_al {D : va_G} {P : SwP} {F : Nat → Nat → Int32} {B G : Nat → Int32} {n : Int32} {fd : Nat → Option Nat} {t : State} (hw : XwR D A P F B G n fd s H) (ht : t.heap = H) (hvm : s.vm.Alike t.vm) : XwR D A P F B G n fd t t.heap := by rw [ht]; exact hw.moved hvm
/-- a thrown object goes on to the caller -/
theorem ct_out (hout : ∀ x ∈ c.exceptionTable.toList, covers x pc = false) (hlocks : meth.locks = false) (hce : H[q]? = some ce) (hcv : ce.vm = .none) (hcl : s.vm.findClass E = some ce.cls) (hoc : oc = .inr E) (hp : ∀ t : State, t.heap = H → s.vm.Alike t.vm → Post t) (hS : va_S A s.heap H locs) (hc : cells ≤ rm.cells) (hs : slots ≤ rm.slots) :
    vx_W p l e R s m args below meth c H locs cells slots (CtQ below s args rm A oc Post) (F0 m pc ls rest) q :=
  vx_out hout hlocks hce hcv hcl (fun t ht hvm => ⟨hoc, hp t ht hvm, hS.F ht⟩) hS.2.2 hc hs
/-- a body with a table of handlers -/
theorem ct_mkH {y : MethodName} {cc : ByteArray} {mL : Nat} {ret : Option FieldType} {hh : List (Nat × Nat × Nat × Nat)} {Pre : State → Prop} {av : List Value} (hy : plainName y.cls = true) (hsl : (lg_sl av).length ≤ mL)
    (body : ∀ (p : Program) (e : Env) (s : State) (m : MethodId) (below : List Frame) (meth : Method) (c : Code) (ls : Array Slot), CallFix p m c cc mL s av.toArray wB y.cls → meth.sig.returnType = ret → meth.locks = false → c.exceptionTable.toList = tableOf hh → Pre s → lv_has ls mL (lv_args 0 av) →
      W p l e rm s m av.toArray below meth c s.heap [] 0 0 (CtQ below s av.toArray rm A oc Post) (F0 m 0 ls [])) : Ct l y (.codeWith y cc mL ret hh) rm A av Pre oc Post := by
  refine vx_ofWH (cc := cc) (maxL := mL) (ret := ret) (hh := hh) hy rfl ?_
  intro p e s m args below meth c s₁ B hml hv
  obtain ⟨rfl, hv⟩ := hv
  have hl := lv_entry av (n := mL) hsl
  rw [lg_entry_eq]
  have hts := atoms_spec (ws := Cond.codeWith y cc mL ret hh :: wB) B.pre
  exact body p e s m below meth c _ ⟨B.exec, B.bytes, hml, findClass_of_methodNamed B.named, fun w h => hts w (List.mem_cons_of_mem _ h)⟩ B.returns B.notSynchronized (vx_table (x := y) B (hts _ List.mem_cons_self)) hv hl
end XOut
set_option maxHeartbeats 400000 in
set_option maxRecDepth 100000 in
/-- CYCLE: 100 / LOAD (by 0 ARITHMETIC) -/
theorem c_X5_tollAct (l : Launch) (D : va_G) (A : Nat → Prop) (P : SwP) (F : Nat → Nat → Int32) (B G : Nat → Int32) (dk : List Nat) (i : Nat) (h : Int32) (hlt : l.stackTraces = false) (hi : i < pn P) (e0 : pk P i = 8) : Ct l yX5_tollAct (.code yX5_tollAct cX5_tollAct 2 (some .int)) ({ frames := 6, cells := 1, slots := 6, locals := 102 }) A [.ref (pa P i), .int h] (fun U => Ev A U ∧ Xp D A P F B G dk U) (tO (pk P i) F i h) (Xp D A P F (tB (pk P i) h B) (tG (pk P i) F i G) dk) := by
  refine ct_mk (by decide) (Nat.le_of_ble_eq_true rfl) (fun p e s m below meth c ls C hr hlocks hnm htab hP hl => ?_)
  obtain ⟨hE, hw⟩ := hP
  have hS : va_S A s.heap s.heap [] := va_S.rf
  have hl : lv_has ls 2 [(0, .ref (pa P i)), (1, .int h)] := hl
  have hk : pk P i < 9 := by omega
  rw [show tB (pk P i) h B = iB B 8 by unfold tB; rw [if_neg (by rw [e0]; decide), if_neg (by rw [e0]; decide), if_neg (by rw [e0]; decide), if_neg (by rw [e0]; decide), if_pos e0]]
  refine x_begun C hw hi hk tb_122 (Or.inr tb_123) tb_44 (lv_at hl 0 rfl) dX5_tollAct_0 dX5_tollAct_1 dX5_tollAct_4 ?_
  refine lv_bipush (v := 8) C.1 C.2.1 dX5_tollAct_7 (by decide) ?_
  refine x_inc C hw hS (j := 8) (by decide) (by decide) dX5_tollAct_9 dX5_tollAct_10 dX5_tollAct_11 dX5_tollAct_12 dX5_tollAct_13 (fun H locs hw hS => ?_)
  refine lv_aload_n C.1 C.2.1 dX5_tollAct_14 rfl (lv_at hl 0 rfl) ?_
  refine xv_get C hw hi hk 5 (by decide) tb_137 (Or.inr tb_138) rfl dX5_tollAct_15 ?_
  refine lv_if_ne (tgt := 44) C.1 C.2.1 dX5_tollAct_18 (by decide) (fun h1 => ?_) (fun h1 => ?_)
  · refine lv_bipush (v := 100) C.1 C.2.1 dX5_tollAct_44 (by decide) ?_
    refine lv_aload_n C.1 C.2.1 dX5_tollAct_46 rfl (lv_at hl 0 rfl) ?_
    refine xv_get C hw hi hk 5 (by decide) tb_137 (Or.inr tb_138) rfl dX5_tollAct_47 ?_
    refine lv_idiv C.1 C.2.1 dX5_tollAct_50 h1 ?_
    have hx : tX (pk P i) F i = false := decide_eq_false (fun q => h1 q.2)
    rw [show tO (pk P i) F i h = .inl (some (.int (100 / F i 5))) by unfold tO; rw [if_neg (by rw [hx]; decide), show tR (pk P i) F i h = 100 / F i 5 by unfold tR; rw [if_neg (by rw [e0]; decide), if_neg (by rw [e0]; decide), if_neg (by rw [e0]; decide), if_neg (by rw [e0]; decide), if_pos e0]; rw [if_neg h1]], show tG (pk P i) F i G = G from if_neg (by rw [hx]; decide)]
    exact ct_i C hr hlocks rfl (fun t ht hW => x_post hw ht hW) hS (Nat.le_of_ble_eq_true rfl) (Nat.le_of_ble_eq_true rfl) dX5_tollAct_51
  · refine lv_aload_n C.1 C.2.1 dX5_tollAct_21 rfl (lv_at hl 0 rfl) ?_
    refine xv_get C hw hi hk 0 (by decide) tb_122 (Or.inr tb_123) rfl dX5_tollAct_22 ?_
    refine lv_dup C.1 C.2.1 dX5_tollAct_25 rfl ?_
    refine xb_get C hw 6 (by decide) tb_62 rfl dX5_tollAct_26 ?_
    refine lv_iconst (v := 1) C.1 C.2.1 dX5_tollAct_29 (by decide) ?_
    refine lv_iadd C.1 C.2.1 dX5_tollAct_30 ?_
    refine xb_puti C hw hS 6 (by decide) tb_62 dX5_tollAct_31 (fun H locs hw hS => ?_)
    have hx : tX (pk P i) F i = true := decide_eq_true ⟨e0, h1⟩
    rw [show tO (pk P i) F i h = .inr AE from if_pos hx, show tG (pk P i) F i G = upd G 6 (G 6 + 1) from if_pos hx]
    exact x_thr5 C hlt hE hlocks htab hS hl.1 dX5_tollAct_34 dX5_tollAct_37 dX5_tollAct_38 dX5_tollAct_40 dX5_tollAct_43 ⟨Nat.le_of_ble_eq_true rfl, Nat.le_of_ble_eq_true rfl, Nat.le_of_ble_eq_true rfl, Nat.le_of_ble_eq_true rfl⟩ (Nat.le_of_ble_eq_true rfl) (Nat.le_of_ble_eq_true rfl) rfl (fun t hvm hk => x_grow hw hvm hk)
section XV5
variable {p : Program} {l : Launch} {e : Env} {R : Room} {s : State} {m : MethodId} {args : Array Value} {below : List Frame} {meth : Method} {c : Code} {H : Heap} {locs : List Loc} {cells slots : Nat}
variable {cc : ByteArray} {nL index pc : Nat} {ls : Array Slot} {rest : List Value} {own : String} {D : va_G} {A : Nat → Prop} {P : SwP} {F : Nat → Nat → Int32} {B G : Nat → Int32} {dk : List Nat} {i : Nat}

set_option maxHeartbeats 400000 in
set_option maxRecDepth 100000 in
theorem v_toll (C : CallFix p m c cc nL s args wB own) (hw : XwR D A P F B G (nI dk.length) (dfd P dk) s H) (hi : i < pn P) (hk : pk P i < 9) {h : Int32} (hlt : l.stackTraces = false) (hE : Ev A s) (hS : va_S A s.heap H locs) (h1 : Cond.methodLink own index ⟨"SwingBridge$Cart", "tollAct", "(I)I"⟩ ∈ wB) (hsize : ls.size = nL) (hdg : decode cc pc = .ok (.invokevirtual index, 3)) (hR : 7 ≤ R.frames ∧ 124 ≤ R.locals) (hW : (rest.map fun v => v.category).sum ≤ 8) (hf : cells + 1 ≤ R.cells ∧ slots + 6 ≤ R.slots) :
    CtR p l e R s m args below meth c H locs cells slots (F0 m pc ls (.int h :: .ref (pa P i) :: rest)) rest ({ frames := 6, cells := 1, slots := 6, locals := 102 }) A (tO (pk P i) F i h) (Xp D A P F (tB (pk P i) h B) (tG (pk P i) F i G) dk) := by
  have hx0 : va_Decl s ⟨"SwingBridge$Cart", "tollAct", "(I)I"⟩ := va_Decl.of (C.2.2.2.2 _ tb_475) (C.2.2.2.2 _ tb_571)
  rcases (show pk P i = 0 ∨ pk P i = 1 ∨ pk P i = 2 ∨ pk P i = 3 ∨ pk P i = 4 ∨ pk P i = 5 ∨ pk P i = 6 ∨ pk P i = 7 ∨ pk P i = 8 by omega) with e0 | e0 | e0 | e0 | e0 | e0 | e0 | e0 | e0
  · have hx : tX (pk P i) F i = false := by simp [tX, e0]
    rw [show tO (pk P i) F i h = .inl (some (.int (tP (pk P i) F i))) by unfold tO; rw [if_neg (by rw [hx]; decide), show tR (pk P i) F i h = (tP (pk P i) F i) by unfold tR; rw [if_neg (by rw [e0]; decide), if_neg (by rw [e0]; decide), if_neg (by rw [e0]; decide), if_neg (by rw [e0]; decide), if_neg (by rw [e0]; decide)]], show tB (pk P i) h B = (tPB (pk P i) B) by unfold tB; rw [if_neg (by rw [e0]; decide), if_neg (by rw [e0]; decide), if_neg (by rw [e0]; decide), if_neg (by rw [e0]; decide), if_neg (by rw [e0]; decide)], show tG (pk P i) F i G = G from if_neg (by rw [hx]; decide)]
    exact ctR_wide (ct_V C (c_X4_tollAct l D A P F B G dk i h hi hk) Xp_bl (Or.inl rfl) tb_571 tb_4 ⟨Nat.le_trans (Nat.le_of_ble_eq_true rfl) hR.1, Nat.le_trans (Nat.le_of_ble_eq_true rfl) hR.2⟩ h1 tb_477 hx0 ⟨by decide, by decide⟩ (CN := cN (pk P i)) (by rw [e0]; exact tb_476) tb_475 (x_recv hw hi hk) (fun U hU hW => x_post hw hU hW) (by show _ = some 1; decide +kernel) hsize rfl hW hdg ⟨Nat.le_trans (Nat.add_le_add_left (Nat.le_of_ble_eq_true rfl) _) hf.1, Nat.le_trans (Nat.add_le_add_left (Nat.le_of_ble_eq_true rfl) _) hf.2⟩) (Nat.le_of_ble_eq_true rfl) (Nat.le_of_ble_eq_true rfl)
  · have hx : tX (pk P i) F i = false := by simp [tX, e0]
    rw [show tO (pk P i) F i h = .inl (some (.int (tP (pk P i) F i))) by unfold tO; rw [if_neg (by rw [hx]; decide), show tR (pk P i) F i h = (tP (pk P i) F i) by unfold tR; rw [if_neg (by rw [e0]; decide), if_neg (by rw [e0]; decide), if_neg (by rw [e0]; decide), if_neg (by rw [e0]; decide), if_neg (by rw [e0]; decide)]], show tB (pk P i) h B = (tPB (pk P i) B) by unfold tB; rw [if_neg (by rw [e0]; decide), if_neg (by rw [e0]; decide), if_neg (by rw [e0]; decide), if_neg (by rw [e0]; decide), if_neg (by rw [e0]; decide)], show tG (pk P i) F i G = G from if_neg (by rw [hx]; decide)]
    exact ctR_wide (ct_V C (c_X4_tollAct l D A P F B G dk i h hi hk) Xp_bl (Or.inl rfl) tb_571 tb_4 ⟨Nat.le_trans (Nat.le_of_ble_eq_true rfl) hR.1, Nat.le_trans (Nat.le_of_ble_eq_true rfl) hR.2⟩ h1 tb_477 hx0 ⟨by decide, by decide⟩ (CN := cN (pk P i)) (by rw [e0]; exact tb_570) tb_475 (x_recv hw hi hk) (fun U hU hW => x_post hw hU hW) (by show _ = some 1; decide +kernel) hsize rfl hW hdg ⟨Nat.le_trans (Nat.add_le_add_left (Nat.le_of_ble_eq_true rfl) _) hf.1, Nat.le_trans (Nat.add_le_add_left (Nat.le_of_ble_eq_true rfl) _) hf.2⟩) (Nat.le_of_ble_eq_true rfl) (Nat.le_of_ble_eq_true rfl)
  · have hx : tX (pk P i) F i = false := by simp [tX, e0]
    rw [show tO (pk P i) F i h = .inl (some (.int (tP (pk P i) F i + 10))) by unfold tO; rw [if_neg (by rw [hx]; decide), show tR (pk P i) F i h = (tP (pk P i) F i + 10) by unfold tR; rw [if_pos e0]], show tB (pk P i) h B = (tPB (pk P i) (iB B 2)) by unfold tB; rw [if_pos e0], show tG (pk P i) F i G = G from if_neg (by rw [hx]; decide)]
    exact ctR_wide (ct_V C (c_X3_tollAct l D A P F B G dk i h hi hk) Xp_bl (Or.inl rfl) tb_484 tb_6 ⟨Nat.le_trans (Nat.le_of_ble_eq_true rfl) hR.1, Nat.le_trans (Nat.le_of_ble_eq_true rfl) hR.2⟩ h1 tb_477 hx0 ⟨by decide, by decide⟩ (CN := cN (pk P i)) (by rw [e0]; exact tb_488) tb_483 (x_recv hw hi hk) (fun U hU hW => x_post hw hU hW) (by show _ = some 1; decide +kernel) hsize rfl hW hdg ⟨Nat.le_trans (Nat.add_le_add_left (Nat.le_of_ble_eq_true rfl) _) hf.1, Nat.le_trans (Nat.add_le_add_left (Nat.le_of_ble_eq_true rfl) _) hf.2⟩) (Nat.le_of_ble_eq_true rfl) (Nat.le_of_ble_eq_true rfl)
  · have hx : tX (pk P i) F i = false := by simp [tX, e0]
    rw [show tO (pk P i) F i h = .inl (some (.int (if 20 ≤ h then 2 * (tP (pk P i) F i + 10) else if 6 ≤ h then tP (pk P i) F i + 10 + F i 9 else 2 * (tP (pk P i) F i + 10)))) by unfold tO; rw [if_neg (by rw [hx]; decide), show tR (pk P i) F i h = (if 20 ≤ h then 2 * (tP (pk P i) F i + 10) else if 6 ≤ h then tP (pk P i) F i + 10 + F i 9 else 2 * (tP (pk P i) F i + 10)) by unfold tR; rw [if_neg (by rw [e0]; decide), if_pos e0]], show tB (pk P i) h B = (tPB (pk P i) (iB (iB B 3) 2)) by unfold tB; rw [if_neg (by rw [e0]; decide), if_pos e0], show tG (pk P i) F i G = G from if_neg (by rw [hx]; decide)]
    exact ctR_wide (ct_V C (c_X2_tollAct l D A P F B G dk i h hi hk) Xp_bl (Or.inl rfl) tb_481 tb_7 ⟨Nat.le_trans (Nat.le_of_ble_eq_true rfl) hR.1, Nat.le_trans (Nat.le_of_ble_eq_true rfl) hR.2⟩ h1 tb_477 hx0 ⟨by decide, by decide⟩ (CN := cN (pk P i)) (by rw [e0]; exact tb_479) tb_480 (x_recv hw hi hk) (fun U hU hW => x_post hw hU hW) (by show _ = some 1; decide +kernel) hsize rfl hW hdg ⟨Nat.le_trans (Nat.add_le_add_left (Nat.le_of_ble_eq_true rfl) _) hf.1, Nat.le_trans (Nat.add_le_add_left (Nat.le_of_ble_eq_true rfl) _) hf.2⟩) (Nat.le_of_ble_eq_true rfl) (Nat.le_of_ble_eq_true rfl)
  · have hx : tX (pk P i) F i = false := by simp [tX, e0]
    rw [show tO (pk P i) F i h = .inl (some (.int (tP (pk P i) F i))) by unfold tO; rw [if_neg (by rw [hx]; decide), show tR (pk P i) F i h = (tP (pk P i) F i) by unfold tR; rw [if_neg (by rw [e0]; decide), if_neg (by rw [e0]; decide), if_neg (by rw [e0]; decide), if_neg (by rw [e0]; decide), if_neg (by rw [e0]; decide)]], show tB (pk P i) h B = (tPB (pk P i) B) by unfold tB; rw [if_neg (by rw [e0]; decide), if_neg (by rw [e0]; decide), if_neg (by rw [e0]; decide), if_neg (by rw [e0]; decide), if_neg (by rw [e0]; decide)], show tG (pk P i) F i G = G from if_neg (by rw [hx]; decide)]
    exact ctR_wide (ct_V C (c_X4_tollAct l D A P F B G dk i h hi hk) Xp_bl (Or.inl rfl) tb_571 tb_4 ⟨Nat.le_trans (Nat.le_of_ble_eq_true rfl) hR.1, Nat.le_trans (Nat.le_of_ble_eq_true rfl) hR.2⟩ h1 tb_477 hx0 ⟨by decide, by decide⟩ (CN := cN (pk P i)) (by rw [e0]; exact tb_564) tb_475 (x_recv hw hi hk) (fun U hU hW => x_post hw hU hW) (by show _ = some 1; decide +kernel) hsize rfl hW hdg ⟨Nat.le_trans (Nat.add_le_add_left (Nat.le_of_ble_eq_true rfl) _) hf.1, Nat.le_trans (Nat.add_le_add_left (Nat.le_of_ble_eq_true rfl) _) hf.2⟩) (Nat.le_of_ble_eq_true rfl) (Nat.le_of_ble_eq_true rfl)
  · have hx : tX (pk P i) F i = false := by simp [tX, e0]
    rw [show tO (pk P i) F i h = .inl (some (.int (tP (pk P i) F i + 50))) by unfold tO; rw [if_neg (by rw [hx]; decide), show tR (pk P i) F i h = (tP (pk P i) F i + 50) by unfold tR; rw [if_neg (by rw [e0]; decide), if_neg (by rw [e0]; decide), if_pos e0]], show tB (pk P i) h B = (tPB (pk P i) (iB B 5)) by unfold tB; rw [if_neg (by rw [e0]; decide), if_neg (by rw [e0]; decide), if_pos e0], show tG (pk P i) F i G = G from if_neg (by rw [hx]; decide)]
    exact ctR_wide (ct_V C (c_X8_tollAct l D A P F B G dk i h hi hk) Xp_bl (Or.inl rfl) tb_567 tb_9 ⟨Nat.le_trans (Nat.le_of_ble_eq_true rfl) hR.1, Nat.le_trans (Nat.le_of_ble_eq_true rfl) hR.2⟩ h1 tb_477 hx0 ⟨by decide, by decide⟩ (CN := cN (pk P i)) (by rw [e0]; exact tb_565) tb_566 (x_recv hw hi hk) (fun U hU hW => x_post hw hU hW) (by show _ = some 1; decide +kernel) hsize rfl hW hdg ⟨Nat.le_trans (Nat.add_le_add_left (Nat.le_of_ble_eq_true rfl) _) hf.1, Nat.le_trans (Nat.add_le_add_left (Nat.le_of_ble_eq_true rfl) _) hf.2⟩) (Nat.le_of_ble_eq_true rfl) (Nat.le_of_ble_eq_true rfl)
  · have hx : tX (pk P i) F i = false := by simp [tX, e0]
    rw [show tO (pk P i) F i h = .inl (some (.int (tP (pk P i) F i))) by unfold tO; rw [if_neg (by rw [hx]; decide), show tR (pk P i) F i h = (tP (pk P i) F i) by unfold tR; rw [if_neg (by rw [e0]; decide), if_neg (by rw [e0]; decide), if_neg (by rw [e0]; decide), if_neg (by rw [e0]; decide), if_neg (by rw [e0]; decide)]], show tB (pk P i) h B = (tPB (pk P i) B) by unfold tB; rw [if_neg (by rw [e0]; decide), if_neg (by rw [e0]; decide), if_neg (by rw [e0]; decide), if_neg (by rw [e0]; decide), if_neg (by rw [e0]; decide)], show tG (pk P i) F i G = G from if_neg (by rw [hx]; decide)]
    exact ctR_wide (ct_V C (c_X4_tollAct l D A P F B G dk i h hi hk) Xp_bl (Or.inl rfl) tb_571 tb_4 ⟨Nat.le_trans (Nat.le_of_ble_eq_true rfl) hR.1, Nat.le_trans (Nat.le_of_ble_eq_true rfl) hR.2⟩ h1 tb_477 hx0 ⟨by decide, by decide⟩ (CN := cN (pk P i)) (by rw [e0]; exact tb_478) tb_475 (x_recv hw hi hk) (fun U hU hW => x_post hw hU hW) (by show _ = some 1; decide +kernel) hsize rfl hW hdg ⟨Nat.le_trans (Nat.add_le_add_left (Nat.le_of_ble_eq_true rfl) _) hf.1, Nat.le_trans (Nat.add_le_add_left (Nat.le_of_ble_eq_true rfl) _) hf.2⟩) (Nat.le_of_ble_eq_true rfl) (Nat.le_of_ble_eq_true rfl)
  · have hx : tX (pk P i) F i = false := by simp [tX, e0]
    rw [show tO (pk P i) F i h = .inl (some (.int (if 22 ≤ h then 0 else if 5 ≤ h then tP (pk P i) F i else 0))) by unfold tO; rw [if_neg (by rw [hx]; decide), show tR (pk P i) F i h = (if 22 ≤ h then 0 else if 5 ≤ h then tP (pk P i) F i else 0) by unfold tR; rw [if_neg (by rw [e0]; decide), if_neg (by rw [e0]; decide), if_neg (by rw [e0]; decide), if_pos e0]], show tB (pk P i) h B = (if 22 ≤ h then iB B 7 else if 5 ≤ h then tPB (pk P i) (iB B 7) else iB B 7) by unfold tB; rw [if_neg (by rw [e0]; decide), if_neg (by rw [e0]; decide), if_neg (by rw [e0]; decide), if_pos e0], show tG (pk P i) F i G = G from if_neg (by rw [hx]; decide)]
    exact ctR_wide (ct_V C (c_X6_tollAct l D A P F B G dk i h hi hk) Xp_bl (Or.inl rfl) tb_561 tb_11 ⟨Nat.le_trans (Nat.le_of_ble_eq_true rfl) hR.1, Nat.le_trans (Nat.le_of_ble_eq_true rfl) hR.2⟩ h1 tb_477 hx0 ⟨by decide, by decide⟩ (CN := cN (pk P i)) (by rw [e0]; exact tb_559) tb_560 (x_recv hw hi hk) (fun U hU hW => x_post hw hU hW) (by show _ = some 1; decide +kernel) hsize rfl hW hdg ⟨Nat.le_trans (Nat.add_le_add_left (Nat.le_of_ble_eq_true rfl) _) hf.1, Nat.le_trans (Nat.add_le_add_left (Nat.le_of_ble_eq_true rfl) _) hf.2⟩) (Nat.le_of_ble_eq_true rfl) (Nat.le_of_ble_eq_true rfl)
  · exact ctR_wide (ct_V C (c_X5_tollAct l D A P F B G dk i h hlt hi e0) Xe_bl (Or.inl rfl) tb_491 tb_12 ⟨Nat.le_trans (Nat.le_of_ble_eq_true rfl) hR.1, Nat.le_trans (Nat.le_of_ble_eq_true rfl) hR.2⟩ h1 tb_477 hx0 ⟨by decide, by decide⟩ (CN := cN (pk P i)) (by rw [e0]; exact tb_489) tb_490 (x_recv hw hi hk) (fun U hU hW => ⟨hE.go hS hU hW, x_post hw hU hW⟩) (by show _ = some 1; decide +kernel) hsize rfl hW hdg ⟨Nat.le_trans (Nat.add_le_add_left (Nat.le_of_ble_eq_true rfl) _) hf.1, Nat.le_trans (Nat.add_le_add_left (Nat.le_of_ble_eq_true rfl) _) hf.2⟩) (Nat.le_of_ble_eq_true rfl) (Nat.le_of_ble_eq_true rfl)
end XV5
set_option maxHeartbeats 400000 in
set_option maxRecDepth 100000 in
/-- ENTER by CART -/
theorem c_X4_enterAct (l : Launch) (D : va_G) (A : Nat → Prop) (P : SwP) (F : Nat → Nat → Int32) (B G : Nat → Int32) (dk : List Nat) (i : Nat) (h : Int32) (hlt : l.stackTraces = false) (hO : Ok P F dk) (hz : G 4 = 0 ∨ G 4 = 1) (hn : dk.length < 24) (hi : i < pn P) (hk : pk P i < 9) : Ct l yX4_enterAct (.code yX4_enterAct cX4_enterAct 2 none) ({ frames := 7, cells := 1, slots := 6, locals := 124 }) A [.ref (pa P i), .int h] (fun U => Ev A U ∧ Xp D A P F B G dk U) (ocE (pE (pk P) i h (F, B, G, dk)).1 none) (Xp D A P (pE (pk P) i h (F, B, G, dk)).2.1 (pE (pk P) i h (F, B, G, dk)).2.2.1 (pE (pk P) i h (F, B, G, dk)).2.2.2.1 (pE (pk P) i h (F, B, G, dk)).2.2.2.2) := by
  refine ct_mk (by decide) (Nat.le_of_ble_eq_true rfl) (fun p e s m below meth c ls C hr hlocks hnm htab hP hl => ?_)
  obtain ⟨hE, hw⟩ := hP
  have hS : va_S A s.heap s.heap [] := va_S.rf
  have hl : lv_has ls 2 [(0, .ref (pa P i)), (1, .int h)] := hl
  refine x_begun C hw hi hk tb_111 (Or.inl rfl) tb_38 (lv_at hl 0 rfl) dX4_enterAct_0 dX4_enterAct_1 dX4_enterAct_4 ?_
  refine lv_iconst (v := 0) C.1 C.2.1 dX4_enterAct_7 (by decide) ?_
  refine x_inc C hw hS (j := 0) (by decide) (by decide) dX4_enterAct_8 dX4_enterAct_9 dX4_enterAct_10 dX4_enterAct_11 dX4_enterAct_12 (fun H locs hw hS => ?_)
  refine lv_aload_n C.1 C.2.1 dX4_enterAct_13 rfl (lv_at hl 0 rfl) ?_
  refine ct_ret (v_fit C hw hi hk hO hz tb_640 hl.1 dX4_enterAct_14 ⟨Nat.le_of_ble_eq_true rfl, Nat.le_of_ble_eq_true rfl⟩ (Nat.le_of_ble_eq_true rfl) ⟨Nat.le_of_ble_eq_true rfl, Nat.le_of_ble_eq_true rfl⟩) hS (fun _ h => h) (fun t H locs ht hvm hw _ _ hS => ?_)
  have hw := x_back hw ht hvm
  refine lv_if_ne (tgt := 43) C.1 C.2.1 dX4_enterAct_17 (by decide) (fun h1 => ?_) (fun h1 => ?_)
  · refine lv_aload_n C.1 C.2.1 dX4_enterAct_43 rfl (lv_at hl 0 rfl) ?_
    refine lv_dup C.1 C.2.1 dX4_enterAct_44 rfl ?_
    refine xv_get C hw hi hk 7 (by decide) tb_148 (Or.inl rfl) rfl dX4_enterAct_45 ?_
    refine lv_aload_n C.1 C.2.1 dX4_enterAct_48 rfl (lv_at hl 0 rfl) ?_
    refine lv_iload_n C.1 C.2.1 dX4_enterAct_49 rfl (lv_at hl 1 rfl) ?_
    refine ct_go (v_toll C hw hi hk hlt hE hS tb_474 hl.1 dX4_enterAct_50 ⟨Nat.le_of_ble_eq_true rfl, Nat.le_of_ble_eq_true rfl⟩ (Nat.le_of_ble_eq_true rfl) ⟨Nat.le_of_ble_eq_true rfl, Nat.le_of_ble_eq_true rfl⟩) hS (fun _ h => h) (fun E hoc ce q9 t H locs ht hvm hw _ _ hS hce hcv hcl => ?_) (fun v hoc t H locs ht hvm hw _ _ hS => ?_)
    · obtain ⟨hx, rfl⟩ := tO_r hoc
      have hw := x_back hw ht hvm
      rw [show tG (pk P i) F i G = upd G 6 (G 6 + 1) from if_pos hx] at hw
      rw [pE_x (K := pk P) (h := h) (B := B) (b2i_1 h1) hx]
      exact ct_out (fun x hx => absurd (htab x hx) id) hlocks hce hcv hcl rfl (fun t ht hvm => x_al hw ht hvm) hS (Nat.le_of_ble_eq_true rfl) (Nat.le_of_ble_eq_true rfl)
    · obtain ⟨hx, rfl⟩ := tO_l hoc
      have hw := x_back hw ht hvm
      rw [show tG (pk P i) F i G = G from if_neg (by rw [hx]; decide)] at hw
      rw [pE_0 (K := pk P) (h := h) (B := B) (b2i_1 h1) hx]
      refine lv_iadd C.1 C.2.1 dX4_enterAct_53 ?_
      refine xv_put C hw hS hi hk 7 (by decide) (by decide) tb_148 (Or.inl rfl) dX4_enterAct_54 (fun H locs hw hS => ?_)
      refine lv_aload_n C.1 C.2.1 dX4_enterAct_57 rfl (lv_at hl 0 rfl) ?_
      refine lv_dup C.1 C.2.1 dX4_enterAct_58 rfl ?_
      refine xv_get C hw hi hk 8 (by decide) tb_150 (Or.inl rfl) rfl dX4_enterAct_59 ?_
      refine lv_iconst (v := 1) C.1 C.2.1 dX4_enterAct_62 (by decide) ?_
      refine lv_iadd C.1 C.2.1 dX4_enterAct_63 ?_
      refine xv_put C hw hS hi hk 8 (by decide) (by decide) tb_150 (Or.inl rfl) dX4_enterAct_64 (fun H locs hw hS => ?_)
      refine lv_aload_n C.1 C.2.1 dX4_enterAct_67 rfl (lv_at hl 0 rfl) ?_
      refine lv_iconst (v := 1) C.1 C.2.1 dX4_enterAct_68 (by decide) ?_
      refine xv_put C hw hS hi hk 6 (by decide) (by decide) tb_146 (Or.inl rfl) dX4_enterAct_69 (fun H locs hw hS => ?_)
      refine lv_aload_n C.1 C.2.1 dX4_enterAct_72 rfl (lv_at hl 0 rfl) ?_
      refine xv_get C hw hi hk 0 (by decide) tb_111 (Or.inl rfl) rfl dX4_enterAct_73 ?_
      refine lv_aload_n C.1 C.2.1 dX4_enterAct_76 rfl (lv_at hl 0 rfl) ?_
      refine ct_ret (ct_V0 C (c_X0_takeOn l D A P _ _ _ _ (((hO.uf (by decide)).uf (by decide)).uf (by decide)) hn i hi hk) Xg_bl (Or.inl rfl) tb_660 tb_2 ⟨Nat.le_of_ble_eq_true rfl, Nat.le_of_ble_eq_true rfl⟩ tb_657 ⟨by decide, by decide⟩ tb_659 tb_658 (x_recvB hw) (fun U hU hW => ⟨hE.2.1.moved hW.alike, x_post hw hU hW⟩) (sig_code (C.2.2.2.2 _ tb_660)) (by show _ = some 1; decide +kernel) hl.1 rfl (Nat.le_of_ble_eq_true rfl) dX4_enterAct_77 ⟨Nat.le_of_ble_eq_true rfl, Nat.le_of_ble_eq_true rfl⟩) hS (fun _ h => h) (fun t H locs ht hvm hw _ _ hS => ?_)
      have hw := x_back hw ht hvm
      rw [uF_ne (F := F) (b := 8) (v := 7) (by decide)] at hw
      exact ct_v C hr hlocks rfl (fun t ht hW => x_post hw ht hW) hS (Nat.le_of_ble_eq_true rfl) (Nat.le_of_ble_eq_true rfl) dX4_enterAct_80
  · refine lv_aload_n C.1 C.2.1 dX4_enterAct_20 rfl (lv_at hl 0 rfl) ?_
    refine xv_get C hw hi hk 0 (by decide) tb_111 (Or.inl rfl) rfl dX4_enterAct_21 ?_
    refine lv_dup C.1 C.2.1 dX4_enterAct_24 rfl ?_
    refine xb_get C hw 5 (by decide) tb_59 rfl dX4_enterAct_25 ?_
    refine lv_iconst (v := 1) C.1 C.2.1 dX4_enterAct_28 (by decide) ?_
    refine lv_iadd C.1 C.2.1 dX4_enterAct_29 ?_
    refine xb_puti C hw hS 5 (by decide) tb_59 dX4_enterAct_30 (fun H locs hw hS => ?_)
    rw [pE_s (K := pk P) (h := h) (B := B) (b2i_0 h1)]
    exact x_thr4 C hlt hE hlocks htab hS hl.1 dX4_enterAct_33 dX4_enterAct_36 dX4_enterAct_37 dX4_enterAct_39 dX4_enterAct_42 ⟨Nat.le_of_ble_eq_true rfl, Nat.le_of_ble_eq_true rfl, Nat.le_of_ble_eq_true rfl, Nat.le_of_ble_eq_true rfl⟩ (Nat.le_of_ble_eq_true rfl) (Nat.le_of_ble_eq_true rfl) rfl (fun t hvm hk => x_grow hw hvm hk)
set_option maxHeartbeats 400000 in
set_option maxRecDepth 100000 in
/-- CAB: METER is 1 more, then UNDER -/
theorem c_X2_enterAct (l : Launch) (D : va_G) (A : Nat → Prop) (P : SwP) (F : Nat → Nat → Int32) (B G : Nat → Int32) (dk : List Nat) (i : Nat) (h : Int32) (hlt : l.stackTraces = false) (hO : Ok P F dk) (hz : G 4 = 0 ∨ G 4 = 1) (hn : dk.length < 24) (hi : i < pn P) (hk : pk P i < 9) : Ct l yX2_enterAct (.code yX2_enterAct cX2_enterAct 2 none) ({ frames := 8, cells := 1, slots := 6, locals := 145 }) A [.ref (pa P i), .int h] (fun U => Ev A U ∧ Xp D A P F B G dk U) (ocE (pE (pk P) i h (uF F i 9 (F i 9 + 1), iB B 3, G, dk)).1 none) (Xp D A P (pE (pk P) i h (uF F i 9 (F i 9 + 1), iB B 3, G, dk)).2.1 (pE (pk P) i h (uF F i 9 (F i 9 + 1), iB B 3, G, dk)).2.2.1 (pE (pk P) i h (uF F i 9 (F i 9 + 1), iB B 3, G, dk)).2.2.2.1 (pE (pk P) i h (uF F i 9 (F i 9 + 1), iB B 3, G, dk)).2.2.2.2) := by
  refine ct_mk (by decide) (Nat.le_of_ble_eq_true rfl) (fun p e s m below meth c ls C hr hlocks hnm htab hP hl => ?_)
  obtain ⟨hE, hw⟩ := hP
  have hS : va_S A s.heap s.heap [] := va_S.rf
  have hl : lv_has ls 2 [(0, .ref (pa P i)), (1, .int h)] := hl
  refine x_begun C hw hi hk tb_118 (Or.inr tb_119) tb_42 (lv_at hl 0 rfl) dX2_enterAct_0 dX2_enterAct_1 dX2_enterAct_4 ?_
  refine lv_iconst (v := 3) C.1 C.2.1 dX2_enterAct_7 (by decide) ?_
  refine x_inc C hw hS (j := 3) (by decide) (by decide) dX2_enterAct_8 dX2_enterAct_9 dX2_enterAct_10 dX2_enterAct_11 dX2_enterAct_12 (fun H locs hw hS => ?_)
  refine lv_aload_n C.1 C.2.1 dX2_enterAct_13 rfl (lv_at hl 0 rfl) ?_
  refine lv_dup C.1 C.2.1 dX2_enterAct_14 rfl ?_
  refine xv_get C hw hi hk 9 (by decide) tb_153 (Or.inr tb_154) rfl dX2_enterAct_15 ?_
  refine lv_iconst (v := 1) C.1 C.2.1 dX2_enterAct_18 (by decide) ?_
  refine lv_iadd C.1 C.2.1 dX2_enterAct_19 ?_
  refine xv_put C hw hS hi hk 9 (by decide) (by decide) tb_153 (Or.inr tb_154) dX2_enterAct_20 (fun H locs hw hS => ?_)
  refine lv_aload_n C.1 C.2.1 dX2_enterAct_23 rfl (lv_at hl 0 rfl) ?_
  refine lv_iload_n C.1 C.2.1 dX2_enterAct_24 rfl (lv_at hl 1 rfl) ?_
  refine ct_go (x_SU C hw hi hk (c_X4_enterAct l D A P _ _ _ _ i h hlt (hO.uf (by decide)) hz hn hi hk) Xe_bl (fun U hU hW => ⟨hE.go hS hU hW, x_post hw hU hW⟩) tb_639 tb_4 tb_608 tb_621 tb_622 ⟨rfl, rfl⟩ tb_210 (by decide) (sup2 C hw tb_193 tb_176) (by show _ = some 1; decide +kernel) hl.1 dX2_enterAct_25 ⟨Nat.le_of_ble_eq_true rfl, Nat.le_of_ble_eq_true rfl⟩ rfl (Nat.le_of_ble_eq_true rfl) ⟨Nat.le_of_ble_eq_true rfl, Nat.le_of_ble_eq_true rfl⟩) hS (fun _ h => h) (fun E hoc ce q9 t H locs ht hvm hw _ _ hS hce hcv hcl => ?_) (fun v hoc t H locs ht hvm hw _ _ hS => ?_)
  · have hw := x_back hw ht hvm
    exact ct_out (fun x hx => absurd (htab x hx) id) hlocks hce hcv hcl hoc (fun t ht hvm => x_al hw ht hvm) hS (Nat.le_of_ble_eq_true rfl) (Nat.le_of_ble_eq_true rfl)
  · have hw := x_back hw ht hvm
    obtain ⟨h0, rfl⟩ := ocE_l hoc
    exact ct_v C hr hlocks (ocE_0 h0) (fun t ht hW => x_post hw ht hW) hS (Nat.le_of_ble_eq_true rfl) (Nat.le_of_ble_eq_true rfl) dX2_enterAct_28
set_option maxHeartbeats 400000 in
set_option maxRecDepth 100000 in
/-- BUS: LOAD is 40 more (5000 at most), then UNDER -/
theorem c_X1_enterAct (l : Launch) (D : va_G) (A : Nat → Prop) (P : SwP) (F : Nat → Nat → Int32) (B G : Nat → Int32) (dk : List Nat) (i : Nat) (h : Int32) (hlt : l.stackTraces = false) (hO : Ok P F dk) (hz : G 4 = 0 ∨ G 4 = 1) (hn : dk.length < 24) (hi : i < pn P) (hk : pk P i < 9) : Ct l yX1_enterAct (.code yX1_enterAct cX1_enterAct 2 none) ({ frames := 8, cells := 1, slots := 6, locals := 145 }) A [.ref (pa P i), .int h] (fun U => Ev A U ∧ Xp D A P F B G dk U) (ocE (pE (pk P) i h (uF F i 5 (mn (F i 5 + 40) 5000), iB B 6, G, dk)).1 none) (Xp D A P (pE (pk P) i h (uF F i 5 (mn (F i 5 + 40) 5000), iB B 6, G, dk)).2.1 (pE (pk P) i h (uF F i 5 (mn (F i 5 + 40) 5000), iB B 6, G, dk)).2.2.1 (pE (pk P) i h (uF F i 5 (mn (F i 5 + 40) 5000), iB B 6, G, dk)).2.2.2.1 (pE (pk P) i h (uF F i 5 (mn (F i 5 + 40) 5000), iB B 6, G, dk)).2.2.2.2) := by
  refine ct_mk (by decide) (Nat.le_of_ble_eq_true rfl) (fun p e s m below meth c ls C hr hlocks hnm htab hP hl => ?_)
  obtain ⟨hE, hw⟩ := hP
  have hS : va_S A s.heap s.heap [] := va_S.rf
  have hl : lv_has ls 2 [(0, .ref (pa P i)), (1, .int h)] := hl
  refine x_begun C hw hi hk tb_124 (Or.inr tb_125) tb_45 (lv_at hl 0 rfl) dX1_enterAct_0 dX1_enterAct_1 dX1_enterAct_4 ?_
  refine lv_bipush (v := 6) C.1 C.2.1 dX1_enterAct_7 (by decide) ?_
  refine x_inc C hw hS (j := 6) (by decide) (by decide) dX1_enterAct_9 dX1_enterAct_10 dX1_enterAct_11 dX1_enterAct_12 dX1_enterAct_13 (fun H locs hw hS => ?_)
  refine lv_aload_n C.1 C.2.1 dX1_enterAct_14 rfl (lv_at hl 0 rfl) ?_
  refine lv_aload_n C.1 C.2.1 dX1_enterAct_15 rfl (lv_at hl 0 rfl) ?_
  refine xv_get C hw hi hk 5 (by decide) tb_139 (Or.inr tb_140) rfl dX1_enterAct_16 ?_
  refine lv_bipush (v := 40) C.1 C.2.1 dX1_enterAct_19 (by decide) ?_
  refine lv_iadd C.1 C.2.1 dX1_enterAct_21 ?_
  refine lv_sipush (v := 5000) C.1 C.2.1 dX1_enterAct_22 (by decide) ?_
  refine va_mmin C.1 C.2.1 (by rw [C.2.2.1]; exact hl.1.symm) C.2.2.2.1 (C.2.2.2.2 _ tb_614) (C.2.2.2.2 _ tb_404) (C.2.2.2.2 _ tb_18) (C.2.2.2.2 _ h_mmin) (Nat.le_of_ble_eq_true rfl) (Nat.le_of_ble_eq_true rfl) (Nat.le_of_ble_eq_true rfl) (Nat.le_of_ble_eq_true rfl) dX1_enterAct_25 ?_
  refine xv_put C hw hS hi hk 5 (by decide) (by decide) tb_139 (Or.inr tb_140) dX1_enterAct_28 (fun H locs hw hS => ?_)
  refine lv_aload_n C.1 C.2.1 dX1_enterAct_31 rfl (lv_at hl 0 rfl) ?_
  refine lv_iload_n C.1 C.2.1 dX1_enterAct_32 rfl (lv_at hl 1 rfl) ?_
  refine ct_go (x_SU C hw hi hk (c_X4_enterAct l D A P _ _ _ _ i h hlt (hO.uf (by decide)) hz hn hi hk) Xe_bl (fun U hU hW => ⟨hE.go hS hU hW, x_post hw hU hW⟩) tb_639 tb_4 tb_608 tb_615 tb_616 ⟨rfl, rfl⟩ tb_261 (by decide) (sup2 C hw tb_227 tb_176) (by show _ = some 1; decide +kernel) hl.1 dX1_enterAct_33 ⟨Nat.le_of_ble_eq_true rfl, Nat.le_of_ble_eq_true rfl⟩ rfl (Nat.le_of_ble_eq_true rfl) ⟨Nat.le_of_ble_eq_true rfl, Nat.le_of_ble_eq_true rfl⟩) hS (fun _ h => h) (fun E hoc ce q9 t H locs ht hvm hw _ _ hS hce hcv hcl => ?_) (fun v hoc t H locs ht hvm hw _ _ hS => ?_)
  · have hw := x_back hw ht hvm
    exact ct_out (fun x hx => absurd (htab x hx) id) hlocks hce hcv hcl hoc (fun t ht hvm => x_al hw ht hvm) hS (Nat.le_of_ble_eq_true rfl) (Nat.le_of_ble_eq_true rfl)
  · have hw := x_back hw ht hvm
    obtain ⟨h0, rfl⟩ := ocE_l hoc
    exact ct_v C hr hlocks (ocE_0 h0) (fun t ht hW => x_post hw ht hW) hS (Nat.le_of_ble_eq_true rfl) (Nat.le_of_ble_eq_true rfl) dX1_enterAct_36
set_option maxHeartbeats 400000 in
set_option maxRecDepth 100000 in
/-- TANKER: UNDER, then LIMIT is 100 less (not below 0) -/
theorem c_X8_enterAct (l : Launch) (D : va_G) (A : Nat → Prop) (P : SwP) (F : Nat → Nat → Int32) (B G : Nat → Int32) (dk : List Nat) (i : Nat) (h : Int32) (hlt : l.stackTraces = false) (hO : Ok P F dk) (hz : G 4 = 0 ∨ G 4 = 1) (hn : dk.length < 24) (hi : i < pn P) (hk : pk P i < 9) : Ct l yX8_enterAct (.code yX8_enterAct cX8_enterAct 2 none) ({ frames := 8, cells := 1, slots := 6, locals := 145 }) A [.ref (pa P i), .int h] (fun U => Ev A U ∧ Xp D A P F B G dk U) (ocE (eT (pE (pk P) i h (F, iB B 5, G, dk))).1 none) (Xp D A P (eT (pE (pk P) i h (F, iB B 5, G, dk))).2.1 (eT (pE (pk P) i h (F, iB B 5, G, dk))).2.2.1 (eT (pE (pk P) i h (F, iB B 5, G, dk))).2.2.2.1 (eT (pE (pk P) i h (F, iB B 5, G, dk))).2.2.2.2) := by
  refine ct_mk (by decide) (Nat.le_of_ble_eq_true rfl) (fun p e s m below meth c ls C hr hlocks hnm htab hP hl => ?_)
  obtain ⟨hE, hw⟩ := hP
  have hS : va_S A s.heap s.heap [] := va_S.rf
  have hl : lv_has ls 2 [(0, .ref (pa P i)), (1, .int h)] := hl
  refine x_begun C hw hi hk tb_116 (Or.inr tb_117) tb_41 (lv_at hl 0 rfl) dX8_enterAct_0 dX8_enterAct_1 dX8_enterAct_4 ?_
  refine lv_iconst (v := 5) C.1 C.2.1 dX8_enterAct_7 (by decide) ?_
  refine x_inc C hw hS (j := 5) (by decide) (by decide) dX8_enterAct_8 dX8_enterAct_9 dX8_enterAct_10 dX8_enterAct_11 dX8_enterAct_12 (fun H locs hw hS => ?_)
  refine lv_aload_n C.1 C.2.1 dX8_enterAct_13 rfl (lv_at hl 0 rfl) ?_
  refine lv_iload_n C.1 C.2.1 dX8_enterAct_14 rfl (lv_at hl 1 rfl) ?_
  refine ct_go (x_SU C hw hi hk (c_X4_enterAct l D A P _ _ _ _ i h hlt hO hz hn hi hk) Xe_bl (fun U hU hW => ⟨hE.go hS hU hW, x_post hw hU hW⟩) tb_639 tb_4 tb_608 tb_634 tb_616 ⟨rfl, rfl⟩ tb_244 (by decide) (sup2 C hw tb_227 tb_176) (by show _ = some 1; decide +kernel) hl.1 dX8_enterAct_15 ⟨Nat.le_of_ble_eq_true rfl, Nat.le_of_ble_eq_true rfl⟩ rfl (Nat.le_of_ble_eq_true rfl) ⟨Nat.le_of_ble_eq_true rfl, Nat.le_of_ble_eq_true rfl⟩) hS (fun _ h => h) (fun E hoc ce q9 t H locs ht hvm hw _ _ hS hce hcv hcl => ?_) (fun v hoc t H locs ht hvm hw _ _ hS => ?_)
  · have hw := x_back hw ht hvm
    have hne : ¬ (pE (pk P) i h (F, iB B 5, G, dk)).1 = 0 := fun q => by rw [ocE_0 q] at hoc; cases hoc
    rw [show eT (pE (pk P) i h (F, iB B 5, G, dk)) = (pE (pk P) i h (F, iB B 5, G, dk)) from if_neg hne]
    exact ct_out (fun x hx => absurd (htab x hx) id) hlocks hce hcv hcl hoc (fun t ht hvm => x_al hw ht hvm) hS (Nat.le_of_ble_eq_true rfl) (Nat.le_of_ble_eq_true rfl)
  · have hw := x_back hw ht hvm
    obtain ⟨h0, rfl⟩ := ocE_l hoc
    rw [show eT (pE (pk P) i h (F, iB B 5, G, dk)) = (0, (pE (pk P) i h (F, iB B 5, G, dk)).2.1, (pE (pk P) i h (F, iB B 5, G, dk)).2.2.1, upd (pE (pk P) i h (F, iB B 5, G, dk)).2.2.2.1 3 (mx ((pE (pk P) i h (F, iB B 5, G, dk)).2.2.2.1 3 - 100) 0), (pE (pk P) i h (F, iB B 5, G, dk)).2.2.2.2) from if_pos h0]
    refine lv_aload_n C.1 C.2.1 dX8_enterAct_18 rfl (lv_at hl 0 rfl) ?_
    refine xv_get C hw hi hk 0 (by decide) tb_116 (Or.inr tb_117) rfl dX8_enterAct_19 ?_
    refine lv_aload_n C.1 C.2.1 dX8_enterAct_22 rfl (lv_at hl 0 rfl) ?_
    refine xv_get C hw hi hk 0 (by decide) tb_116 (Or.inr tb_117) rfl dX8_enterAct_23 ?_
    refine xb_get C hw 3 (by decide) tb_52 rfl dX8_enterAct_26 ?_
    refine lv_bipush (v := 100) C.1 C.2.1 dX8_enterAct_29 (by decide) ?_
    refine lv_isub C.1 C.2.1 dX8_enterAct_31 ?_
    refine lv_iconst (v := 0) C.1 C.2.1 dX8_enterAct_32 (by decide) ?_
    refine va_mmax C.1 C.2.1 (by rw [C.2.2.1]; exact hl.1.symm) C.2.2.2.1 (C.2.2.2.2 _ tb_635) (C.2.2.2.2 _ tb_636) (C.2.2.2.2 _ tb_18) (C.2.2.2.2 _ h_mmax) (Nat.le_of_ble_eq_true rfl) (Nat.le_of_ble_eq_true rfl) (Nat.le_of_ble_eq_true rfl) (Nat.le_of_ble_eq_true rfl) dX8_enterAct_33 ?_
    refine xb_puti C hw hS 3 (by decide) tb_52 dX8_enterAct_36 (fun H locs hw hS => ?_)
    exact ct_v C hr hlocks rfl (fun t ht hW => x_post hw ht hW) hS (Nat.le_of_ble_eq_true rfl) (Nat.le_of_ble_eq_true rfl) dX8_enterAct_39
set_option maxHeartbeats 400000 in
set_option maxRecDepth 100000 in
/-- CYCLE: UNDER; if it is STOPPED by that, UNDER once more -/
theorem c_X5_enterAct (l : Launch) (D : va_G) (A : Nat → Prop) (P : SwP) (F : Nat → Nat → Int32) (B G : Nat → Int32) (dk : List Nat) (i : Nat) (h : Int32) (hlt : l.stackTraces = false) (hO : Ok P F dk) (hz : G 4 = 0 ∨ G 4 = 1) (hn : dk.length < 24) (hi : i < pn P) (hk : pk P i < 9) : Ct l yX5_enterAct (.codeWith yX5_enterAct cX5_enterAct 4 none [((16 : Nat), (21 : Nat), (24 : Nat), (43 : Nat))]) ({ frames := 8, cells := 2, slots := 12, locals := 145 }) A [.ref (pa P i), .int h] (fun U => Ev A U ∧ Xp D A P F B G dk U) (ocE (eC (pk P) i h (pE (pk P) i h (F, iB B 8, G, dk))).1 none) (Xp D A P (eC (pk P) i h (pE (pk P) i h (F, iB B 8, G, dk))).2.1 (eC (pk P) i h (pE (pk P) i h (F, iB B 8, G, dk))).2.2.1 (eC (pk P) i h (pE (pk P) i h (F, iB B 8, G, dk))).2.2.2.1 (eC (pk P) i h (pE (pk P) i h (F, iB B 8, G, dk))).2.2.2.2) := by
  refine ct_mkH (by decide) (Nat.le_of_ble_eq_true rfl) (fun p e s m below meth c ls C hr hlocks htab hP hl => ?_)
  obtain ⟨hE, hw⟩ := hP
  have hS : va_S A s.heap s.heap [] := va_S.rf
  have hl : lv_has ls 4 [(0, .ref (pa P i)), (1, .int h)] := hl
  refine x_begun C hw hi hk tb_122 (Or.inr tb_123) tb_44 (lv_at hl 0 rfl) dX5_enterAct_0 dX5_enterAct_1 dX5_enterAct_4 ?_
  refine lv_bipush (v := 8) C.1 C.2.1 dX5_enterAct_7 (by decide) ?_
  refine x_inc C hw hS (j := 8) (by decide) (by decide) dX5_enterAct_9 dX5_enterAct_10 dX5_enterAct_11 dX5_enterAct_12 dX5_enterAct_13 (fun H locs hw hS => ?_)
  refine lv_iconst (v := 0) C.1 C.2.1 dX5_enterAct_14 (by decide) ?_
  refine lv_istore_n (lv' := [(2, .int (0)), (0, .ref (pa P i)), (1, .int (h))]) C.1 C.2.1 dX5_enterAct_15 rfl hl (by decide) rfl (fun ls hl => ?_)
  refine lv_aload_n C.1 C.2.1 dX5_enterAct_16 rfl (lv_at hl 1 rfl) ?_
  refine lv_iload_n C.1 C.2.1 dX5_enterAct_17 rfl (lv_at hl 2 rfl) ?_
  refine ct_go (x_SU C hw hi hk (c_X4_enterAct l D A P _ _ _ _ i h hlt hO hz hn hi hk) Xe_bl (fun U hU hW => ⟨hE.go hS hU hW, x_post hw hU hW⟩) tb_639 tb_4 tb_608 tb_628 tb_610 ⟨rfl, rfl⟩ tb_295 (by decide) sup0 (by show _ = some 1; decide +kernel) hl.1 dX5_enterAct_18 ⟨Nat.le_of_ble_eq_true rfl, Nat.le_of_ble_eq_true rfl⟩ rfl (Nat.le_of_ble_eq_true rfl) ⟨Nat.le_of_ble_eq_true rfl, Nat.le_of_ble_eq_true rfl⟩) hS (fun _ h => h) (fun E hoc ce q9 t H locs ht hvm hw _ _ hS hce hcv hcl => ?_) (fun v hoc t H locs ht hvm hw _ _ hS => ?_)
  · have hw := x_back hw ht hvm
    rcases ocE_r hoc with ⟨hn1, rfl⟩ | ⟨hn0, hn1, rfl⟩
    · rw [show eC (pk P) i h (pE (pk P) i h (F, iB B 8, G, dk)) = pE (pk P) i h (pE (pk P) i h (F, iB B 8, G, dk)).2 from if_pos hn1]
      have hpe := pE_1 hn1
      rw [hpe] at hw ⊢
      refine vx_catch C.2.2.2.1 [] ⟨16, 21, 24, 43⟩ [] (by rw [htab]; rfl) (fun z hz => by cases hz) (by decide) (by decide) (C.2.2.2.2 _ tb_627) (va_Nw.use rfl hE.2.2.1.1) hce hcv hcl ?_
      refine lv_astore_n (lv' := [(3, .ref (q9)), (2, .int (0)), (0, .ref (pa P i)), (1, .int (h))]) C.1 C.2.1 dX5_enterAct_24 rfl hl (by decide) rfl (fun ls hl => ?_)
      refine lv_iconst (v := 1) C.1 C.2.1 dX5_enterAct_25 (by decide) ?_
      refine lv_istore_n (lv' := [(2, .int (1)), (3, .ref (q9)), (0, .ref (pa P i)), (1, .int (h))]) C.1 C.2.1 dX5_enterAct_26 rfl hl (by decide) rfl (fun ls hl => ?_)
      refine lv_iload_n C.1 C.2.1 dX5_enterAct_27 rfl (lv_at hl 0 rfl) ?_
      refine lv_if_eq (tgt := 36) C.1 C.2.1 dX5_enterAct_28 (by decide) (fun h1 => absurd h1 (by decide)) (fun h1 => ?_)
      refine lv_aload_n C.1 C.2.1 dX5_enterAct_31 rfl (lv_at hl 2 rfl) ?_
      refine lv_iload_n C.1 C.2.1 dX5_enterAct_32 rfl (lv_at hl 3 rfl) ?_
      refine ct_go (x_SU C hw hi hk (c_X4_enterAct l D A P _ _ _ _ i h hlt hO (show upd G 5 (G 5 + 1) 4 = 0 ∨ upd G 5 (G 5 + 1) 4 = 1 from hz) hn hi hk) Xe_bl (fun U hU hW => ⟨hE.go hS hU hW, x_post hw hU hW⟩) tb_639 tb_4 tb_608 tb_628 tb_610 ⟨rfl, rfl⟩ tb_295 (by decide) sup0 (by show _ = some 1; decide +kernel) hl.1 dX5_enterAct_33 ⟨Nat.le_of_ble_eq_true rfl, Nat.le_of_ble_eq_true rfl⟩ rfl (Nat.le_of_ble_eq_true rfl) ⟨Nat.le_of_ble_eq_true rfl, Nat.le_of_ble_eq_true rfl⟩) hS (fun _ h => h) (fun E hoc ce q9 t H locs ht hvm hw _ _ hS hce hcv hcl => ?_) (fun v hoc t H locs ht hvm hw _ _ hS => ?_)
      · have hw := x_back hw ht hvm
        exact ct_out (fun x hx => by rw [htab] at hx; rcases List.mem_singleton.mp hx with rfl; exact covers_f (by decide)) hlocks hce hcv hcl hoc (fun t ht hvm => x_al hw ht hvm) hS (Nat.le_of_ble_eq_true rfl) (Nat.le_of_ble_eq_true rfl)
      · have hw := x_back hw ht hvm
        obtain ⟨h0, rfl⟩ := ocE_l hoc
        exact ct_v C hr hlocks (ocE_0 h0) (fun t ht hW => x_post hw ht hW) hS (Nat.le_of_ble_eq_true rfl) (Nat.le_of_ble_eq_true rfl) dX5_enterAct_36
    · rw [show eC (pk P) i h (pE (pk P) i h (F, iB B 8, G, dk)) = (pE (pk P) i h (F, iB B 8, G, dk)) from if_neg hn1]
      exact vx_outP C.2.2.2.1 hlocks (fun z hz => by rw [htab] at hz; rcases List.mem_singleton.mp hz with rfl; exact Or.inr ⟨by decide, _, C.2.2.2.2 _ tb_627, hE.2.2.1.2.2⟩) hce hcv hcl (fun t ht hvm => ⟨hoc, x_al hw ht hvm, hS.F ht⟩) hS.2.2 (Nat.le_of_ble_eq_true rfl) (Nat.le_of_ble_eq_true rfl)
  · have hw := x_back hw ht hvm
    obtain ⟨h0, rfl⟩ := ocE_l hoc
    rw [show eC (pk P) i h (pE (pk P) i h (F, iB B 8, G, dk)) = (pE (pk P) i h (F, iB B 8, G, dk)) from if_neg (by rw [h0]; decide)]
    refine lv_goto (tgt := 27) C.1 C.2.1 dX5_enterAct_21 (by decide) ?_
    refine lv_iload_n C.1 C.2.1 dX5_enterAct_27 rfl (lv_at hl 0 rfl) ?_
    refine lv_if_eq (tgt := 36) C.1 C.2.1 dX5_enterAct_28 (by decide) (fun h1 => ?_) (fun h1 => absurd rfl h1)
    exact ct_v C hr hlocks (ocE_0 h0) (fun t ht hW => x_post hw ht hW) hS (Nat.le_of_ble_eq_true rfl) (Nat.le_of_ble_eq_true rfl) dX5_enterAct_36
section XV6
variable {p : Program} {l : Launch} {e : Env} {R : Room} {s : State} {m : MethodId} {args : Array Value} {below : List Frame} {meth : Method} {c : Code} {H : Heap} {locs : List Loc} {cells slots : Nat}
variable {cc : ByteArray} {nL index pc : Nat} {ls : Array Slot} {rest : List Value} {own : String} {D : va_G} {A : Nat → Prop} {P : SwP} {F : Nat → Nat → Int32} {B G : Nat → Int32} {dk : List Nat} {i : Nat}

set_option maxHeartbeats 400000 in
set_option maxRecDepth 100000 in
theorem v_enter (C : CallFix p m c cc nL s args wB own) (hw : XwR D A P F B G (nI dk.length) (dfd P dk) s H) (hi : i < pn P) (hk : pk P i < 9) {h : Int32} (hlt : l.stackTraces = false) (hE : Ev A s) (hS : va_S A s.heap H locs) (hO : Ok P F dk) (hz : G 4 = 0 ∨ G 4 = 1) (hn : dk.length < 24) (h1 : Cond.methodLink own index ⟨"SwingBridge$Cart", "enterAct", "(I)V"⟩ ∈ wB) (hsize : ls.size = nL) (hdg : decode cc pc = .ok (.invokevirtual index, 3)) (hR : 9 ≤ R.frames ∧ 168 ≤ R.locals) (hW : (rest.map fun v => v.category).sum ≤ 8) (hf : cells + 2 ≤ R.cells ∧ slots + 12 ≤ R.slots) :
    CtR p l e R s m args below meth c H locs cells slots (F0 m pc ls (.int h :: .ref (pa P i) :: rest)) rest ({ frames := 8, cells := 2, slots := 12, locals := 145 }) A (ocE (eN (pk P) i h (F, B, G, dk)).1 none) (Xp D A P (eN (pk P) i h (F, B, G, dk)).2.1 (eN (pk P) i h (F, B, G, dk)).2.2.1 (eN (pk P) i h (F, B, G, dk)).2.2.2.1 (eN (pk P) i h (F, B, G, dk)).2.2.2.2) := by
  have hx0 : va_Decl s ⟨"SwingBridge$Cart", "enterAct", "(I)V"⟩ := va_Decl.of (C.2.2.2.2 _ tb_608) (C.2.2.2.2 _ tb_639)
  rcases (show pk P i = 0 ∨ pk P i = 1 ∨ pk P i = 2 ∨ pk P i = 3 ∨ pk P i = 4 ∨ pk P i = 5 ∨ pk P i = 6 ∨ pk P i = 7 ∨ pk P i = 8 by omega) with e0 | e0 | e0 | e0 | e0 | e0 | e0 | e0 | e0
  · rw [show eN (pk P) i h (F, B, G, dk) = pE (pk P) i h (F, B, G, dk) by unfold eN; rw [if_neg (by rw [e0]; decide), if_neg (by rw [e0]; decide), if_neg (by rw [e0]; decide), if_neg (by rw [e0]; decide)]]
    exact ctR_wide (ct_V C (c_X4_enterAct l D A P F B G dk i h hlt hO hz hn hi hk) Xe_bl (Or.inl rfl) tb_639 tb_4 ⟨Nat.le_trans (Nat.le_of_ble_eq_true rfl) hR.1, Nat.le_trans (Nat.le_of_ble_eq_true rfl) hR.2⟩ h1 tb_610 hx0 ⟨by decide, by decide⟩ (CN := cN (pk P i)) (by rw [e0]; exact tb_609) tb_608 (x_recv hw hi hk) (fun U hU hW => ⟨hE.go hS hU hW, x_post hw hU hW⟩) (by show _ = some 1; decide +kernel) hsize rfl hW hdg ⟨Nat.le_trans (Nat.add_le_add_left (Nat.le_of_ble_eq_true rfl) _) hf.1, Nat.le_trans (Nat.add_le_add_left (Nat.le_of_ble_eq_true rfl) _) hf.2⟩) (Nat.le_of_ble_eq_true rfl) (Nat.le_of_ble_eq_true rfl)
  · rw [show eN (pk P) i h (F, B, G, dk) = pE (pk P) i h (F, B, G, dk) by unfold eN; rw [if_neg (by rw [e0]; decide), if_neg (by rw [e0]; decide), if_neg (by rw [e0]; decide), if_neg (by rw [e0]; decide)]]
    exact ctR_wide (ct_V C (c_X4_enterAct l D A P F B G dk i h hlt hO hz hn hi hk) Xe_bl (Or.inl rfl) tb_639 tb_4 ⟨Nat.le_trans (Nat.le_of_ble_eq_true rfl) hR.1, Nat.le_trans (Nat.le_of_ble_eq_true rfl) hR.2⟩ h1 tb_610 hx0 ⟨by decide, by decide⟩ (CN := cN (pk P i)) (by rw [e0]; exact tb_638) tb_608 (x_recv hw hi hk) (fun U hU hW => ⟨hE.go hS hU hW, x_post hw hU hW⟩) (by show _ = some 1; decide +kernel) hsize rfl hW hdg ⟨Nat.le_trans (Nat.add_le_add_left (Nat.le_of_ble_eq_true rfl) _) hf.1, Nat.le_trans (Nat.add_le_add_left (Nat.le_of_ble_eq_true rfl) _) hf.2⟩) (Nat.le_of_ble_eq_true rfl) (Nat.le_of_ble_eq_true rfl)
  · rw [show eN (pk P) i h (F, B, G, dk) = pE (pk P) i h (F, B, G, dk) by unfold eN; rw [if_neg (by rw [e0]; decide), if_neg (by rw [e0]; decide), if_neg (by rw [e0]; decide), if_neg (by rw [e0]; decide)]]
    exact ctR_wide (ct_V C (c_X4_enterAct l D A P F B G dk i h hlt hO hz hn hi hk) Xe_bl (Or.inl rfl) tb_639 tb_4 ⟨Nat.le_trans (Nat.le_of_ble_eq_true rfl) hR.1, Nat.le_trans (Nat.le_of_ble_eq_true rfl) hR.2⟩ h1 tb_610 hx0 ⟨by decide, by decide⟩ (CN := cN (pk P i)) (by rw [e0]; exact tb_623) tb_608 (x_recv hw hi hk) (fun U hU hW => ⟨hE.go hS hU hW, x_post hw hU hW⟩) (by show _ = some 1; decide +kernel) hsize rfl hW hdg ⟨Nat.le_trans (Nat.add_le_add_left (Nat.le_of_ble_eq_true rfl) _) hf.1, Nat.le_trans (Nat.add_le_add_left (Nat.le_of_ble_eq_true rfl) _) hf.2⟩) (Nat.le_of_ble_eq_true rfl) (Nat.le_of_ble_eq_true rfl)
  · rw [show eN (pk P) i h (F, B, G, dk) = pE (pk P) i h (uF F i 9 (F i 9 + 1), iB B 3, G, dk) by unfold eN; rw [if_pos e0]]
    exact ctR_wide (ct_V C (c_X2_enterAct l D A P F B G dk i h hlt hO hz hn hi hk) Xe_bl (Or.inl rfl) tb_620 tb_7 ⟨Nat.le_trans (Nat.le_of_ble_eq_true rfl) hR.1, Nat.le_trans (Nat.le_of_ble_eq_true rfl) hR.2⟩ h1 tb_610 hx0 ⟨by decide, by decide⟩ (CN := cN (pk P i)) (by rw [e0]; exact tb_618) tb_619 (x_recv hw hi hk) (fun U hU hW => ⟨hE.go hS hU hW, x_post hw hU hW⟩) (by show _ = some 1; decide +kernel) hsize rfl hW hdg ⟨Nat.le_trans (Nat.add_le_add_left (Nat.le_of_ble_eq_true rfl) _) hf.1, Nat.le_trans (Nat.add_le_add_left (Nat.le_of_ble_eq_true rfl) _) hf.2⟩) (Nat.le_of_ble_eq_true rfl) (Nat.le_of_ble_eq_true rfl)
  · rw [show eN (pk P) i h (F, B, G, dk) = pE (pk P) i h (F, B, G, dk) by unfold eN; rw [if_neg (by rw [e0]; decide), if_neg (by rw [e0]; decide), if_neg (by rw [e0]; decide), if_neg (by rw [e0]; decide)]]
    exact ctR_wide (ct_V C (c_X4_enterAct l D A P F B G dk i h hlt hO hz hn hi hk) Xe_bl (Or.inl rfl) tb_639 tb_4 ⟨Nat.le_trans (Nat.le_of_ble_eq_true rfl) hR.1, Nat.le_trans (Nat.le_of_ble_eq_true rfl) hR.2⟩ h1 tb_610 hx0 ⟨by decide, by decide⟩ (CN := cN (pk P i)) (by rw [e0]; exact tb_630) tb_608 (x_recv hw hi hk) (fun U hU hW => ⟨hE.go hS hU hW, x_post hw hU hW⟩) (by show _ = some 1; decide +kernel) hsize rfl hW hdg ⟨Nat.le_trans (Nat.add_le_add_left (Nat.le_of_ble_eq_true rfl) _) hf.1, Nat.le_trans (Nat.add_le_add_left (Nat.le_of_ble_eq_true rfl) _) hf.2⟩) (Nat.le_of_ble_eq_true rfl) (Nat.le_of_ble_eq_true rfl)
  · rw [show eN (pk P) i h (F, B, G, dk) = eT (pE (pk P) i h (F, iB B 5, G, dk)) by unfold eN; rw [if_neg (by rw [e0]; decide), if_pos e0]]
    exact ctR_wide (ct_V C (c_X8_enterAct l D A P F B G dk i h hlt hO hz hn hi hk) Xe_bl (Or.inl rfl) tb_633 tb_9 ⟨Nat.le_trans (Nat.le_of_ble_eq_true rfl) hR.1, Nat.le_trans (Nat.le_of_ble_eq_true rfl) hR.2⟩ h1 tb_610 hx0 ⟨by decide, by decide⟩ (CN := cN (pk P i)) (by rw [e0]; exact tb_631) tb_632 (x_recv hw hi hk) (fun U hU hW => ⟨hE.go hS hU hW, x_post hw hU hW⟩) (by show _ = some 1; decide +kernel) hsize rfl hW hdg ⟨Nat.le_trans (Nat.add_le_add_left (Nat.le_of_ble_eq_true rfl) _) hf.1, Nat.le_trans (Nat.add_le_add_left (Nat.le_of_ble_eq_true rfl) _) hf.2⟩) (Nat.le_of_ble_eq_true rfl) (Nat.le_of_ble_eq_true rfl)
  · rw [show eN (pk P) i h (F, B, G, dk) = pE (pk P) i h (uF F i 5 (mn (F i 5 + 40) 5000), iB B 6, G, dk) by unfold eN; rw [if_neg (by rw [e0]; decide), if_neg (by rw [e0]; decide), if_pos (by rw [e0]; decide)]]
    exact ctR_wide (ct_V C (c_X1_enterAct l D A P F B G dk i h hlt hO hz hn hi hk) Xe_bl (Or.inl rfl) tb_613 tb_10 ⟨Nat.le_trans (Nat.le_of_ble_eq_true rfl) hR.1, Nat.le_trans (Nat.le_of_ble_eq_true rfl) hR.2⟩ h1 tb_610 hx0 ⟨by decide, by decide⟩ (CN := cN (pk P i)) (by rw [e0]; exact tb_611) tb_612 (x_recv hw hi hk) (fun U hU hW => ⟨hE.go hS hU hW, x_post hw hU hW⟩) (by show _ = some 1; decide +kernel) hsize rfl hW hdg ⟨Nat.le_trans (Nat.add_le_add_left (Nat.le_of_ble_eq_true rfl) _) hf.1, Nat.le_trans (Nat.add_le_add_left (Nat.le_of_ble_eq_true rfl) _) hf.2⟩) (Nat.le_of_ble_eq_true rfl) (Nat.le_of_ble_eq_true rfl)
  · rw [show eN (pk P) i h (F, B, G, dk) = pE (pk P) i h (uF F i 5 (mn (F i 5 + 40) 5000), iB B 6, G, dk) by unfold eN; rw [if_neg (by rw [e0]; decide), if_neg (by rw [e0]; decide), if_pos (by rw [e0]; decide)]]
    exact ctR_wide (ct_V C (c_X1_enterAct l D A P F B G dk i h hlt hO hz hn hi hk) Xe_bl (Or.inl rfl) tb_613 tb_10 ⟨Nat.le_trans (Nat.le_of_ble_eq_true rfl) hR.1, Nat.le_trans (Nat.le_of_ble_eq_true rfl) hR.2⟩ h1 tb_610 hx0 ⟨by decide, by decide⟩ (CN := cN (pk P i)) (by rw [e0]; exact tb_629) tb_612 (x_recv hw hi hk) (fun U hU hW => ⟨hE.go hS hU hW, x_post hw hU hW⟩) (by show _ = some 1; decide +kernel) hsize rfl hW hdg ⟨Nat.le_trans (Nat.add_le_add_left (Nat.le_of_ble_eq_true rfl) _) hf.1, Nat.le_trans (Nat.add_le_add_left (Nat.le_of_ble_eq_true rfl) _) hf.2⟩) (Nat.le_of_ble_eq_true rfl) (Nat.le_of_ble_eq_true rfl)
  · rw [show eN (pk P) i h (F, B, G, dk) = eC (pk P) i h (pE (pk P) i h (F, iB B 8, G, dk)) by unfold eN; rw [if_neg (by rw [e0]; decide), if_neg (by rw [e0]; decide), if_neg (by rw [e0]; decide), if_pos e0]]
    exact ctR_wide (ct_V C (c_X5_enterAct l D A P F B G dk i h hlt hO hz hn hi hk) Xe_bl (Or.inr ⟨_, rfl⟩) tb_626 tb_12 ⟨Nat.le_trans (Nat.le_of_ble_eq_true rfl) hR.1, Nat.le_trans (Nat.le_of_ble_eq_true rfl) hR.2⟩ h1 tb_610 hx0 ⟨by decide, by decide⟩ (CN := cN (pk P i)) (by rw [e0]; exact tb_624) tb_625 (x_recv hw hi hk) (fun U hU hW => ⟨hE.go hS hU hW, x_post hw hU hW⟩) (by show _ = some 1; decide +kernel) hsize rfl hW hdg ⟨Nat.le_trans (Nat.add_le_add_left (Nat.le_of_ble_eq_true rfl) _) hf.1, Nat.le_trans (Nat.add_le_add_left (Nat.le_of_ble_eq_true rfl) _) hf.2⟩) (Nat.le_of_ble_eq_true rfl) (Nat.le_of_ble_eq_true rfl)
end XV6
end
section
theorem tbp_0 : Cond.selects "SwingBridge" ⟨"SwingBridge", "make", "(IIIII)LSwingBridge$Cart;"⟩ ⟨"SwingBridge", "make", "(IIIII)LSwingBridge$Cart;"⟩ ∈ wB := wB_in 0 (by decide +kernel) (by decide +kernel)
theorem tbp_1 : Cond.selects "SwingBridge" ⟨"SwingBridge", "find", "(I)LSwingBridge$Cart;"⟩ ⟨"SwingBridge", "find", "(I)LSwingBridge$Cart;"⟩ ∈ wB := wB_in 1 (by decide +kernel) (by decide +kernel)
theorem tbp_2 : Cond.selects "java/lang/Throwable" ⟨"java/lang/Throwable", "fillInStackTrace", "(I)Ljava/lang/Throwable;"⟩ ⟨"java/lang/Throwable", "fillInStackTrace", "(I)Ljava/lang/Throwable;"⟩ ∈ wB := wB_in 2 (by decide +kernel) (by decide +kernel)
theorem tbp_3 : Cond.selects "SwingBridgeModel" ⟨"SwingBridgeModel", "isVehicle", "(I)Z"⟩ ⟨"SwingBridgeModel", "isVehicle", "(I)Z"⟩ ∈ wB := wB_in 3 (by decide +kernel) (by decide +kernel)
theorem tbp_4 : Cond.selects "SwingBridgeModel" ⟨"SwingBridgeModel", "weightOf", "(I)I"⟩ ⟨"SwingBridgeModel", "weightOf", "(I)I"⟩ ∈ wB := wB_in 4 (by decide +kernel) (by decide +kernel)
theorem tbp_5 : Cond.selects "SwingBridgeModel" ⟨"SwingBridgeModel", "tollOf", "(II)I"⟩ ⟨"SwingBridgeModel", "tollOf", "(II)I"⟩ ∈ wB := wB_in 5 (by decide +kernel) (by decide +kernel)
theorem tbp_6 : Cond.selects "SwingBridgeModel" ⟨"SwingBridgeModel", "plainToll", "(I)I"⟩ ⟨"SwingBridgeModel", "plainToll", "(I)I"⟩ ∈ wB := wB_in 6 (by decide +kernel) (by decide +kernel)
theorem tbp_7 : Cond.selects "SwingBridgeModel" ⟨"SwingBridgeModel", "isFit", "(I)Z"⟩ ⟨"SwingBridgeModel", "isFit", "(I)Z"⟩ ∈ wB := wB_in 7 (by decide +kernel) (by decide +kernel)
theorem tbp_8 : Cond.selects "SwingBridgeModel" ⟨"SwingBridgeModel", "isPlainFit", "(I)Z"⟩ ⟨"SwingBridgeModel", "isPlainFit", "(I)Z"⟩ ∈ wB := wB_in 8 (by decide +kernel) (by decide +kernel)
theorem tbp_9 : Cond.selects "SwingBridgeModel" ⟨"SwingBridgeModel", "enters", "(II)I"⟩ ⟨"SwingBridgeModel", "enters", "(II)I"⟩ ∈ wB := wB_in 9 (by decide +kernel) (by decide +kernel)
theorem tbp_10 : Cond.selects "SwingBridgeModel" ⟨"SwingBridgeModel", "plainEnter", "(II)I"⟩ ⟨"SwingBridgeModel", "plainEnter", "(II)I"⟩ ∈ wB := wB_in 10 (by decide +kernel) (by decide +kernel)
theorem tbp_11 : Cond.selects "SwingBridgeModel" ⟨"SwingBridgeModel", "leaves", "(I)V"⟩ ⟨"SwingBridgeModel", "leaves", "(I)V"⟩ ∈ wB := wB_in 11 (by decide +kernel) (by decide +kernel)
theorem tbp_12 : Cond.selects "SwingBridgeModel" ⟨"SwingBridgeModel", "rebateOf", "(I)I"⟩ ⟨"SwingBridgeModel", "rebateOf", "(I)I"⟩ ∈ wB := wB_in 12 (by decide +kernel) (by decide +kernel)
theorem tbp_13 : Cond.selects "SwingBridgeModel" ⟨"SwingBridgeModel", "hasAccount", "(I)Z"⟩ ⟨"SwingBridgeModel", "hasAccount", "(I)Z"⟩ ∈ wB := wB_in 13 (by decide +kernel) (by decide +kernel)
theorem tbp_14 : Cond.selects "SwingBridgeModel" ⟨"SwingBridgeModel", "billOf", "(II)I"⟩ ⟨"SwingBridgeModel", "billOf", "(II)I"⟩ ∈ wB := wB_in 14 (by decide +kernel) (by decide +kernel)
/-! THE CALLS OF THE OBJECT, as numbers: how it ended, its answer, the state behind it -/
def vAt (n : Nat) (x : Int32) : Option Nat := if x < 0 then none else if x.toNatClampNeg < n then some x.toNatClampNeg else none
theorem vAt_lt {n j : Nat} {x : Int32} (h : vAt n x = some j) : j < n := by
  unfold vAt at h
  by_cases h0 : x < 0
  · rw [if_pos h0] at h; cases h
  · rw [if_neg h0] at h
    by_cases h1 : x.toNatClampNeg < n
    · rw [if_pos h1] at h; cases h; exact h1
    · rw [if_neg h1] at h; cases h
theorem vAt_nI {n j : Nat} (hj : j < 2 ^ 31) : vAt n (nI j) = if j < n then some j else none := by
  unfold vAt
  rw [if_neg (nI_pos hj), nI_clamp hj]
theorem vAt_ge {n N : Nat} {x : Int32} (h0 : ¬ x < 0) (h : ¬ x < nI N) (hn : n ≤ N) (hN : N < 2 ^ 31) : vAt n x = none := by
  obtain ⟨j, hj, rfl⟩ := nI_of h0
  rw [vAt_nI hj, if_neg]
  intro q
  exact h (nI_lt (by omega) hN)
abbrev R3 : Type := Nat × Int32 × SwSt
def onV (n : Nat) (x : Int32) (z : SwSt) (f : Nat → R3) : R3 := match vAt n x with
  | none => (0, -101, z)
  | some j => f j
theorem onV_n {n : Nat} {x : Int32} {z : SwSt} {f : Nat → R3} (h : vAt n x = none) : onV n x z f = (0, -101, z) := by unfold onV; rw [h]
theorem onV_s {n j : Nat} {x : Int32} {z : SwSt} {f : Nat → R3} (h : vAt n x = some j) : onV n x z f = f j := by unfold onV; rw [h]
def outs (x a b : Int32) : Bool := decide (x < a ∨ b < x)
theorem ifo_n {b : Bool} {α : Type} {x y : α} (h : b2i b = 0) : (if b = true then x else y) = y := if_neg (by rw [b2i_0 h]; decide)
theorem ifo_p {b : Bool} {α : Type} {x y : α} (h : ¬ b2i b = 0) : (if b = true then x else y) = x := if_pos (b2i_1 h)
def oWeight (K : Nat → Nat) (n : Nat) (x : Int32) (z : SwSt) : R3 := onV n x z (fun j => (0, wR (K j) z.1 j, z.1, wBk (K j) z.2.1, z.2.2))
def oToll (K : Nat → Nat) (n : Nat) (x h : Int32) (z : SwSt) : R3 := onV n x z (fun j => if outs h 0 23 = true then (0, -102, z) else if tX (K j) z.1 j = true then (2, 0, z.1, tB (K j) h z.2.1, upd z.2.2.1 6 (z.2.2.1 6 + 1), z.2.2.2) else (0, tR (K j) z.1 j h, z.1, tB (K j) h z.2.1, z.2.2))
def oFits (K : Nat → Nat) (n : Nat) (x : Int32) (z : SwSt) : R3 := onV n x z (fun j => (0, b2i (fR K z.1 z.2.2.1 z.2.2.2 j), z.1, fB K z.2.2.2 j z.2.1, z.2.2))
def oEnter (K : Nat → Nat) (n : Nat) (x h : Int32) (z : SwSt) : R3 := onV n x z (fun j => if outs h 0 23 = true then (0, -102, z) else if z.1 j 6 = 1 then (0, -103, z) else ((eN K j h z).1, (eN K j h z).2.1 j 7, (eN K j h z).2))
def oLeave (K : Nat → Nat) (n : Nat) (x : Int32) (z : SwSt) : R3 := onV n x z (fun j => if z.1 j 6 = 0 then (0, -103, z) else (0, nI (lR K j z).2.2.2.length, lR K j z))
def oRebate (K : Nat → Nat) (n : Nat) (x : Int32) (z : SwSt) : R3 := onV n x z (fun j => (0, rR (K j) z.1 j, z.1, rB (K j) z.2.1, z.2.2))
def oBill (K : Nat → Nat) (n : Nat) (x h : Int32) (z : SwSt) : R3 := onV n x z (fun j => if outs h 0 23 = true then (0, -102, z) else if hasAcc (K j) = true then (0, bR (K j) z.1 j h, z.1, bB (K j) h z.2.1, z.2.2) else (0, -103, z))
def oMonth (K : Nat → Nat) (n : Nat) (x d : Int32) (z : SwSt) : R3 := onV n x z (fun j => if outs d 0 31 = true then (0, -102, z) else if hasAcc (K j) = true then (0, mR (K j) z.1 j d, z.1, mB (K j) z.2.1, z.2.2) else (0, -103, z))
def tellF (w : Int32) : Option Nat := if w = 0 then some 2 else if w = 1 then some 3 else if w = 2 then some 5 else if w = 3 then some 4 else if w = 4 then some 6 else if w = 5 then some 7 else if w = 6 then some 8 else if w = 7 then some 9 else none
def oTell (n : Nat) (x w : Int32) (z : SwSt) : R3 := onV n x z (fun j => (0, match tellF w with | some k => z.1 j k | none => -102, z))
def oDeck (x : Int32) (z : SwSt) : R3 := (0, match dkAt z.2.2.2 x with | some v => nI v | none => -101, z)
def oBegan (x : Int32) (z : SwSt) : R3 := (0, if x < 0 then -102 else if x < 9 then z.2.1 x.toNatClampNeg else -102, z)
def oCount (n : Nat) (w : Int32) (z : SwSt) : R3 := (0, if w = 0 then nI n else if w = 1 then nI z.2.2.2.length else if w = 2 then z.2.2.1 3 else if w = 3 then (if z.2.2.1 4 = 0 then 0 else 1) else if w = 4 then z.2.2.1 5 else if w = 5 then z.2.2.1 6 else -102, z)
def oSwing (b : Int32) (z : SwSt) : R3 := if b ≠ 0 ∧ z.2.2.2 ≠ [] then (0, -103, z) else (0, if b = z.2.2.1 4 then 1 else 0, z.1, z.2.1, upd z.2.2.1 4 (if b = 0 then 1 else 0), z.2.2.2)
section CtStatic
variable {p : Program} {l : Launch} {e : Env} {R : Room} {s : State} {m : MethodId} {args : Array Value} {below : List Frame} {meth : Method} {c : Code} {H : Heap} {locs : List Loc} {cells slots : Nat} {Q : State → Prop}
variable {cc b : ByteArray} {nL mL index pc : Nat} {ls : Array Slot} {st0 rest As : List Value} {own : String} {y : MethodName} {hd : Cond} {ret : Option FieldType} {rm : Room} {A : Nat → Prop} {Pre Post : State → Prop} {oc : Option Value ⊕ String}
theorem ct_S (S : CallFix p m c cc nL s args wB own) (hM : Ct l y hd rm A As Pre oc Post) (hbl : Bl Pre) (hhd : Hd y b mL ret hd) (hG : hd ∈ wB) (hini : Cond.initialized y.cls ∈ wB) (hR : rm.frames + 1 ≤ R.frames ∧ 8 + (mL + 11) + rm.locals ≤ R.locals)
    (h1 : Cond.methodLink own index y ∈ wB) (hy : y.cls ≠ "java/lang/invoke/MethodHandle" ∧ y.cls ≠ "java/lang/invoke/VarHandle") (h4 : Cond.static y ∈ wB) (hpre : ∀ U : State, U.heap = H → s.WarmedH U.vm → Pre U)
    (hlen : (parseMethodDescriptor y.desc).map (fun d => d.parameters.length) = some As.length) (hsize : ls.size = nL) (hst : st0 = As.reverse ++ rest) (hW : (rest.map fun v => v.category).sum ≤ 8) (hdg : decode cc pc = .ok (.invokestatic index, 3)) (hf : cells + rm.cells ≤ R.cells ∧ slots + rm.slots ≤ R.slots) :
    CtR p l e R s m args below meth c H locs cells slots (F0 m pc ls st0) rest rm A oc Post := by
  have hK := ct_back (p := p) (e := e) (below := below) (R := R) hM hbl hhd hG hini S.2.2.2.2 hR
  obtain ⟨hx, hb, hml, ho, hts⟩ := S
  intro T hT X
  have hnm : ∃ (mk : MethodId) (methM : Method), s.methodNamed? y = some mk ∧ s.vm.method? mk = some methM ∧ parseMethodDescriptor y.desc = some methM.sig := by
    rcases hhd with rfl | ⟨hh, rfl⟩
    · obtain ⟨mk, hnamed⟩ := Cond.code_named (hts _ hG)
      obtain ⟨methM, cM, hmethM, -, -, -, -, -, -, hsigM⟩ := Cond.code_spec hnamed (hts _ hG)
      exact ⟨mk, methM, hnamed, hmethM, hsigM⟩
    · obtain ⟨mk, methM, cM, hnamed, hmethM, -, -, -, -, -, -, hsigM⟩ := Cond.codeWith_spec (hts _ hG)
      exact ⟨mk, methM, hnamed, hmethM, hsigM⟩
  obtain ⟨mk, methM, hnamed, hmethM, hsigM⟩ := hnm
  have hstatic : methM.isStatic = true := Cond.static_spec hnamed hmethM (hts _ h4)
  obtain ⟨kP, hkP, -⟩ := className_of_methodNamed hnamed
  have hinitP : kP.init = .initialized := Cond.initialized_spec (findClass_of_methodNamed hnamed) hkP (hts _ hini)
  have hdg' : decode c.code (F0 m pc ls st0).pc = .ok (.invokestatic index, 3) := by rw [hb]; exact hdg
  obtain ⟨vm₁, X₁, hstep₁⟩ := X.invokestatic hx ho (hts _ h1) hnamed hmethM hstatic hkP hinitP hy (g := F0 m pc ls st0) rfl (argsL := As) (rest := rest) (ct_len hlen _ hsigM) hst hdg'
  rcases hK m meth c ⟨T.setVm vm₁, locs, cells, slots⟩ (F0 m pc ls rest) (.invokestatic index) mk As.toArray X₁ rfl (hsize.trans hml.symm) hdg' (by simpa [JFrame.monitorRoom] using hW) (X₁.named hnamed) ⟨hf.1, hf.2, rfl, hpre (T.setVm vm₁) hT X₁.warmed⟩ with ⟨v, ⟨U', l2, c2, s2⟩, X', ⟨g', mk', t, L, e1, e2, hq, h1, hL, h2, h3⟩, hsteps⟩ | ⟨q, ⟨U', l2, c2, s2⟩, X', ⟨g', mk', t, L, E, ce, e1, e2, hq, hce, hcv, hcl, h1, hL, h2, h3⟩, hsteps⟩
  · dsimp only [Pt.U, Pt.locs, Pt.cells, Pt.slots] at X' e1 e2 h1 h2 h3 hsteps
    subst h1; subst h2; subst h3
    exact Or.inl ⟨v, (T.setVm vm₁).calling g' mk' As.toArray, t, U', L, hT, X', hL, e1, e2, hq, fun target h => hstep₁ _ fun acts => by rw [doInvoke_state]; exact hsteps.trans h⟩
  · dsimp only [Pt.U, Pt.locs, Pt.cells, Pt.slots] at X' e1 e2 h1 h2 h3 hsteps hcl
    subst h1; subst h2; subst h3
    exact Or.inr ⟨q, (T.setVm vm₁).calling g' mk' As.toArray, t, U', L, E, ce, hT, X', hL, e1, e2, hq, hce, hcv, vx_cls X₁.warmed hcl, hstep₁ _ fun acts => by rw [doInvoke_state]; exact hsteps⟩
/-- a call that asks for nothing of the heap and writes none of it -/
abbrev Tr : State → Prop := fun _ => True
abbrev No : Nat → Prop := fun _ => False
theorem Tr_bl : Bl Tr := fun _ _ _ _ _ => trivial
theorem x_kept {D : va_G} {P : SwP} {F : Nat → Nat → Int32} {B G : Nat → Int32} {n : Int32} {fd : Nat → Option Nat} {H1 : Heap} (hw : XwR D A P F B G n fd s H) (hk : ∀ q : Nat, q < H.size → ¬ No q → H1[q]? = H[q]?) : XwR D A P F B G n fd s H1 := ⟨hw.1, hw.2.1.kept (fun k q hq => hk q.1 (vx_lt hw.2.1 hq) (fun h => h)), hw.2.2⟩
end CtStatic
set_option maxHeartbeats 400000 in
set_option maxRecDepth 100000 in
/-- isOutside -/
theorem c_X10_isOutside (l : Launch) (x a b : Int32) : Ct l yX10_isOutside (.code yX10_isOutside cX10_isOutside 3 (some .boolean)) ({ frames := 0, cells := 0, slots := 0, locals := 0 }) No [.int x, .int a, .int b] Tr (.inl (some (.int (b2i (outs x a b))))) Tr := by
  refine ct_mk (by decide) (Nat.le_of_ble_eq_true rfl) (fun p e s m below meth c ls C hr hlocks hnm htab hP hl => ?_)
  have hS : va_S No s.heap s.heap [] := va_S.rf
  have hl : lv_has ls 3 [(0, .int x), (1, .int a), (2, .int b)] := hl
  refine lv_iload_n C.1 C.2.1 dX10_isOutside_0 rfl (lv_at hl 0 rfl) ?_
  refine lv_iload_n C.1 C.2.1 dX10_isOutside_1 rfl (lv_at hl 1 rfl) ?_
  refine lv_icmp_lt (tgt := 10) C.1 C.2.1 dX10_isOutside_2 (by decide) (fun h1 => ?_) (fun h1 => ?_)
  · refine lv_iconst (v := 1) C.1 C.2.1 dX10_isOutside_10 (by decide) ?_
    refine lv_goto (tgt := 15) C.1 C.2.1 dX10_isOutside_11 (by decide) ?_
    exact ct_z C hr hlocks (Or.inr rfl) (by rw [show outs x a b = true from decide_eq_true (Or.inl h1)]; rfl) (fun t ht hW => trivial) hS (Nat.le_of_ble_eq_true rfl) (Nat.le_of_ble_eq_true rfl) dX10_isOutside_15
  · refine lv_iload_n C.1 C.2.1 dX10_isOutside_5 rfl (lv_at hl 0 rfl) ?_
    refine lv_iload_n C.1 C.2.1 dX10_isOutside_6 rfl (lv_at hl 2 rfl) ?_
    refine lv_icmp_le (tgt := 14) C.1 C.2.1 dX10_isOutside_7 (by decide) (fun h2 => ?_) (fun h2 => ?_)
    · refine lv_iconst (v := 0) C.1 C.2.1 dX10_isOutside_14 (by decide) ?_
      exact ct_z C hr hlocks (Or.inl rfl) (by rw [show outs x a b = false from decide_eq_false (fun q => q.elim h1 (fun q => Int32.not_lt.mpr h2 q))]; rfl) (fun t ht hW => trivial) hS (Nat.le_of_ble_eq_true rfl) (Nat.le_of_ble_eq_true rfl) dX10_isOutside_15
    · refine lv_iconst (v := 1) C.1 C.2.1 dX10_isOutside_10 (by decide) ?_
      refine lv_goto (tgt := 15) C.1 C.2.1 dX10_isOutside_11 (by decide) ?_
      exact ct_z C hr hlocks (Or.inr rfl) (by rw [show outs x a b = true from decide_eq_true (Or.inr (Int32.not_le.mp h2))]; rfl) (fun t ht hW => trivial) hS (Nat.le_of_ble_eq_true rfl) (Nat.le_of_ble_eq_true rfl) dX10_isOutside_15
set_option maxHeartbeats 400000 in
set_option maxRecDepth 100000 in
/-- the vehicle of a number, or null -/
theorem c_X10_find (l : Launch) (D : va_G) (A : Nat → Prop) (P : SwP) (F : Nat → Nat → Int32) (B G : Nat → Int32) (dk : List Nat) (hO : Ok P F dk) (x : Int32) : Ct l yX10_find (.code yX10_find cX10_find 2 (some (.object "SwingBridge$Cart"))) ({ frames := 0, cells := 0, slots := 0, locals := 0 }) A [.ref (pS P), .int x] (Xp D A P F B G dk) (.inl (some (va_rf ((vAt (pn P) x).map (pa P))))) (Xp D A P F B G dk) := by
  refine ct_mk (by decide) (Nat.le_of_ble_eq_true rfl) (fun p e s m below meth c ls C hr hlocks hnm htab hP hl => ?_)
  have hw := hP
  have hS : va_S A s.heap s.heap [] := va_S.rf
  have hl : lv_has ls 2 [(0, .ref (pS P)), (1, .int x)] := hl
  refine lv_iload_n C.1 C.2.1 dX10_find_0 rfl (lv_at hl 1 rfl) ?_
  refine lv_if_lt (tgt := 13) C.1 C.2.1 dX10_find_1 (by decide) (fun h1 => ?_) (fun h1 => ?_)
  · refine lv_null C.1 C.2.1 dX10_find_13 ?_
    exact ct_a (r := none) C hr (Or.inl ⟨_, rfl⟩) hlocks (by rw [show vAt (pn P) x = none from if_pos h1]; rfl) (fun t ht hW => x_post hw ht hW) hS (Nat.le_of_ble_eq_true rfl) (Nat.le_of_ble_eq_true rfl) dX10_find_14
  · refine lv_iload_n C.1 C.2.1 dX10_find_4 rfl (lv_at hl 1 rfl) ?_
    refine lv_aload_n C.1 C.2.1 dX10_find_5 rfl (lv_at hl 0 rfl) ?_
    refine xs_get C hw 1 (by decide) tb_82 rfl dX10_find_6 ?_
    refine xV_len C hw dX10_find_9 ?_
    refine lv_icmp_lt (tgt := 15) C.1 C.2.1 dX10_find_10 (by decide) (fun h2 => ?_) (fun h2 => ?_)
    · obtain ⟨j, hj, rfl⟩ := nI_of h1
      have hj24 : j < 24 := (nI_ltI hj (by omega)).mp h2
      refine lv_aload_n C.1 C.2.1 dX10_find_15 rfl (lv_at hl 0 rfl) ?_
      refine xs_get C hw 1 (by decide) tb_82 rfl dX10_find_16 ?_
      refine lv_iload_n C.1 C.2.1 dX10_find_19 rfl (lv_at hl 1 rfl) ?_
      refine xV_ld C hw hj24 rfl dX10_find_20 ?_
      exact ct_a (r := vfd P j) C hr (Or.inl ⟨_, rfl⟩) hlocks (by rw [vAt_nI hj]; unfold vfd; by_cases q : j < pn P; rw [if_pos q, if_pos q]; rfl; rw [if_neg q, if_neg q]; rfl) (fun t ht hW => x_post hw ht hW) hS (Nat.le_of_ble_eq_true rfl) (Nat.le_of_ble_eq_true rfl) dX10_find_21
    · refine lv_null C.1 C.2.1 dX10_find_13 ?_
      exact ct_a (r := none) C hr (Or.inl ⟨_, rfl⟩) hlocks (by rw [vAt_ge (N := 24) h1 h2 hO.1 (by omega)]; rfl) (fun t ht hW => x_post hw ht hW) hS (Nat.le_of_ble_eq_true rfl) (Nat.le_of_ble_eq_true rfl) dX10_find_14
end
section
/-- what every state of a run keeps to -/
def Inv (P : SwP) (z : SwSt) : Prop := Ok P z.1 z.2.2.2 ∧ (z.2.2.1 4 = 0 ∨ z.2.2.1 4 = 1) ∧ (∀ j, j ∈ z.2.2.2 → z.1 j 6 = 1) ∧ (∀ j, j < pn P → j ∉ z.2.2.2 → z.1 j 6 = 0) ∧ (z.2.2.1 4 = 0 → z.2.2.2 = []) ∧ (∃ g : Nat, g ≤ 9000 ∧ z.2.2.1 3 = nI g) ∧ (∀ j, j < pn P → z.1 j 4 ≤ 100) ∧ (∀ a, pn P ≤ a → ∀ b, z.1 a b = 0)
theorem tellF_lt {w : Int32} {k : Nat} (h : tellF w = some k) : 2 ≤ k ∧ k < 10 := by
  unfold tellF at h
  repeat' split at h
  all_goals first | (cases h; exact ⟨by decide, by decide⟩) | cases h
theorem le0_nil {dk : List Nat} (h : nI dk.length ≤ 0) (hL : dk.length ≤ 24) : dk = [] := by
  cases dk with
  | nil => rfl
  | cons a t => exact absurd h (nI_nle (by simp) (by omega))
theorem sw_cases {w : Int32} {N : Nat} (h1 : ¬ w.toInt < 0) (h2 : ¬ (N : Int) < w.toInt) (hN : N < 2 ^ 31) : ∃ j : Nat, j ≤ N ∧ w = nI j := by
  have h0 : ¬ w < 0 := fun q => h1 (by rw [Int32.lt_iff_toInt_lt] at q; simpa using q)
  obtain ⟨j, hj, rfl⟩ := nI_of h0
  rw [nI_toInt hj] at h2
  exact ⟨j, by omega, rfl⟩
theorem sw_out {w : Int32} {N : Nat} (h : w.toInt < 0 ∨ (N : Int) < w.toInt) (hN : N < 2 ^ 31) {j : Nat} (hj : j ≤ N) : w ≠ nI j := by
  rintro rfl
  rw [nI_toInt (by omega)] at h
  omega
set_option maxHeartbeats 400000 in
set_option maxRecDepth 100000 in
/-- WEIGHT -/
theorem c_X10_weight (l : Launch) (D : va_G) (A : Nat → Prop) (P : SwP) (F : Nat → Nat → Int32) (B G : Nat → Int32) (dk : List Nat) (x : Int32) (hlt : l.stackTraces = false) (hI : Inv P (F, B, G, dk)) : Ct l yX10_weight (.code yX10_weight cX10_weight 3 (some .int)) ({ frames := 9, cells := 2, slots := 12, locals := 200 }) A [.ref (pS P), .int x] (fun U => Ev A U ∧ Xp D A P F B G dk U) (ocE (oWeight (pk P) (pn P) x (F, B, G, dk)).1 (some (.int (oWeight (pk P) (pn P) x (F, B, G, dk)).2.1))) (Xp D A P (oWeight (pk P) (pn P) x (F, B, G, dk)).2.2.1 (oWeight (pk P) (pn P) x (F, B, G, dk)).2.2.2.1 (oWeight (pk P) (pn P) x (F, B, G, dk)).2.2.2.2.1 (oWeight (pk P) (pn P) x (F, B, G, dk)).2.2.2.2.2) := by
  refine ct_mk (by decide) (Nat.le_of_ble_eq_true rfl) (fun p e s m below meth c ls C hr hlocks hnm htab hP hl => ?_)
  obtain ⟨hE, hw⟩ := hP
  have hS : va_S A s.heap s.heap [] := va_S.rf
  have hl : lv_has ls 3 [(0, .ref (pS P)), (1, .int x)] := hl
  have hO : Ok P F dk := hI.1
  have hz : G 4 = 0 ∨ G 4 = 1 := hI.2.1
  cases hv : vAt (pn P) x with
  | none =>
    refine lv_aload_n C.1 C.2.1 dX10_weight_0 rfl (lv_at hl 0 rfl) ?_
    refine lv_iload_n C.1 C.2.1 dX10_weight_1 rfl (lv_at hl 1 rfl) ?_
    have hM := c_X10_find l D A P F B G dk hO x
    rw [hv] at hM
    refine ct_ret (ct_V0 C hM Xp_bl (Or.inl rfl) tb_316 tb_1 ⟨Nat.le_of_ble_eq_true rfl, Nat.le_of_ble_eq_true rfl⟩ tb_313 ⟨by decide, by decide⟩ tbp_1 tb_315 (x_recvS hw) (fun U hU hW => x_post hw hU hW) (sig_code (C.2.2.2.2 _ tb_316)) (by show _ = some 1; decide +kernel) hl.1 rfl (Nat.le_of_ble_eq_true rfl) dX10_weight_2 ⟨Nat.le_of_ble_eq_true rfl, Nat.le_of_ble_eq_true rfl⟩) hS (fun _ h => h) (fun t H locs ht hvm hw _ _ hS => ?_)
    have hw := x_back hw ht hvm
    refine lv_astore_nN (lv' := [(2, .null), (0, .ref (pS P)), (1, .int (x))]) C.1 C.2.1 dX10_weight_5 rfl hl (by decide) rfl (fun ls hl => ?_)
    refine lv_aload_nN C.1 C.2.1 dX10_weight_6 rfl (lv_at hl 0 rfl) ?_
    refine lv_ifnonnullN C.1 C.2.1 dX10_weight_7 ?_
    refine lv_bipush (v := -101) C.1 C.2.1 dX10_weight_10 (by decide) ?_
    rw [show (oWeight (pk P) (pn P) x (F, B, G, dk)) = _ from (onV_n hv)]
    exact ct_i C hr hlocks rfl (fun t ht hW => x_post hw ht hW) hS (Nat.le_of_ble_eq_true rfl) (Nat.le_of_ble_eq_true rfl) dX10_weight_12
  | some j =>
    have hj : j < pn P := vAt_lt hv
    have hkj : pk P j < 9 := hO.2.1 j hj
    refine lv_aload_n C.1 C.2.1 dX10_weight_0 rfl (lv_at hl 0 rfl) ?_
    refine lv_iload_n C.1 C.2.1 dX10_weight_1 rfl (lv_at hl 1 rfl) ?_
    have hM := c_X10_find l D A P F B G dk hO x
    rw [hv] at hM
    refine ct_ret (ct_V0 C hM Xp_bl (Or.inl rfl) tb_316 tb_1 ⟨Nat.le_of_ble_eq_true rfl, Nat.le_of_ble_eq_true rfl⟩ tb_313 ⟨by decide, by decide⟩ tbp_1 tb_315 (x_recvS hw) (fun U hU hW => x_post hw hU hW) (sig_code (C.2.2.2.2 _ tb_316)) (by show _ = some 1; decide +kernel) hl.1 rfl (Nat.le_of_ble_eq_true rfl) dX10_weight_2 ⟨Nat.le_of_ble_eq_true rfl, Nat.le_of_ble_eq_true rfl⟩) hS (fun _ h => h) (fun t H locs ht hvm hw _ _ hS => ?_)
    have hw := x_back hw ht hvm
    refine lv_astore_n (lv' := [(2, .ref (pa P j)), (0, .ref (pS P)), (1, .int (x))]) C.1 C.2.1 dX10_weight_5 rfl hl (by decide) rfl (fun ls hl => ?_)
    refine lv_aload_n C.1 C.2.1 dX10_weight_6 rfl (lv_at hl 0 rfl) ?_
    refine lv_ifnonnull (tgt := 13) C.1 C.2.1 dX10_weight_7 (by decide) ?_
    refine lv_aload_n C.1 C.2.1 dX10_weight_13 rfl (lv_at hl 0 rfl) ?_
    refine ct_ret (v_weight C hw hj hkj tb_317 hl.1 dX10_weight_14 ⟨Nat.le_of_ble_eq_true rfl, Nat.le_of_ble_eq_true rfl⟩ (Nat.le_of_ble_eq_true rfl) ⟨Nat.le_of_ble_eq_true rfl, Nat.le_of_ble_eq_true rfl⟩) hS (fun _ h => h) (fun t H locs ht hvm hw _ _ hS => ?_)
    have hw := x_back hw ht hvm
    rw [show (oWeight (pk P) (pn P) x (F, B, G, dk)) = _ from (onV_s hv)]
    exact ct_i C hr hlocks rfl (fun t ht hW => x_post hw ht hW) hS (Nat.le_of_ble_eq_true rfl) (Nat.le_of_ble_eq_true rfl) dX10_weight_17
set_option maxHeartbeats 400000 in
set_option maxRecDepth 100000 in
/-- FIT -/
theorem c_X10_fits (l : Launch) (D : va_G) (A : Nat → Prop) (P : SwP) (F : Nat → Nat → Int32) (B G : Nat → Int32) (dk : List Nat) (x : Int32) (hlt : l.stackTraces = false) (hI : Inv P (F, B, G, dk)) : Ct l yX10_fits (.code yX10_fits cX10_fits 3 (some .int)) ({ frames := 9, cells := 2, slots := 12, locals := 200 }) A [.ref (pS P), .int x] (fun U => Ev A U ∧ Xp D A P F B G dk U) (ocE (oFits (pk P) (pn P) x (F, B, G, dk)).1 (some (.int (oFits (pk P) (pn P) x (F, B, G, dk)).2.1))) (Xp D A P (oFits (pk P) (pn P) x (F, B, G, dk)).2.2.1 (oFits (pk P) (pn P) x (F, B, G, dk)).2.2.2.1 (oFits (pk P) (pn P) x (F, B, G, dk)).2.2.2.2.1 (oFits (pk P) (pn P) x (F, B, G, dk)).2.2.2.2.2) := by
  refine ct_mk (by decide) (Nat.le_of_ble_eq_true rfl) (fun p e s m below meth c ls C hr hlocks hnm htab hP hl => ?_)
  obtain ⟨hE, hw⟩ := hP
  have hS : va_S A s.heap s.heap [] := va_S.rf
  have hl : lv_has ls 3 [(0, .ref (pS P)), (1, .int x)] := hl
  have hO : Ok P F dk := hI.1
  have hz : G 4 = 0 ∨ G 4 = 1 := hI.2.1
  cases hv : vAt (pn P) x with
  | none =>
    refine lv_aload_n C.1 C.2.1 dX10_fits_0 rfl (lv_at hl 0 rfl) ?_
    refine lv_iload_n C.1 C.2.1 dX10_fits_1 rfl (lv_at hl 1 rfl) ?_
    have hM := c_X10_find l D A P F B G dk hO x
    rw [hv] at hM
    refine ct_ret (ct_V0 C hM Xp_bl (Or.inl rfl) tb_316 tb_1 ⟨Nat.le_of_ble_eq_true rfl, Nat.le_of_ble_eq_true rfl⟩ tb_313 ⟨by decide, by decide⟩ tbp_1 tb_315 (x_recvS hw) (fun U hU hW => x_post hw hU hW) (sig_code (C.2.2.2.2 _ tb_316)) (by show _ = some 1; decide +kernel) hl.1 rfl (Nat.le_of_ble_eq_true rfl) dX10_fits_2 ⟨Nat.le_of_ble_eq_true rfl, Nat.le_of_ble_eq_true rfl⟩) hS (fun _ h => h) (fun t H locs ht hvm hw _ _ hS => ?_)
    have hw := x_back hw ht hvm
    refine lv_astore_nN (lv' := [(2, .null), (0, .ref (pS P)), (1, .int (x))]) C.1 C.2.1 dX10_fits_5 rfl hl (by decide) rfl (fun ls hl => ?_)
    refine lv_aload_nN C.1 C.2.1 dX10_fits_6 rfl (lv_at hl 0 rfl) ?_
    refine lv_ifnonnullN C.1 C.2.1 dX10_fits_7 ?_
    refine lv_bipush (v := -101) C.1 C.2.1 dX10_fits_10 (by decide) ?_
    rw [show (oFits (pk P) (pn P) x (F, B, G, dk)) = _ from (onV_n hv)]
    exact ct_i C hr hlocks rfl (fun t ht hW => x_post hw ht hW) hS (Nat.le_of_ble_eq_true rfl) (Nat.le_of_ble_eq_true rfl) dX10_fits_12
  | some j =>
    have hj : j < pn P := vAt_lt hv
    have hkj : pk P j < 9 := hO.2.1 j hj
    refine lv_aload_n C.1 C.2.1 dX10_fits_0 rfl (lv_at hl 0 rfl) ?_
    refine lv_iload_n C.1 C.2.1 dX10_fits_1 rfl (lv_at hl 1 rfl) ?_
    have hM := c_X10_find l D A P F B G dk hO x
    rw [hv] at hM
    refine ct_ret (ct_V0 C hM Xp_bl (Or.inl rfl) tb_316 tb_1 ⟨Nat.le_of_ble_eq_true rfl, Nat.le_of_ble_eq_true rfl⟩ tb_313 ⟨by decide, by decide⟩ tbp_1 tb_315 (x_recvS hw) (fun U hU hW => x_post hw hU hW) (sig_code (C.2.2.2.2 _ tb_316)) (by show _ = some 1; decide +kernel) hl.1 rfl (Nat.le_of_ble_eq_true rfl) dX10_fits_2 ⟨Nat.le_of_ble_eq_true rfl, Nat.le_of_ble_eq_true rfl⟩) hS (fun _ h => h) (fun t H locs ht hvm hw _ _ hS => ?_)
    have hw := x_back hw ht hvm
    refine lv_astore_n (lv' := [(2, .ref (pa P j)), (0, .ref (pS P)), (1, .int (x))]) C.1 C.2.1 dX10_fits_5 rfl hl (by decide) rfl (fun ls hl => ?_)
    refine lv_aload_n C.1 C.2.1 dX10_fits_6 rfl (lv_at hl 0 rfl) ?_
    refine lv_ifnonnull (tgt := 13) C.1 C.2.1 dX10_fits_7 (by decide) ?_
    refine lv_aload_n C.1 C.2.1 dX10_fits_13 rfl (lv_at hl 0 rfl) ?_
    refine ct_ret (v_fit C hw hj hkj hO hz tb_347 hl.1 dX10_fits_14 ⟨Nat.le_of_ble_eq_true rfl, Nat.le_of_ble_eq_true rfl⟩ (Nat.le_of_ble_eq_true rfl) ⟨Nat.le_of_ble_eq_true rfl, Nat.le_of_ble_eq_true rfl⟩) hS (fun _ h => h) (fun t H locs ht hvm hw _ _ hS => ?_)
    have hw := x_back hw ht hvm
    refine lv_if_eq (tgt := 24) C.1 C.2.1 dX10_fits_17 (by decide) (fun h1 => ?_) (fun h1 => ?_)
    · refine lv_iconst (v := 0) C.1 C.2.1 dX10_fits_24 (by decide) ?_
      rw [show (oFits (pk P) (pn P) x (F, B, G, dk)) = _ from onV_s hv]
      exact ct_i C hr hlocks (by rw [show fR (pk P) F G dk j = _ from b2i_0 h1]; rfl) (fun t ht hW => x_post hw ht hW) hS (Nat.le_of_ble_eq_true rfl) (Nat.le_of_ble_eq_true rfl) dX10_fits_25
    · refine lv_iconst (v := 1) C.1 C.2.1 dX10_fits_20 (by decide) ?_
      refine lv_goto (tgt := 25) C.1 C.2.1 dX10_fits_21 (by decide) ?_
      rw [show (oFits (pk P) (pn P) x (F, B, G, dk)) = _ from onV_s hv]
      exact ct_i C hr hlocks (by rw [show fR (pk P) F G dk j = _ from b2i_1 h1]; rfl) (fun t ht hW => x_post hw ht hW) hS (Nat.le_of_ble_eq_true rfl) (Nat.le_of_ble_eq_true rfl) dX10_fits_25
set_option maxHeartbeats 400000 in
set_option maxRecDepth 100000 in
/-- REBATE -/
theorem c_X10_rebate (l : Launch) (D : va_G) (A : Nat → Prop) (P : SwP) (F : Nat → Nat → Int32) (B G : Nat → Int32) (dk : List Nat) (x : Int32) (hlt : l.stackTraces = false) (hI : Inv P (F, B, G, dk)) : Ct l yX10_rebate (.code yX10_rebate cX10_rebate 3 (some .int)) ({ frames := 9, cells := 2, slots := 12, locals := 200 }) A [.ref (pS P), .int x] (fun U => Ev A U ∧ Xp D A P F B G dk U) (ocE (oRebate (pk P) (pn P) x (F, B, G, dk)).1 (some (.int (oRebate (pk P) (pn P) x (F, B, G, dk)).2.1))) (Xp D A P (oRebate (pk P) (pn P) x (F, B, G, dk)).2.2.1 (oRebate (pk P) (pn P) x (F, B, G, dk)).2.2.2.1 (oRebate (pk P) (pn P) x (F, B, G, dk)).2.2.2.2.1 (oRebate (pk P) (pn P) x (F, B, G, dk)).2.2.2.2.2) := by
  refine ct_mk (by decide) (Nat.le_of_ble_eq_true rfl) (fun p e s m below meth c ls C hr hlocks hnm htab hP hl => ?_)
  obtain ⟨hE, hw⟩ := hP
  have hS : va_S A s.heap s.heap [] := va_S.rf
  have hl : lv_has ls 3 [(0, .ref (pS P)), (1, .int x)] := hl
  have hO : Ok P F dk := hI.1
  have hz : G 4 = 0 ∨ G 4 = 1 := hI.2.1
  cases hv : vAt (pn P) x with
  | none =>
    refine lv_aload_n C.1 C.2.1 dX10_rebate_0 rfl (lv_at hl 0 rfl) ?_
    refine lv_iload_n C.1 C.2.1 dX10_rebate_1 rfl (lv_at hl 1 rfl) ?_
    have hM := c_X10_find l D A P F B G dk hO x
    rw [hv] at hM
    refine ct_ret (ct_V0 C hM Xp_bl (Or.inl rfl) tb_316 tb_1 ⟨Nat.le_of_ble_eq_true rfl, Nat.le_of_ble_eq_true rfl⟩ tb_313 ⟨by decide, by decide⟩ tbp_1 tb_315 (x_recvS hw) (fun U hU hW => x_post hw hU hW) (sig_code (C.2.2.2.2 _ tb_316)) (by show _ = some 1; decide +kernel) hl.1 rfl (Nat.le_of_ble_eq_true rfl) dX10_rebate_2 ⟨Nat.le_of_ble_eq_true rfl, Nat.le_of_ble_eq_true rfl⟩) hS (fun _ h => h) (fun t H locs ht hvm hw _ _ hS => ?_)
    have hw := x_back hw ht hvm
    refine lv_astore_nN (lv' := [(2, .null), (0, .ref (pS P)), (1, .int (x))]) C.1 C.2.1 dX10_rebate_5 rfl hl (by decide) rfl (fun ls hl => ?_)
    refine lv_aload_nN C.1 C.2.1 dX10_rebate_6 rfl (lv_at hl 0 rfl) ?_
    refine lv_ifnonnullN C.1 C.2.1 dX10_rebate_7 ?_
    refine lv_bipush (v := -101) C.1 C.2.1 dX10_rebate_10 (by decide) ?_
    rw [show (oRebate (pk P) (pn P) x (F, B, G, dk)) = _ from (onV_n hv)]
    exact ct_i C hr hlocks rfl (fun t ht hW => x_post hw ht hW) hS (Nat.le_of_ble_eq_true rfl) (Nat.le_of_ble_eq_true rfl) dX10_rebate_12
  | some j =>
    have hj : j < pn P := vAt_lt hv
    have hkj : pk P j < 9 := hO.2.1 j hj
    refine lv_aload_n C.1 C.2.1 dX10_rebate_0 rfl (lv_at hl 0 rfl) ?_
    refine lv_iload_n C.1 C.2.1 dX10_rebate_1 rfl (lv_at hl 1 rfl) ?_
    have hM := c_X10_find l D A P F B G dk hO x
    rw [hv] at hM
    refine ct_ret (ct_V0 C hM Xp_bl (Or.inl rfl) tb_316 tb_1 ⟨Nat.le_of_ble_eq_true rfl, Nat.le_of_ble_eq_true rfl⟩ tb_313 ⟨by decide, by decide⟩ tbp_1 tb_315 (x_recvS hw) (fun U hU hW => x_post hw hU hW) (sig_code (C.2.2.2.2 _ tb_316)) (by show _ = some 1; decide +kernel) hl.1 rfl (Nat.le_of_ble_eq_true rfl) dX10_rebate_2 ⟨Nat.le_of_ble_eq_true rfl, Nat.le_of_ble_eq_true rfl⟩) hS (fun _ h => h) (fun t H locs ht hvm hw _ _ hS => ?_)
    have hw := x_back hw ht hvm
    refine lv_astore_n (lv' := [(2, .ref (pa P j)), (0, .ref (pS P)), (1, .int (x))]) C.1 C.2.1 dX10_rebate_5 rfl hl (by decide) rfl (fun ls hl => ?_)
    refine lv_aload_n C.1 C.2.1 dX10_rebate_6 rfl (lv_at hl 0 rfl) ?_
    refine lv_ifnonnull (tgt := 13) C.1 C.2.1 dX10_rebate_7 (by decide) ?_
    refine lv_aload_n C.1 C.2.1 dX10_rebate_13 rfl (lv_at hl 0 rfl) ?_
    refine ct_ret (v_rebate C hw hj hkj tb_416 hl.1 dX10_rebate_14 ⟨Nat.le_of_ble_eq_true rfl, Nat.le_of_ble_eq_true rfl⟩ (Nat.le_of_ble_eq_true rfl) ⟨Nat.le_of_ble_eq_true rfl, Nat.le_of_ble_eq_true rfl⟩) hS (fun _ h => h) (fun t H locs ht hvm hw _ _ hS => ?_)
    have hw := x_back hw ht hvm
    rw [show (oRebate (pk P) (pn P) x (F, B, G, dk)) = _ from (onV_s hv)]
    exact ct_i C hr hlocks rfl (fun t ht hW => x_post hw ht hW) hS (Nat.le_of_ble_eq_true rfl) (Nat.le_of_ble_eq_true rfl) dX10_rebate_17
set_option maxHeartbeats 400000 in
set_option maxRecDepth 100000 in
/-- TOLL -/
theorem c_X10_toll (l : Launch) (D : va_G) (A : Nat → Prop) (P : SwP) (F : Nat → Nat → Int32) (B G : Nat → Int32) (dk : List Nat) (x : Int32) (h : Int32) (hlt : l.stackTraces = false) (hI : Inv P (F, B, G, dk)) : Ct l yX10_toll (.code yX10_toll cX10_toll 4 (some .int)) ({ frames := 9, cells := 2, slots := 12, locals := 200 }) A [.ref (pS P), .int x, .int h] (fun U => Ev A U ∧ Xp D A P F B G dk U) (ocE (oToll (pk P) (pn P) x h (F, B, G, dk)).1 (some (.int (oToll (pk P) (pn P) x h (F, B, G, dk)).2.1))) (Xp D A P (oToll (pk P) (pn P) x h (F, B, G, dk)).2.2.1 (oToll (pk P) (pn P) x h (F, B, G, dk)).2.2.2.1 (oToll (pk P) (pn P) x h (F, B, G, dk)).2.2.2.2.1 (oToll (pk P) (pn P) x h (F, B, G, dk)).2.2.2.2.2) := by
  refine ct_mk (by decide) (Nat.le_of_ble_eq_true rfl) (fun p e s m below meth c ls C hr hlocks hnm htab hP hl => ?_)
  obtain ⟨hE, hw⟩ := hP
  have hS : va_S A s.heap s.heap [] := va_S.rf
  have hl : lv_has ls 4 [(0, .ref (pS P)), (1, .int x), (2, .int h)] := hl
  have hO : Ok P F dk := hI.1
  have hz : G 4 = 0 ∨ G 4 = 1 := hI.2.1
  cases hv : vAt (pn P) x with
  | none =>
    refine lv_aload_n C.1 C.2.1 dX10_toll_0 rfl (lv_at hl 0 rfl) ?_
    refine lv_iload_n C.1 C.2.1 dX10_toll_1 rfl (lv_at hl 1 rfl) ?_
    have hM := c_X10_find l D A P F B G dk hO x
    rw [hv] at hM
    refine ct_ret (ct_V0 C hM Xp_bl (Or.inl rfl) tb_316 tb_1 ⟨Nat.le_of_ble_eq_true rfl, Nat.le_of_ble_eq_true rfl⟩ tb_313 ⟨by decide, by decide⟩ tbp_1 tb_315 (x_recvS hw) (fun U hU hW => x_post hw hU hW) (sig_code (C.2.2.2.2 _ tb_316)) (by show _ = some 1; decide +kernel) hl.1 rfl (Nat.le_of_ble_eq_true rfl) dX10_toll_2 ⟨Nat.le_of_ble_eq_true rfl, Nat.le_of_ble_eq_true rfl⟩) hS (fun _ h => h) (fun t H locs ht hvm hw _ _ hS => ?_)
    have hw := x_back hw ht hvm
    refine lv_astore_nN (lv' := [(3, .null), (0, .ref (pS P)), (1, .int (x)), (2, .int (h))]) C.1 C.2.1 dX10_toll_5 rfl hl (by decide) rfl (fun ls hl => ?_)
    refine lv_aload_nN C.1 C.2.1 dX10_toll_6 rfl (lv_at hl 0 rfl) ?_
    refine lv_ifnonnullN C.1 C.2.1 dX10_toll_7 ?_
    refine lv_bipush (v := -101) C.1 C.2.1 dX10_toll_10 (by decide) ?_
    rw [show (oToll (pk P) (pn P) x h (F, B, G, dk)) = _ from (onV_n hv)]
    exact ct_i C hr hlocks rfl (fun t ht hW => x_post hw ht hW) hS (Nat.le_of_ble_eq_true rfl) (Nat.le_of_ble_eq_true rfl) dX10_toll_12
  | some j =>
    have hj : j < pn P := vAt_lt hv
    have hkj : pk P j < 9 := hO.2.1 j hj
    refine lv_aload_n C.1 C.2.1 dX10_toll_0 rfl (lv_at hl 0 rfl) ?_
    refine lv_iload_n C.1 C.2.1 dX10_toll_1 rfl (lv_at hl 1 rfl) ?_
    have hM := c_X10_find l D A P F B G dk hO x
    rw [hv] at hM
    refine ct_ret (ct_V0 C hM Xp_bl (Or.inl rfl) tb_316 tb_1 ⟨Nat.le_of_ble_eq_true rfl, Nat.le_of_ble_eq_true rfl⟩ tb_313 ⟨by decide, by decide⟩ tbp_1 tb_315 (x_recvS hw) (fun U hU hW => x_post hw hU hW) (sig_code (C.2.2.2.2 _ tb_316)) (by show _ = some 1; decide +kernel) hl.1 rfl (Nat.le_of_ble_eq_true rfl) dX10_toll_2 ⟨Nat.le_of_ble_eq_true rfl, Nat.le_of_ble_eq_true rfl⟩) hS (fun _ h => h) (fun t H locs ht hvm hw _ _ hS => ?_)
    have hw := x_back hw ht hvm
    refine lv_astore_n (lv' := [(3, .ref (pa P j)), (0, .ref (pS P)), (1, .int (x)), (2, .int (h))]) C.1 C.2.1 dX10_toll_5 rfl hl (by decide) rfl (fun ls hl => ?_)
    refine lv_aload_n C.1 C.2.1 dX10_toll_6 rfl (lv_at hl 0 rfl) ?_
    refine lv_ifnonnull (tgt := 13) C.1 C.2.1 dX10_toll_7 (by decide) ?_
    refine lv_iload_n C.1 C.2.1 dX10_toll_13 rfl (lv_at hl 3 rfl) ?_
    refine lv_iconst (v := 0) C.1 C.2.1 dX10_toll_14 (by decide) ?_
    refine lv_bipush (v := 23) C.1 C.2.1 dX10_toll_15 (by decide) ?_
    refine ct_ret (ct_S C (c_X10_isOutside l (h) (0) (23)) Tr_bl (Or.inl rfl) tb_97 tb_1 ⟨Nat.le_of_ble_eq_true rfl, Nat.le_of_ble_eq_true rfl⟩ tb_95 ⟨by decide, by decide⟩ tb_96 (fun _ _ _ => trivial) (by show _ = some 3; decide +kernel) hl.1 rfl (Nat.le_of_ble_eq_true rfl) dX10_toll_17 ⟨Nat.le_of_ble_eq_true rfl, Nat.le_of_ble_eq_true rfl⟩) hS (fun _ h => False.elim h) (fun t H locs ht hvm _ _ hk hS => ?_)
    have hw := x_kept hw hk
    refine lv_if_eq (tgt := 26) C.1 C.2.1 dX10_toll_20 (by decide) (fun h1 => ?_) (fun h1 => ?_)
    · refine lv_aload_n C.1 C.2.1 dX10_toll_26 rfl (lv_at hl 0 rfl) ?_
      refine lv_iload_n C.1 C.2.1 dX10_toll_27 rfl (lv_at hl 3 rfl) ?_
      refine ct_go (v_toll C hw hj hkj hlt hE hS tb_693 hl.1 dX10_toll_28 ⟨Nat.le_of_ble_eq_true rfl, Nat.le_of_ble_eq_true rfl⟩ (Nat.le_of_ble_eq_true rfl) ⟨Nat.le_of_ble_eq_true rfl, Nat.le_of_ble_eq_true rfl⟩) hS (fun _ h => h) (fun E hoc ce q9 t H locs ht hvm hw _ _ hS hce hcv hcl => ?_) (fun v hoc t H locs ht hvm hw _ _ hS => ?_)
      · obtain ⟨hx, rfl⟩ := tO_r hoc
        have hw := x_back hw ht hvm
        rw [show tG (pk P j) F j G = upd G 6 (G 6 + 1) from if_pos hx] at hw
        rw [show (oToll (pk P) (pn P) x h (F, B, G, dk)) = _ from ((onV_s hv).trans ((ifo_n h1).trans (if_pos hx)))]
        exact ct_out (fun x hx => absurd (htab x hx) id) hlocks hce hcv hcl rfl (fun t ht hvm => x_al hw ht hvm) hS (Nat.le_of_ble_eq_true rfl) (Nat.le_of_ble_eq_true rfl)
      · obtain ⟨hx, rfl⟩ := tO_l hoc
        have hw := x_back hw ht hvm
        rw [show tG (pk P j) F j G = G from if_neg (by rw [hx]; decide)] at hw
        rw [show (oToll (pk P) (pn P) x h (F, B, G, dk)) = _ from ((onV_s hv).trans ((ifo_n h1).trans (if_neg (by rw [hx]; decide))))]
        exact ct_i C hr hlocks rfl (fun t ht hW => x_post hw ht hW) hS (Nat.le_of_ble_eq_true rfl) (Nat.le_of_ble_eq_true rfl) dX10_toll_31
    · refine lv_bipush (v := -102) C.1 C.2.1 dX10_toll_23 (by decide) ?_
      rw [show (oToll (pk P) (pn P) x h (F, B, G, dk)) = _ from ((onV_s hv).trans (ifo_p h1))]
      exact ct_i C hr hlocks rfl (fun t ht hW => x_post hw ht hW) hS (Nat.le_of_ble_eq_true rfl) (Nat.le_of_ble_eq_true rfl) dX10_toll_25
set_option maxHeartbeats 400000 in
set_option maxRecDepth 100000 in
/-- ENTER -/
theorem c_X10_enter (l : Launch) (D : va_G) (A : Nat → Prop) (P : SwP) (F : Nat → Nat → Int32) (B G : Nat → Int32) (dk : List Nat) (x : Int32) (h : Int32) (hlt : l.stackTraces = false) (hI : Inv P (F, B, G, dk)) : Ct l yX10_enter (.code yX10_enter cX10_enter 4 (some .int)) ({ frames := 9, cells := 2, slots := 12, locals := 200 }) A [.ref (pS P), .int x, .int h] (fun U => Ev A U ∧ Xp D A P F B G dk U) (ocE (oEnter (pk P) (pn P) x h (F, B, G, dk)).1 (some (.int (oEnter (pk P) (pn P) x h (F, B, G, dk)).2.1))) (Xp D A P (oEnter (pk P) (pn P) x h (F, B, G, dk)).2.2.1 (oEnter (pk P) (pn P) x h (F, B, G, dk)).2.2.2.1 (oEnter (pk P) (pn P) x h (F, B, G, dk)).2.2.2.2.1 (oEnter (pk P) (pn P) x h (F, B, G, dk)).2.2.2.2.2) := by
  refine ct_mk (by decide) (Nat.le_of_ble_eq_true rfl) (fun p e s m below meth c ls C hr hlocks hnm htab hP hl => ?_)
  obtain ⟨hE, hw⟩ := hP
  have hS : va_S A s.heap s.heap [] := va_S.rf
  have hl : lv_has ls 4 [(0, .ref (pS P)), (1, .int x), (2, .int h)] := hl
  have hO : Ok P F dk := hI.1
  have hz : G 4 = 0 ∨ G 4 = 1 := hI.2.1
  cases hv : vAt (pn P) x with
  | none =>
    refine lv_aload_n C.1 C.2.1 dX10_enter_0 rfl (lv_at hl 0 rfl) ?_
    refine lv_iload_n C.1 C.2.1 dX10_enter_1 rfl (lv_at hl 1 rfl) ?_
    have hM := c_X10_find l D A P F B G dk hO x
    rw [hv] at hM
    refine ct_ret (ct_V0 C hM Xp_bl (Or.inl rfl) tb_316 tb_1 ⟨Nat.le_of_ble_eq_true rfl, Nat.le_of_ble_eq_true rfl⟩ tb_313 ⟨by decide, by decide⟩ tbp_1 tb_315 (x_recvS hw) (fun U hU hW => x_post hw hU hW) (sig_code (C.2.2.2.2 _ tb_316)) (by show _ = some 1; decide +kernel) hl.1 rfl (Nat.le_of_ble_eq_true rfl) dX10_enter_2 ⟨Nat.le_of_ble_eq_true rfl, Nat.le_of_ble_eq_true rfl⟩) hS (fun _ h => h) (fun t H locs ht hvm hw _ _ hS => ?_)
    have hw := x_back hw ht hvm
    refine lv_astore_nN (lv' := [(3, .null), (0, .ref (pS P)), (1, .int (x)), (2, .int (h))]) C.1 C.2.1 dX10_enter_5 rfl hl (by decide) rfl (fun ls hl => ?_)
    refine lv_aload_nN C.1 C.2.1 dX10_enter_6 rfl (lv_at hl 0 rfl) ?_
    refine lv_ifnonnullN C.1 C.2.1 dX10_enter_7 ?_
    refine lv_bipush (v := -101) C.1 C.2.1 dX10_enter_10 (by decide) ?_
    rw [show (oEnter (pk P) (pn P) x h (F, B, G, dk)) = _ from (onV_n hv)]
    exact ct_i C hr hlocks rfl (fun t ht hW => x_post hw ht hW) hS (Nat.le_of_ble_eq_true rfl) (Nat.le_of_ble_eq_true rfl) dX10_enter_12
  | some j =>
    have hj : j < pn P := vAt_lt hv
    have hkj : pk P j < 9 := hO.2.1 j hj
    refine lv_aload_n C.1 C.2.1 dX10_enter_0 rfl (lv_at hl 0 rfl) ?_
    refine lv_iload_n C.1 C.2.1 dX10_enter_1 rfl (lv_at hl 1 rfl) ?_
    have hM := c_X10_find l D A P F B G dk hO x
    rw [hv] at hM
    refine ct_ret (ct_V0 C hM Xp_bl (Or.inl rfl) tb_316 tb_1 ⟨Nat.le_of_ble_eq_true rfl, Nat.le_of_ble_eq_true rfl⟩ tb_313 ⟨by decide, by decide⟩ tbp_1 tb_315 (x_recvS hw) (fun U hU hW => x_post hw hU hW) (sig_code (C.2.2.2.2 _ tb_316)) (by show _ = some 1; decide +kernel) hl.1 rfl (Nat.le_of_ble_eq_true rfl) dX10_enter_2 ⟨Nat.le_of_ble_eq_true rfl, Nat.le_of_ble_eq_true rfl⟩) hS (fun _ h => h) (fun t H locs ht hvm hw _ _ hS => ?_)
    have hw := x_back hw ht hvm
    refine lv_astore_n (lv' := [(3, .ref (pa P j)), (0, .ref (pS P)), (1, .int (x)), (2, .int (h))]) C.1 C.2.1 dX10_enter_5 rfl hl (by decide) rfl (fun ls hl => ?_)
    refine lv_aload_n C.1 C.2.1 dX10_enter_6 rfl (lv_at hl 0 rfl) ?_
    refine lv_ifnonnull (tgt := 13) C.1 C.2.1 dX10_enter_7 (by decide) ?_
    refine lv_iload_n C.1 C.2.1 dX10_enter_13 rfl (lv_at hl 3 rfl) ?_
    refine lv_iconst (v := 0) C.1 C.2.1 dX10_enter_14 (by decide) ?_
    refine lv_bipush (v := 23) C.1 C.2.1 dX10_enter_15 (by decide) ?_
    refine ct_ret (ct_S C (c_X10_isOutside l (h) (0) (23)) Tr_bl (Or.inl rfl) tb_97 tb_1 ⟨Nat.le_of_ble_eq_true rfl, Nat.le_of_ble_eq_true rfl⟩ tb_95 ⟨by decide, by decide⟩ tb_96 (fun _ _ _ => trivial) (by show _ = some 3; decide +kernel) hl.1 rfl (Nat.le_of_ble_eq_true rfl) dX10_enter_17 ⟨Nat.le_of_ble_eq_true rfl, Nat.le_of_ble_eq_true rfl⟩) hS (fun _ h => False.elim h) (fun t H locs ht hvm _ _ hk hS => ?_)
    have hw := x_kept hw hk
    refine lv_if_eq (tgt := 26) C.1 C.2.1 dX10_enter_20 (by decide) (fun h1 => ?_) (fun h1 => ?_)
    · refine lv_aload_n C.1 C.2.1 dX10_enter_26 rfl (lv_at hl 0 rfl) ?_
      refine xv_get C hw hj hkj 6 (by decide) tb_147 (Or.inl rfl) rfl dX10_enter_27 ?_
      refine lv_iconst (v := 1) C.1 C.2.1 dX10_enter_30 (by decide) ?_
      refine lv_icmp_ne (tgt := 37) C.1 C.2.1 dX10_enter_31 (by decide) (fun h2 => ?_) (fun h2 => ?_)
      · refine lv_aload_n C.1 C.2.1 dX10_enter_37 rfl (lv_at hl 0 rfl) ?_
        refine lv_iload_n C.1 C.2.1 dX10_enter_38 rfl (lv_at hl 3 rfl) ?_
        have hnd : j ∉ dk := fun q => h2 (hI.2.2.1 j q)
        refine ct_go (v_enter C hw hj hkj hlt hE hS hO hz (hO.lt hj hnd) tb_607 hl.1 dX10_enter_39 ⟨Nat.le_of_ble_eq_true rfl, Nat.le_of_ble_eq_true rfl⟩ (Nat.le_of_ble_eq_true rfl) ⟨Nat.le_of_ble_eq_true rfl, Nat.le_of_ble_eq_true rfl⟩) hS (fun _ h => h) (fun E hoc ce q9 t H locs ht hvm hw _ _ hS hce hcv hcl => ?_) (fun v hoc t H locs ht hvm hw _ _ hS => ?_)
        · have hw := x_back hw ht hvm
          rw [show (oEnter (pk P) (pn P) x h (F, B, G, dk)) = _ from ((onV_s hv).trans ((ifo_n h1).trans (if_neg h2)))]
          exact ct_out (fun x hx => absurd (htab x hx) id) hlocks hce hcv hcl (by rcases ocE_r hoc with ⟨q1, rfl⟩ | ⟨q0, q1, rfl⟩; (show ocE (eN (pk P) j h (F, B, G, dk)).1 _ = _; unfold ocE; rw [if_neg (by rw [q1]; decide), if_pos q1]); (show ocE (eN (pk P) j h (F, B, G, dk)).1 _ = _; unfold ocE; rw [if_neg q0, if_neg q1])) (fun t ht hvm => x_al hw ht hvm) hS (Nat.le_of_ble_eq_true rfl) (Nat.le_of_ble_eq_true rfl)
        · obtain ⟨h0, rfl⟩ := ocE_l hoc
          have hw := x_back hw ht hvm
          rw [show (oEnter (pk P) (pn P) x h (F, B, G, dk)) = _ from ((onV_s hv).trans ((ifo_n h1).trans (if_neg h2)))]
          refine lv_aload_n C.1 C.2.1 dX10_enter_42 rfl (lv_at hl 0 rfl) ?_
          refine xv_get C hw hj hkj 7 (by decide) tb_149 (Or.inl rfl) rfl dX10_enter_43 ?_
          exact ct_i C hr hlocks (ocE_0 h0) (fun t ht hW => x_post hw ht hW) hS (Nat.le_of_ble_eq_true rfl) (Nat.le_of_ble_eq_true rfl) dX10_enter_46
      · refine lv_bipush (v := -103) C.1 C.2.1 dX10_enter_34 (by decide) ?_
        rw [show (oEnter (pk P) (pn P) x h (F, B, G, dk)) = _ from ((onV_s hv).trans ((ifo_n h1).trans (if_pos h2)))]
        exact ct_i C hr hlocks rfl (fun t ht hW => x_post hw ht hW) hS (Nat.le_of_ble_eq_true rfl) (Nat.le_of_ble_eq_true rfl) dX10_enter_36
    · refine lv_bipush (v := -102) C.1 C.2.1 dX10_enter_23 (by decide) ?_
      rw [show (oEnter (pk P) (pn P) x h (F, B, G, dk)) = _ from ((onV_s hv).trans (ifo_p h1))]
      exact ct_i C hr hlocks rfl (fun t ht hW => x_post hw ht hW) hS (Nat.le_of_ble_eq_true rfl) (Nat.le_of_ble_eq_true rfl) dX10_enter_25
set_option maxHeartbeats 400000 in
set_option maxRecDepth 100000 in
/-- LEAVE -/
theorem c_X10_leave (l : Launch) (D : va_G) (A : Nat → Prop) (P : SwP) (F : Nat → Nat → Int32) (B G : Nat → Int32) (dk : List Nat) (x : Int32) (hlt : l.stackTraces = false) (hI : Inv P (F, B, G, dk)) : Ct l yX10_leave (.code yX10_leave cX10_leave 3 (some .int)) ({ frames := 9, cells := 2, slots := 12, locals := 200 }) A [.ref (pS P), .int x] (fun U => Ev A U ∧ Xp D A P F B G dk U) (ocE (oLeave (pk P) (pn P) x (F, B, G, dk)).1 (some (.int (oLeave (pk P) (pn P) x (F, B, G, dk)).2.1))) (Xp D A P (oLeave (pk P) (pn P) x (F, B, G, dk)).2.2.1 (oLeave (pk P) (pn P) x (F, B, G, dk)).2.2.2.1 (oLeave (pk P) (pn P) x (F, B, G, dk)).2.2.2.2.1 (oLeave (pk P) (pn P) x (F, B, G, dk)).2.2.2.2.2) := by
  refine ct_mk (by decide) (Nat.le_of_ble_eq_true rfl) (fun p e s m below meth c ls C hr hlocks hnm htab hP hl => ?_)
  obtain ⟨hE, hw⟩ := hP
  have hS : va_S A s.heap s.heap [] := va_S.rf
  have hl : lv_has ls 3 [(0, .ref (pS P)), (1, .int x)] := hl
  have hO : Ok P F dk := hI.1
  have hz : G 4 = 0 ∨ G 4 = 1 := hI.2.1
  cases hv : vAt (pn P) x with
  | none =>
    refine lv_aload_n C.1 C.2.1 dX10_leave_0 rfl (lv_at hl 0 rfl) ?_
    refine lv_iload_n C.1 C.2.1 dX10_leave_1 rfl (lv_at hl 1 rfl) ?_
    have hM := c_X10_find l D A P F B G dk hO x
    rw [hv] at hM
    refine ct_ret (ct_V0 C hM Xp_bl (Or.inl rfl) tb_316 tb_1 ⟨Nat.le_of_ble_eq_true rfl, Nat.le_of_ble_eq_true rfl⟩ tb_313 ⟨by decide, by decide⟩ tbp_1 tb_315 (x_recvS hw) (fun U hU hW => x_post hw hU hW) (sig_code (C.2.2.2.2 _ tb_316)) (by show _ = some 1; decide +kernel) hl.1 rfl (Nat.le_of_ble_eq_true rfl) dX10_leave_2 ⟨Nat.le_of_ble_eq_true rfl, Nat.le_of_ble_eq_true rfl⟩) hS (fun _ h => h) (fun t H locs ht hvm hw _ _ hS => ?_)
    have hw := x_back hw ht hvm
    refine lv_astore_nN (lv' := [(2, .null), (0, .ref (pS P)), (1, .int (x))]) C.1 C.2.1 dX10_leave_5 rfl hl (by decide) rfl (fun ls hl => ?_)
    refine lv_aload_nN C.1 C.2.1 dX10_leave_6 rfl (lv_at hl 0 rfl) ?_
    refine lv_ifnonnullN C.1 C.2.1 dX10_leave_7 ?_
    refine lv_bipush (v := -101) C.1 C.2.1 dX10_leave_10 (by decide) ?_
    rw [show (oLeave (pk P) (pn P) x (F, B, G, dk)) = _ from (onV_n hv)]
    exact ct_i C hr hlocks rfl (fun t ht hW => x_post hw ht hW) hS (Nat.le_of_ble_eq_true rfl) (Nat.le_of_ble_eq_true rfl) dX10_leave_12
  | some j =>
    have hj : j < pn P := vAt_lt hv
    have hkj : pk P j < 9 := hO.2.1 j hj
    refine lv_aload_n C.1 C.2.1 dX10_leave_0 rfl (lv_at hl 0 rfl) ?_
    refine lv_iload_n C.1 C.2.1 dX10_leave_1 rfl (lv_at hl 1 rfl) ?_
    have hM := c_X10_find l D A P F B G dk hO x
    rw [hv] at hM
    refine ct_ret (ct_V0 C hM Xp_bl (Or.inl rfl) tb_316 tb_1 ⟨Nat.le_of_ble_eq_true rfl, Nat.le_of_ble_eq_true rfl⟩ tb_313 ⟨by decide, by decide⟩ tbp_1 tb_315 (x_recvS hw) (fun U hU hW => x_post hw hU hW) (sig_code (C.2.2.2.2 _ tb_316)) (by show _ = some 1; decide +kernel) hl.1 rfl (Nat.le_of_ble_eq_true rfl) dX10_leave_2 ⟨Nat.le_of_ble_eq_true rfl, Nat.le_of_ble_eq_true rfl⟩) hS (fun _ h => h) (fun t H locs ht hvm hw _ _ hS => ?_)
    have hw := x_back hw ht hvm
    refine lv_astore_n (lv' := [(2, .ref (pa P j)), (0, .ref (pS P)), (1, .int (x))]) C.1 C.2.1 dX10_leave_5 rfl hl (by decide) rfl (fun ls hl => ?_)
    refine lv_aload_n C.1 C.2.1 dX10_leave_6 rfl (lv_at hl 0 rfl) ?_
    refine lv_ifnonnull (tgt := 13) C.1 C.2.1 dX10_leave_7 (by decide) ?_
    refine lv_aload_n C.1 C.2.1 dX10_leave_13 rfl (lv_at hl 0 rfl) ?_
    refine xv_get C hw hj hkj 6 (by decide) tb_147 (Or.inl rfl) rfl dX10_leave_14 ?_
    refine lv_if_ne (tgt := 23) C.1 C.2.1 dX10_leave_17 (by decide) (fun h1 => ?_) (fun h1 => ?_)
    · refine lv_aload_n C.1 C.2.1 dX10_leave_23 rfl (lv_at hl 0 rfl) ?_
      refine ct_ret (v_leave C hw hj hkj hO hE.2.1 tb_380 hl.1 dX10_leave_24 ⟨Nat.le_of_ble_eq_true rfl, Nat.le_of_ble_eq_true rfl⟩ (Nat.le_of_ble_eq_true rfl) ⟨Nat.le_of_ble_eq_true rfl, Nat.le_of_ble_eq_true rfl⟩) hS (fun _ h => h) (fun t H locs ht hvm hw _ _ hS => ?_)
      have hw := x_back hw ht hvm
      refine lv_aload_n C.1 C.2.1 dX10_leave_27 rfl (lv_at hl 1 rfl) ?_
      refine xs_get C hw 0 (by decide) tb_81 rfl dX10_leave_28 ?_
      refine xb_get C hw 2 (by decide) tb_49 rfl dX10_leave_31 ?_
      rw [show (oLeave (pk P) (pn P) x (F, B, G, dk)) = _ from ((onV_s hv).trans (if_neg h1))]
      exact ct_i C hr hlocks rfl (fun t ht hW => x_post hw ht hW) hS (Nat.le_of_ble_eq_true rfl) (Nat.le_of_ble_eq_true rfl) dX10_leave_34
    · refine lv_bipush (v := -103) C.1 C.2.1 dX10_leave_20 (by decide) ?_
      rw [show (oLeave (pk P) (pn P) x (F, B, G, dk)) = _ from ((onV_s hv).trans (if_pos h1))]
      exact ct_i C hr hlocks rfl (fun t ht hW => x_post hw ht hW) hS (Nat.le_of_ble_eq_true rfl) (Nat.le_of_ble_eq_true rfl) dX10_leave_22
set_option maxHeartbeats 400000 in
set_option maxRecDepth 100000 in
/-- BILL -/
theorem c_X10_bill (l : Launch) (D : va_G) (A : Nat → Prop) (P : SwP) (F : Nat → Nat → Int32) (B G : Nat → Int32) (dk : List Nat) (x : Int32) (h : Int32) (hlt : l.stackTraces = false) (hI : Inv P (F, B, G, dk)) : Ct l yX10_bill (.code yX10_bill cX10_bill 4 (some .int)) ({ frames := 9, cells := 2, slots := 12, locals := 200 }) A [.ref (pS P), .int x, .int h] (fun U => Ev A U ∧ Xp D A P F B G dk U) (ocE (oBill (pk P) (pn P) x h (F, B, G, dk)).1 (some (.int (oBill (pk P) (pn P) x h (F, B, G, dk)).2.1))) (Xp D A P (oBill (pk P) (pn P) x h (F, B, G, dk)).2.2.1 (oBill (pk P) (pn P) x h (F, B, G, dk)).2.2.2.1 (oBill (pk P) (pn P) x h (F, B, G, dk)).2.2.2.2.1 (oBill (pk P) (pn P) x h (F, B, G, dk)).2.2.2.2.2) := by
  refine ct_mk (by decide) (Nat.le_of_ble_eq_true rfl) (fun p e s m below meth c ls C hr hlocks hnm htab hP hl => ?_)
  obtain ⟨hE, hw⟩ := hP
  have hS : va_S A s.heap s.heap [] := va_S.rf
  have hl : lv_has ls 4 [(0, .ref (pS P)), (1, .int x), (2, .int h)] := hl
  have hO : Ok P F dk := hI.1
  have hz : G 4 = 0 ∨ G 4 = 1 := hI.2.1
  cases hv : vAt (pn P) x with
  | none =>
    refine lv_aload_n C.1 C.2.1 dX10_bill_0 rfl (lv_at hl 0 rfl) ?_
    refine lv_iload_n C.1 C.2.1 dX10_bill_1 rfl (lv_at hl 1 rfl) ?_
    have hM := c_X10_find l D A P F B G dk hO x
    rw [hv] at hM
    refine ct_ret (ct_V0 C hM Xp_bl (Or.inl rfl) tb_316 tb_1 ⟨Nat.le_of_ble_eq_true rfl, Nat.le_of_ble_eq_true rfl⟩ tb_313 ⟨by decide, by decide⟩ tbp_1 tb_315 (x_recvS hw) (fun U hU hW => x_post hw hU hW) (sig_code (C.2.2.2.2 _ tb_316)) (by show _ = some 1; decide +kernel) hl.1 rfl (Nat.le_of_ble_eq_true rfl) dX10_bill_2 ⟨Nat.le_of_ble_eq_true rfl, Nat.le_of_ble_eq_true rfl⟩) hS (fun _ h => h) (fun t H locs ht hvm hw _ _ hS => ?_)
    have hw := x_back hw ht hvm
    refine lv_astore_nN (lv' := [(3, .null), (0, .ref (pS P)), (1, .int (x)), (2, .int (h))]) C.1 C.2.1 dX10_bill_5 rfl hl (by decide) rfl (fun ls hl => ?_)
    refine lv_aload_nN C.1 C.2.1 dX10_bill_6 rfl (lv_at hl 0 rfl) ?_
    refine lv_ifnonnullN C.1 C.2.1 dX10_bill_7 ?_
    refine lv_bipush (v := -101) C.1 C.2.1 dX10_bill_10 (by decide) ?_
    rw [show (oBill (pk P) (pn P) x h (F, B, G, dk)) = _ from (onV_n hv)]
    exact ct_i C hr hlocks rfl (fun t ht hW => x_post hw ht hW) hS (Nat.le_of_ble_eq_true rfl) (Nat.le_of_ble_eq_true rfl) dX10_bill_12
  | some j =>
    have hj : j < pn P := vAt_lt hv
    have hkj : pk P j < 9 := hO.2.1 j hj
    refine lv_aload_n C.1 C.2.1 dX10_bill_0 rfl (lv_at hl 0 rfl) ?_
    refine lv_iload_n C.1 C.2.1 dX10_bill_1 rfl (lv_at hl 1 rfl) ?_
    have hM := c_X10_find l D A P F B G dk hO x
    rw [hv] at hM
    refine ct_ret (ct_V0 C hM Xp_bl (Or.inl rfl) tb_316 tb_1 ⟨Nat.le_of_ble_eq_true rfl, Nat.le_of_ble_eq_true rfl⟩ tb_313 ⟨by decide, by decide⟩ tbp_1 tb_315 (x_recvS hw) (fun U hU hW => x_post hw hU hW) (sig_code (C.2.2.2.2 _ tb_316)) (by show _ = some 1; decide +kernel) hl.1 rfl (Nat.le_of_ble_eq_true rfl) dX10_bill_2 ⟨Nat.le_of_ble_eq_true rfl, Nat.le_of_ble_eq_true rfl⟩) hS (fun _ h => h) (fun t H locs ht hvm hw _ _ hS => ?_)
    have hw := x_back hw ht hvm
    refine lv_astore_n (lv' := [(3, .ref (pa P j)), (0, .ref (pS P)), (1, .int (x)), (2, .int (h))]) C.1 C.2.1 dX10_bill_5 rfl hl (by decide) rfl (fun ls hl => ?_)
    refine lv_aload_n C.1 C.2.1 dX10_bill_6 rfl (lv_at hl 0 rfl) ?_
    refine lv_ifnonnull (tgt := 13) C.1 C.2.1 dX10_bill_7 (by decide) ?_
    refine lv_iload_n C.1 C.2.1 dX10_bill_13 rfl (lv_at hl 3 rfl) ?_
    refine lv_iconst (v := 0) C.1 C.2.1 dX10_bill_14 (by decide) ?_
    refine lv_bipush (v := 23) C.1 C.2.1 dX10_bill_15 (by decide) ?_
    refine ct_ret (ct_S C (c_X10_isOutside l (h) (0) (23)) Tr_bl (Or.inl rfl) tb_97 tb_1 ⟨Nat.le_of_ble_eq_true rfl, Nat.le_of_ble_eq_true rfl⟩ tb_95 ⟨by decide, by decide⟩ tb_96 (fun _ _ _ => trivial) (by show _ = some 3; decide +kernel) hl.1 rfl (Nat.le_of_ble_eq_true rfl) dX10_bill_17 ⟨Nat.le_of_ble_eq_true rfl, Nat.le_of_ble_eq_true rfl⟩) hS (fun _ h => False.elim h) (fun t H locs ht hvm _ _ hk hS => ?_)
    have hw := x_kept hw hk
    refine lv_if_eq (tgt := 26) C.1 C.2.1 dX10_bill_20 (by decide) (fun h1 => ?_) (fun h1 => ?_)
    · refine lv_aload_n C.1 C.2.1 dX10_bill_26 rfl (lv_at hl 0 rfl) ?_
      refine ct_ret (v_hasAcc C hw hj hkj tb_444 hl.1 dX10_bill_27 ⟨Nat.le_of_ble_eq_true rfl, Nat.le_of_ble_eq_true rfl⟩ (Nat.le_of_ble_eq_true rfl) ⟨Nat.le_of_ble_eq_true rfl, Nat.le_of_ble_eq_true rfl⟩) hS (fun _ h => h) (fun t H locs ht hvm hw _ _ hS => ?_)
      have hw := x_back hw ht hvm
      refine lv_if_ne (tgt := 36) C.1 C.2.1 dX10_bill_30 (by decide) (fun h2 => ?_) (fun h2 => ?_)
      · refine lv_aload_n C.1 C.2.1 dX10_bill_36 rfl (lv_at hl 0 rfl) ?_
        refine lv_iload_n C.1 C.2.1 dX10_bill_37 rfl (lv_at hl 3 rfl) ?_
        have ha := of_decide_eq_true (b2i_1 h2)
        refine ct_ret (v_bill C hw hj hkj (by omega) tb_461 hl.1 dX10_bill_38 ⟨Nat.le_of_ble_eq_true rfl, Nat.le_of_ble_eq_true rfl⟩ (Nat.le_of_ble_eq_true rfl) ⟨Nat.le_of_ble_eq_true rfl, Nat.le_of_ble_eq_true rfl⟩) hS (fun _ h => h) (fun t H locs ht hvm hw _ _ hS => ?_)
        have hw := x_back hw ht hvm
        rw [show (oBill (pk P) (pn P) x h (F, B, G, dk)) = _ from ((onV_s hv).trans ((ifo_n h1).trans (ifo_p h2)))]
        exact ct_i C hr hlocks rfl (fun t ht hW => x_post hw ht hW) hS (Nat.le_of_ble_eq_true rfl) (Nat.le_of_ble_eq_true rfl) dX10_bill_41
      · refine lv_bipush (v := -103) C.1 C.2.1 dX10_bill_33 (by decide) ?_
        rw [show (oBill (pk P) (pn P) x h (F, B, G, dk)) = _ from ((onV_s hv).trans ((ifo_n h1).trans (ifo_n h2)))]
        exact ct_i C hr hlocks rfl (fun t ht hW => x_post hw ht hW) hS (Nat.le_of_ble_eq_true rfl) (Nat.le_of_ble_eq_true rfl) dX10_bill_35
    · refine lv_bipush (v := -102) C.1 C.2.1 dX10_bill_23 (by decide) ?_
      rw [show (oBill (pk P) (pn P) x h (F, B, G, dk)) = _ from ((onV_s hv).trans (ifo_p h1))]
      exact ct_i C hr hlocks rfl (fun t ht hW => x_post hw ht hW) hS (Nat.le_of_ble_eq_true rfl) (Nat.le_of_ble_eq_true rfl) dX10_bill_25
set_option maxHeartbeats 400000 in
set_option maxRecDepth 100000 in
/-- MONTH -/
theorem c_X10_month (l : Launch) (D : va_G) (A : Nat → Prop) (P : SwP) (F : Nat → Nat → Int32) (B G : Nat → Int32) (dk : List Nat) (x : Int32) (d : Int32) (hlt : l.stackTraces = false) (hI : Inv P (F, B, G, dk)) : Ct l yX10_month (.code yX10_month cX10_month 4 (some .int)) ({ frames := 9, cells := 2, slots := 12, locals := 200 }) A [.ref (pS P), .int x, .int d] (fun U => Ev A U ∧ Xp D A P F B G dk U) (ocE (oMonth (pk P) (pn P) x d (F, B, G, dk)).1 (some (.int (oMonth (pk P) (pn P) x d (F, B, G, dk)).2.1))) (Xp D A P (oMonth (pk P) (pn P) x d (F, B, G, dk)).2.2.1 (oMonth (pk P) (pn P) x d (F, B, G, dk)).2.2.2.1 (oMonth (pk P) (pn P) x d (F, B, G, dk)).2.2.2.2.1 (oMonth (pk P) (pn P) x d (F, B, G, dk)).2.2.2.2.2) := by
  refine ct_mk (by decide) (Nat.le_of_ble_eq_true rfl) (fun p e s m below meth c ls C hr hlocks hnm htab hP hl => ?_)
  obtain ⟨hE, hw⟩ := hP
  have hS : va_S A s.heap s.heap [] := va_S.rf
  have hl : lv_has ls 4 [(0, .ref (pS P)), (1, .int x), (2, .int d)] := hl
  have hO : Ok P F dk := hI.1
  have hz : G 4 = 0 ∨ G 4 = 1 := hI.2.1
  cases hv : vAt (pn P) x with
  | none =>
    refine lv_aload_n C.1 C.2.1 dX10_month_0 rfl (lv_at hl 0 rfl) ?_
    refine lv_iload_n C.1 C.2.1 dX10_month_1 rfl (lv_at hl 1 rfl) ?_
    have hM := c_X10_find l D A P F B G dk hO x
    rw [hv] at hM
    refine ct_ret (ct_V0 C hM Xp_bl (Or.inl rfl) tb_316 tb_1 ⟨Nat.le_of_ble_eq_true rfl, Nat.le_of_ble_eq_true rfl⟩ tb_313 ⟨by decide, by decide⟩ tbp_1 tb_315 (x_recvS hw) (fun U hU hW => x_post hw hU hW) (sig_code (C.2.2.2.2 _ tb_316)) (by show _ = some 1; decide +kernel) hl.1 rfl (Nat.le_of_ble_eq_true rfl) dX10_month_2 ⟨Nat.le_of_ble_eq_true rfl, Nat.le_of_ble_eq_true rfl⟩) hS (fun _ h => h) (fun t H locs ht hvm hw _ _ hS => ?_)
    have hw := x_back hw ht hvm
    refine lv_astore_nN (lv' := [(3, .null), (0, .ref (pS P)), (1, .int (x)), (2, .int (d))]) C.1 C.2.1 dX10_month_5 rfl hl (by decide) rfl (fun ls hl => ?_)
    refine lv_aload_nN C.1 C.2.1 dX10_month_6 rfl (lv_at hl 0 rfl) ?_
    refine lv_ifnonnullN C.1 C.2.1 dX10_month_7 ?_
    refine lv_bipush (v := -101) C.1 C.2.1 dX10_month_10 (by decide) ?_
    rw [show (oMonth (pk P) (pn P) x d (F, B, G, dk)) = _ from (onV_n hv)]
    exact ct_i C hr hlocks rfl (fun t ht hW => x_post hw ht hW) hS (Nat.le_of_ble_eq_true rfl) (Nat.le_of_ble_eq_true rfl) dX10_month_12
  | some j =>
    have hj : j < pn P := vAt_lt hv
    have hkj : pk P j < 9 := hO.2.1 j hj
    refine lv_aload_n C.1 C.2.1 dX10_month_0 rfl (lv_at hl 0 rfl) ?_
    refine lv_iload_n C.1 C.2.1 dX10_month_1 rfl (lv_at hl 1 rfl) ?_
    have hM := c_X10_find l D A P F B G dk hO x
    rw [hv] at hM
    refine ct_ret (ct_V0 C hM Xp_bl (Or.inl rfl) tb_316 tb_1 ⟨Nat.le_of_ble_eq_true rfl, Nat.le_of_ble_eq_true rfl⟩ tb_313 ⟨by decide, by decide⟩ tbp_1 tb_315 (x_recvS hw) (fun U hU hW => x_post hw hU hW) (sig_code (C.2.2.2.2 _ tb_316)) (by show _ = some 1; decide +kernel) hl.1 rfl (Nat.le_of_ble_eq_true rfl) dX10_month_2 ⟨Nat.le_of_ble_eq_true rfl, Nat.le_of_ble_eq_true rfl⟩) hS (fun _ h => h) (fun t H locs ht hvm hw _ _ hS => ?_)
    have hw := x_back hw ht hvm
    refine lv_astore_n (lv' := [(3, .ref (pa P j)), (0, .ref (pS P)), (1, .int (x)), (2, .int (d))]) C.1 C.2.1 dX10_month_5 rfl hl (by decide) rfl (fun ls hl => ?_)
    refine lv_aload_n C.1 C.2.1 dX10_month_6 rfl (lv_at hl 0 rfl) ?_
    refine lv_ifnonnull (tgt := 13) C.1 C.2.1 dX10_month_7 (by decide) ?_
    refine lv_iload_n C.1 C.2.1 dX10_month_13 rfl (lv_at hl 3 rfl) ?_
    refine lv_iconst (v := 0) C.1 C.2.1 dX10_month_14 (by decide) ?_
    refine lv_bipush (v := 31) C.1 C.2.1 dX10_month_15 (by decide) ?_
    refine ct_ret (ct_S C (c_X10_isOutside l (d) (0) (31)) Tr_bl (Or.inl rfl) tb_97 tb_1 ⟨Nat.le_of_ble_eq_true rfl, Nat.le_of_ble_eq_true rfl⟩ tb_95 ⟨by decide, by decide⟩ tb_96 (fun _ _ _ => trivial) (by show _ = some 3; decide +kernel) hl.1 rfl (Nat.le_of_ble_eq_true rfl) dX10_month_17 ⟨Nat.le_of_ble_eq_true rfl, Nat.le_of_ble_eq_true rfl⟩) hS (fun _ h => False.elim h) (fun t H locs ht hvm _ _ hk hS => ?_)
    have hw := x_kept hw hk
    refine lv_if_eq (tgt := 26) C.1 C.2.1 dX10_month_20 (by decide) (fun h1 => ?_) (fun h1 => ?_)
    · refine lv_aload_n C.1 C.2.1 dX10_month_26 rfl (lv_at hl 0 rfl) ?_
      refine ct_ret (v_hasAcc C hw hj hkj tb_444 hl.1 dX10_month_27 ⟨Nat.le_of_ble_eq_true rfl, Nat.le_of_ble_eq_true rfl⟩ (Nat.le_of_ble_eq_true rfl) ⟨Nat.le_of_ble_eq_true rfl, Nat.le_of_ble_eq_true rfl⟩) hS (fun _ h => h) (fun t H locs ht hvm hw _ _ hS => ?_)
      have hw := x_back hw ht hvm
      refine lv_if_ne (tgt := 36) C.1 C.2.1 dX10_month_30 (by decide) (fun h2 => ?_) (fun h2 => ?_)
      · refine lv_aload_n C.1 C.2.1 dX10_month_36 rfl (lv_at hl 0 rfl) ?_
        refine lv_iload_n C.1 C.2.1 dX10_month_37 rfl (lv_at hl 3 rfl) ?_
        have ha : pk P j = 3 ∨ pk P j = 6 ∨ pk P j = 7 := of_decide_eq_true (b2i_1 h2)
        refine ct_ret (v_month C hw hj hkj ha tb_577 hl.1 dX10_month_38 ⟨Nat.le_of_ble_eq_true rfl, Nat.le_of_ble_eq_true rfl⟩ (Nat.le_of_ble_eq_true rfl) ⟨Nat.le_of_ble_eq_true rfl, Nat.le_of_ble_eq_true rfl⟩) hS (fun _ h => h) (fun t H locs ht hvm hw _ _ hS => ?_)
        have hw := x_back hw ht hvm
        rw [show (oMonth (pk P) (pn P) x d (F, B, G, dk)) = _ from ((onV_s hv).trans ((ifo_n h1).trans (ifo_p h2)))]
        exact ct_i C hr hlocks rfl (fun t ht hW => x_post hw ht hW) hS (Nat.le_of_ble_eq_true rfl) (Nat.le_of_ble_eq_true rfl) dX10_month_41
      · refine lv_bipush (v := -103) C.1 C.2.1 dX10_month_33 (by decide) ?_
        rw [show (oMonth (pk P) (pn P) x d (F, B, G, dk)) = _ from ((onV_s hv).trans ((ifo_n h1).trans (ifo_n h2)))]
        exact ct_i C hr hlocks rfl (fun t ht hW => x_post hw ht hW) hS (Nat.le_of_ble_eq_true rfl) (Nat.le_of_ble_eq_true rfl) dX10_month_35
    · refine lv_bipush (v := -102) C.1 C.2.1 dX10_month_23 (by decide) ?_
      rw [show (oMonth (pk P) (pn P) x d (F, B, G, dk)) = _ from ((onV_s hv).trans (ifo_p h1))]
      exact ct_i C hr hlocks rfl (fun t ht hW => x_post hw ht hW) hS (Nat.le_of_ble_eq_true rfl) (Nat.le_of_ble_eq_true rfl) dX10_month_25
set_option maxHeartbeats 400000 in
set_option maxRecDepth 100000 in
/-- what is told of a vehicle -/
theorem c_X10_tell (l : Launch) (D : va_G) (A : Nat → Prop) (P : SwP) (F : Nat → Nat → Int32) (B G : Nat → Int32) (dk : List Nat) (x : Int32) (w : Int32) (hlt : l.stackTraces = false) (hI : Inv P (F, B, G, dk)) : Ct l yX10_tell (.code yX10_tell cX10_tell 4 (some .int)) ({ frames := 9, cells := 2, slots := 12, locals := 200 }) A [.ref (pS P), .int x, .int w] (fun U => Ev A U ∧ Xp D A P F B G dk U) (ocE (oTell (pn P) x w (F, B, G, dk)).1 (some (.int (oTell (pn P) x w (F, B, G, dk)).2.1))) (Xp D A P (oTell (pn P) x w (F, B, G, dk)).2.2.1 (oTell (pn P) x w (F, B, G, dk)).2.2.2.1 (oTell (pn P) x w (F, B, G, dk)).2.2.2.2.1 (oTell (pn P) x w (F, B, G, dk)).2.2.2.2.2) := by
  refine ct_mk (by decide) (Nat.le_of_ble_eq_true rfl) (fun p e s m below meth c ls C hr hlocks hnm htab hP hl => ?_)
  obtain ⟨hE, hw⟩ := hP
  have hS : va_S A s.heap s.heap [] := va_S.rf
  have hl : lv_has ls 4 [(0, .ref (pS P)), (1, .int x), (2, .int w)] := hl
  have hO : Ok P F dk := hI.1
  have hz : G 4 = 0 ∨ G 4 = 1 := hI.2.1
  cases hv : vAt (pn P) x with
  | none =>
    refine lv_aload_n C.1 C.2.1 dX10_tell_0 rfl (lv_at hl 0 rfl) ?_
    refine lv_iload_n C.1 C.2.1 dX10_tell_1 rfl (lv_at hl 1 rfl) ?_
    have hM := c_X10_find l D A P F B G dk hO x
    rw [hv] at hM
    refine ct_ret (ct_V0 C hM Xp_bl (Or.inl rfl) tb_316 tb_1 ⟨Nat.le_of_ble_eq_true rfl, Nat.le_of_ble_eq_true rfl⟩ tb_313 ⟨by decide, by decide⟩ tbp_1 tb_315 (x_recvS hw) (fun U hU hW => x_post hw hU hW) (sig_code (C.2.2.2.2 _ tb_316)) (by show _ = some 1; decide +kernel) hl.1 rfl (Nat.le_of_ble_eq_true rfl) dX10_tell_2 ⟨Nat.le_of_ble_eq_true rfl, Nat.le_of_ble_eq_true rfl⟩) hS (fun _ h => h) (fun t H locs ht hvm hw _ _ hS => ?_)
    have hw := x_back hw ht hvm
    refine lv_astore_nN (lv' := [(3, .null), (0, .ref (pS P)), (1, .int (x)), (2, .int (w))]) C.1 C.2.1 dX10_tell_5 rfl hl (by decide) rfl (fun ls hl => ?_)
    refine lv_aload_nN C.1 C.2.1 dX10_tell_6 rfl (lv_at hl 0 rfl) ?_
    refine lv_ifnonnullN C.1 C.2.1 dX10_tell_7 ?_
    refine lv_bipush (v := -101) C.1 C.2.1 dX10_tell_10 (by decide) ?_
    rw [show (oTell (pn P) x w (F, B, G, dk)) = _ from (onV_n hv)]
    exact ct_i C hr hlocks rfl (fun t ht hW => x_post hw ht hW) hS (Nat.le_of_ble_eq_true rfl) (Nat.le_of_ble_eq_true rfl) dX10_tell_12
  | some j =>
    have hj : j < pn P := vAt_lt hv
    have hkj : pk P j < 9 := hO.2.1 j hj
    refine lv_aload_n C.1 C.2.1 dX10_tell_0 rfl (lv_at hl 0 rfl) ?_
    refine lv_iload_n C.1 C.2.1 dX10_tell_1 rfl (lv_at hl 1 rfl) ?_
    have hM := c_X10_find l D A P F B G dk hO x
    rw [hv] at hM
    refine ct_ret (ct_V0 C hM Xp_bl (Or.inl rfl) tb_316 tb_1 ⟨Nat.le_of_ble_eq_true rfl, Nat.le_of_ble_eq_true rfl⟩ tb_313 ⟨by decide, by decide⟩ tbp_1 tb_315 (x_recvS hw) (fun U hU hW => x_post hw hU hW) (sig_code (C.2.2.2.2 _ tb_316)) (by show _ = some 1; decide +kernel) hl.1 rfl (Nat.le_of_ble_eq_true rfl) dX10_tell_2 ⟨Nat.le_of_ble_eq_true rfl, Nat.le_of_ble_eq_true rfl⟩) hS (fun _ h => h) (fun t H locs ht hvm hw _ _ hS => ?_)
    have hw := x_back hw ht hvm
    refine lv_astore_n (lv' := [(3, .ref (pa P j)), (0, .ref (pS P)), (1, .int (x)), (2, .int (w))]) C.1 C.2.1 dX10_tell_5 rfl hl (by decide) rfl (fun ls hl => ?_)
    refine lv_aload_n C.1 C.2.1 dX10_tell_6 rfl (lv_at hl 0 rfl) ?_
    refine lv_ifnonnull (tgt := 13) C.1 C.2.1 dX10_tell_7 (by decide) ?_
    refine lv_iload_n C.1 C.2.1 dX10_tell_13 rfl (lv_at hl 3 rfl) ?_
    by_cases hs1 : w.toInt < 0
    · refine lv_tableOut (tgt := 100) C.1 C.2.1 dX10_tell_14 (Or.inl hs1) (by decide) ?_
      refine lv_bipush (v := -102) C.1 C.2.1 dX10_tell_100 (by decide) ?_
      have hno : tellF w = none := by
        have hq := fun {k : Nat} (hk : k ≤ 7) => sw_out (N := 7) (Or.inl hs1) (by decide) (w := w) (j := k) hk
        unfold tellF
        rw [if_neg (show ¬ w = 0 from hq (k := 0) (by decide)), if_neg (show ¬ w = 1 from hq (k := 1) (by decide)), if_neg (show ¬ w = 2 from hq (k := 2) (by decide)), if_neg (show ¬ w = 3 from hq (k := 3) (by decide)), if_neg (show ¬ w = 4 from hq (k := 4) (by decide)), if_neg (show ¬ w = 5 from hq (k := 5) (by decide)), if_neg (show ¬ w = 6 from hq (k := 6) (by decide)), if_neg (show ¬ w = 7 from hq (k := 7) (by decide))]
      rw [show oTell (pn P) x w (F, B, G, dk) = (0, -102, (F, B, G, dk)) from (onV_s hv).trans (by rw [hno])]
      exact ct_i C hr hlocks rfl (fun t ht hW => x_post hw ht hW) hS (Nat.le_of_ble_eq_true rfl) (Nat.le_of_ble_eq_true rfl) dX10_tell_102
    · by_cases hs2 : (7 : Int) < w.toInt
      · refine lv_tableOut (tgt := 100) C.1 C.2.1 dX10_tell_14 (Or.inr hs2) (by decide) ?_
        refine lv_bipush (v := -102) C.1 C.2.1 dX10_tell_100 (by decide) ?_
        have hno : tellF w = none := by
          have hq := fun {k : Nat} (hk : k ≤ 7) => sw_out (N := 7) (Or.inr hs2) (by decide) (w := w) (j := k) hk
          unfold tellF
          rw [if_neg (show ¬ w = 0 from hq (k := 0) (by decide)), if_neg (show ¬ w = 1 from hq (k := 1) (by decide)), if_neg (show ¬ w = 2 from hq (k := 2) (by decide)), if_neg (show ¬ w = 3 from hq (k := 3) (by decide)), if_neg (show ¬ w = 4 from hq (k := 4) (by decide)), if_neg (show ¬ w = 5 from hq (k := 5) (by decide)), if_neg (show ¬ w = 6 from hq (k := 6) (by decide)), if_neg (show ¬ w = 7 from hq (k := 7) (by decide))]
        rw [show oTell (pn P) x w (F, B, G, dk) = (0, -102, (F, B, G, dk)) from (onV_s hv).trans (by rw [hno])]
        exact ct_i C hr hlocks rfl (fun t ht hW => x_post hw ht hW) hS (Nat.le_of_ble_eq_true rfl) (Nat.le_of_ble_eq_true rfl) dX10_tell_102
      · obtain ⟨k, hk7, rfl⟩ := sw_cases (N := 7) hs1 hs2 (by decide)
        rcases (show k = 0 ∨ k = 1 ∨ k = 2 ∨ k = 3 ∨ k = 4 ∨ k = 5 ∨ k = 6 ∨ k = 7 by omega) with rfl | rfl | rfl | rfl | rfl | rfl | rfl | rfl
        · refine lv_tableIn (tgt := 60) C.1 C.2.1 dX10_tell_14 hs1 hs2 rfl (by decide) ?_
          refine lv_aload_n C.1 C.2.1 dX10_tell_60 rfl (lv_at hl 0 rfl) ?_
          refine xv_get C hw hj hkj 2 (by decide) tb_131 (Or.inl rfl) rfl dX10_tell_61 ?_
          rw [show oTell (pn P) x (nI 0) (F, B, G, dk) = (0, F j 2, (F, B, G, dk)) from onV_s hv]
          exact ct_i C hr hlocks rfl (fun t ht hW => x_post hw ht hW) hS (Nat.le_of_ble_eq_true rfl) (Nat.le_of_ble_eq_true rfl) dX10_tell_64
        · refine lv_tableIn (tgt := 65) C.1 C.2.1 dX10_tell_14 hs1 hs2 rfl (by decide) ?_
          refine lv_aload_n C.1 C.2.1 dX10_tell_65 rfl (lv_at hl 0 rfl) ?_
          refine xv_get C hw hj hkj 3 (by decide) tb_133 (Or.inl rfl) rfl dX10_tell_66 ?_
          rw [show oTell (pn P) x (nI 1) (F, B, G, dk) = (0, F j 3, (F, B, G, dk)) from onV_s hv]
          exact ct_i C hr hlocks rfl (fun t ht hW => x_post hw ht hW) hS (Nat.le_of_ble_eq_true rfl) (Nat.le_of_ble_eq_true rfl) dX10_tell_69
        · refine lv_tableIn (tgt := 70) C.1 C.2.1 dX10_tell_14 hs1 hs2 rfl (by decide) ?_
          refine lv_aload_n C.1 C.2.1 dX10_tell_70 rfl (lv_at hl 0 rfl) ?_
          refine xv_get C hw hj hkj 5 (by decide) tb_145 (Or.inl rfl) rfl dX10_tell_71 ?_
          rw [show oTell (pn P) x (nI 2) (F, B, G, dk) = (0, F j 5, (F, B, G, dk)) from onV_s hv]
          exact ct_i C hr hlocks rfl (fun t ht hW => x_post hw ht hW) hS (Nat.le_of_ble_eq_true rfl) (Nat.le_of_ble_eq_true rfl) dX10_tell_74
        · refine lv_tableIn (tgt := 75) C.1 C.2.1 dX10_tell_14 hs1 hs2 rfl (by decide) ?_
          refine lv_aload_n C.1 C.2.1 dX10_tell_75 rfl (lv_at hl 0 rfl) ?_
          refine xv_get C hw hj hkj 4 (by decide) tb_135 (Or.inl rfl) rfl dX10_tell_76 ?_
          rw [show oTell (pn P) x (nI 3) (F, B, G, dk) = (0, F j 4, (F, B, G, dk)) from onV_s hv]
          exact ct_i C hr hlocks rfl (fun t ht hW => x_post hw ht hW) hS (Nat.le_of_ble_eq_true rfl) (Nat.le_of_ble_eq_true rfl) dX10_tell_79
        · refine lv_tableIn (tgt := 80) C.1 C.2.1 dX10_tell_14 hs1 hs2 rfl (by decide) ?_
          refine lv_aload_n C.1 C.2.1 dX10_tell_80 rfl (lv_at hl 0 rfl) ?_
          refine xv_get C hw hj hkj 6 (by decide) tb_147 (Or.inl rfl) rfl dX10_tell_81 ?_
          rw [show oTell (pn P) x (nI 4) (F, B, G, dk) = (0, F j 6, (F, B, G, dk)) from onV_s hv]
          exact ct_i C hr hlocks rfl (fun t ht hW => x_post hw ht hW) hS (Nat.le_of_ble_eq_true rfl) (Nat.le_of_ble_eq_true rfl) dX10_tell_84
        · refine lv_tableIn (tgt := 85) C.1 C.2.1 dX10_tell_14 hs1 hs2 rfl (by decide) ?_
          refine lv_aload_n C.1 C.2.1 dX10_tell_85 rfl (lv_at hl 0 rfl) ?_
          refine xv_get C hw hj hkj 7 (by decide) tb_149 (Or.inl rfl) rfl dX10_tell_86 ?_
          rw [show oTell (pn P) x (nI 5) (F, B, G, dk) = (0, F j 7, (F, B, G, dk)) from onV_s hv]
          exact ct_i C hr hlocks rfl (fun t ht hW => x_post hw ht hW) hS (Nat.le_of_ble_eq_true rfl) (Nat.le_of_ble_eq_true rfl) dX10_tell_89
        · refine lv_tableIn (tgt := 90) C.1 C.2.1 dX10_tell_14 hs1 hs2 rfl (by decide) ?_
          refine lv_aload_n C.1 C.2.1 dX10_tell_90 rfl (lv_at hl 0 rfl) ?_
          refine xv_get C hw hj hkj 8 (by decide) tb_151 (Or.inl rfl) rfl dX10_tell_91 ?_
          rw [show oTell (pn P) x (nI 6) (F, B, G, dk) = (0, F j 8, (F, B, G, dk)) from onV_s hv]
          exact ct_i C hr hlocks rfl (fun t ht hW => x_post hw ht hW) hS (Nat.le_of_ble_eq_true rfl) (Nat.le_of_ble_eq_true rfl) dX10_tell_94
        · refine lv_tableIn (tgt := 95) C.1 C.2.1 dX10_tell_14 hs1 hs2 rfl (by decide) ?_
          refine lv_aload_n C.1 C.2.1 dX10_tell_95 rfl (lv_at hl 0 rfl) ?_
          refine xv_get C hw hj hkj 9 (by decide) tb_155 (Or.inl rfl) rfl dX10_tell_96 ?_
          rw [show oTell (pn P) x (nI 7) (F, B, G, dk) = (0, F j 9, (F, B, G, dk)) from onV_s hv]
          exact ct_i C hr hlocks rfl (fun t ht hW => x_post hw ht hW) hS (Nat.le_of_ble_eq_true rfl) (Nat.le_of_ble_eq_true rfl) dX10_tell_99
set_option maxHeartbeats 400000 in
set_option maxRecDepth 100000 in
/-- the vehicle at a place of the deck -/
theorem c_X10_deck (l : Launch) (D : va_G) (A : Nat → Prop) (P : SwP) (F : Nat → Nat → Int32) (B G : Nat → Int32) (dk : List Nat) (x : Int32) (hlt : l.stackTraces = false) (hI : Inv P (F, B, G, dk)) : Ct l yX10_deck (.code yX10_deck cX10_deck 3 (some .int)) ({ frames := 9, cells := 2, slots := 12, locals := 200 }) A [.ref (pS P), .int x] (fun U => Ev A U ∧ Xp D A P F B G dk U) (ocE (oDeck x (F, B, G, dk)).1 (some (.int (oDeck x (F, B, G, dk)).2.1))) (Xp D A P (oDeck x (F, B, G, dk)).2.2.1 (oDeck x (F, B, G, dk)).2.2.2.1 (oDeck x (F, B, G, dk)).2.2.2.2.1 (oDeck x (F, B, G, dk)).2.2.2.2.2) := by
  refine ct_mk (by decide) (Nat.le_of_ble_eq_true rfl) (fun p e s m below meth c ls C hr hlocks hnm htab hP hl => ?_)
  obtain ⟨hE, hw⟩ := hP
  have hS : va_S A s.heap s.heap [] := va_S.rf
  have hl : lv_has ls 3 [(0, .ref (pS P)), (1, .int x)] := hl
  have hO : Ok P F dk := hI.1
  cases hv : dkAt dk x with
  | none =>
    refine lv_aload_n C.1 C.2.1 dX10_deck_0 rfl (lv_at hl 0 rfl) ?_
    refine xs_get C hw 0 (by decide) tb_81 rfl dX10_deck_1 ?_
    refine lv_iload_n C.1 C.2.1 dX10_deck_4 rfl (lv_at hl 1 rfl) ?_
    have hM := c_X0_at l D A P F B G dk hO x
    rw [hv] at hM
    refine ct_ret (ct_V0 C hM Xp_bl (Or.inl rfl) tb_668 tb_2 ⟨Nat.le_of_ble_eq_true rfl, Nat.le_of_ble_eq_true rfl⟩ tb_665 ⟨by decide, by decide⟩ tb_667 tb_666 (x_recvB hw) (fun U hU hW => x_post hw hU hW) (sig_code (C.2.2.2.2 _ tb_668)) (by show _ = some 1; decide +kernel) hl.1 rfl (Nat.le_of_ble_eq_true rfl) dX10_deck_5 ⟨Nat.le_of_ble_eq_true rfl, Nat.le_of_ble_eq_true rfl⟩) hS (fun _ h => h) (fun t H locs ht hvm hw _ _ hS => ?_)
    have hw := x_back hw ht hvm
    refine lv_astore_nN (lv' := [(2, .null), (0, .ref (pS P)), (1, .int (x))]) C.1 C.2.1 dX10_deck_8 rfl hl (by decide) rfl (fun ls hl => ?_)
    refine lv_aload_nN C.1 C.2.1 dX10_deck_9 rfl (lv_at hl 0 rfl) ?_
    refine lv_ifnonnullN C.1 C.2.1 dX10_deck_10 ?_
    refine lv_bipush (v := -101) C.1 C.2.1 dX10_deck_13 (by decide) ?_
    rw [show (oDeck x (F, B, G, dk)) = (0, -101, (F, B, G, dk)) by unfold oDeck; rw [hv]]
    exact ct_i C hr hlocks rfl (fun t ht hW => x_post hw ht hW) hS (Nat.le_of_ble_eq_true rfl) (Nat.le_of_ble_eq_true rfl) dX10_deck_15
  | some j =>
    have hj : j < pn P := by
      unfold dkAt at hv
      by_cases q : x < 0
      · rw [if_pos q] at hv; cases hv
      · rw [if_neg q] at hv; exact (hO.v hv).1
    have hkj : pk P j < 9 := hO.2.1 j hj
    refine lv_aload_n C.1 C.2.1 dX10_deck_0 rfl (lv_at hl 0 rfl) ?_
    refine xs_get C hw 0 (by decide) tb_81 rfl dX10_deck_1 ?_
    refine lv_iload_n C.1 C.2.1 dX10_deck_4 rfl (lv_at hl 1 rfl) ?_
    have hM := c_X0_at l D A P F B G dk hO x
    rw [hv] at hM
    refine ct_ret (ct_V0 C hM Xp_bl (Or.inl rfl) tb_668 tb_2 ⟨Nat.le_of_ble_eq_true rfl, Nat.le_of_ble_eq_true rfl⟩ tb_665 ⟨by decide, by decide⟩ tb_667 tb_666 (x_recvB hw) (fun U hU hW => x_post hw hU hW) (sig_code (C.2.2.2.2 _ tb_668)) (by show _ = some 1; decide +kernel) hl.1 rfl (Nat.le_of_ble_eq_true rfl) dX10_deck_5 ⟨Nat.le_of_ble_eq_true rfl, Nat.le_of_ble_eq_true rfl⟩) hS (fun _ h => h) (fun t H locs ht hvm hw _ _ hS => ?_)
    have hw := x_back hw ht hvm
    refine lv_astore_n (lv' := [(2, .ref (pa P j)), (0, .ref (pS P)), (1, .int (x))]) C.1 C.2.1 dX10_deck_8 rfl hl (by decide) rfl (fun ls hl => ?_)
    refine lv_aload_n C.1 C.2.1 dX10_deck_9 rfl (lv_at hl 0 rfl) ?_
    refine lv_ifnonnull (tgt := 16) C.1 C.2.1 dX10_deck_10 (by decide) ?_
    refine lv_aload_n C.1 C.2.1 dX10_deck_16 rfl (lv_at hl 0 rfl) ?_
    refine xv_get C hw hj hkj 1 (by decide) tb_128 (Or.inl rfl) rfl dX10_deck_17 ?_
    rw [show (oDeck x (F, B, G, dk)) = (0, nI j, (F, B, G, dk)) by unfold oDeck; rw [hv]]
    exact ct_i C hr hlocks rfl (fun t ht hW => x_post hw ht hW) hS (Nat.le_of_ble_eq_true rfl) (Nat.le_of_ble_eq_true rfl) dX10_deck_20
set_option maxHeartbeats 400000 in
set_option maxRecDepth 100000 in
/-- BEGAN -/
theorem c_X10_began (l : Launch) (D : va_G) (A : Nat → Prop) (P : SwP) (F : Nat → Nat → Int32) (B G : Nat → Int32) (dk : List Nat) (x : Int32) (hlt : l.stackTraces = false) (hI : Inv P (F, B, G, dk)) : Ct l yX10_began (.code yX10_began cX10_began 2 (some .int)) ({ frames := 9, cells := 2, slots := 12, locals := 200 }) A [.ref (pS P), .int x] (fun U => Ev A U ∧ Xp D A P F B G dk U) (ocE (oBegan x (F, B, G, dk)).1 (some (.int (oBegan x (F, B, G, dk)).2.1))) (Xp D A P (oBegan x (F, B, G, dk)).2.2.1 (oBegan x (F, B, G, dk)).2.2.2.1 (oBegan x (F, B, G, dk)).2.2.2.2.1 (oBegan x (F, B, G, dk)).2.2.2.2.2) := by
  refine ct_mk (by decide) (Nat.le_of_ble_eq_true rfl) (fun p e s m below meth c ls C hr hlocks hnm htab hP hl => ?_)
  obtain ⟨hE, hw⟩ := hP
  have hS : va_S A s.heap s.heap [] := va_S.rf
  have hl : lv_has ls 2 [(0, .ref (pS P)), (1, .int x)] := hl
  have hO : Ok P F dk := hI.1
  have hz : G 4 = 0 ∨ G 4 = 1 := hI.2.1
  refine lv_iload_n C.1 C.2.1 dX10_began_0 rfl (lv_at hl 1 rfl) ?_
  refine lv_if_lt (tgt := 16) C.1 C.2.1 dX10_began_1 (by decide) (fun h1 => ?_) (fun h1 => ?_)
  · refine lv_bipush (v := -102) C.1 C.2.1 dX10_began_16 (by decide) ?_
    rw [show (oBegan x (F, B, G, dk)) = (0, -102, (F, B, G, dk)) by unfold oBegan; rw [if_pos h1]]
    exact ct_i C hr hlocks rfl (fun t ht hW => x_post hw ht hW) hS (Nat.le_of_ble_eq_true rfl) (Nat.le_of_ble_eq_true rfl) dX10_began_18
  · refine lv_iload_n C.1 C.2.1 dX10_began_4 rfl (lv_at hl 1 rfl) ?_
    refine lv_aload_n C.1 C.2.1 dX10_began_5 rfl (lv_at hl 0 rfl) ?_
    refine xs_get C hw 0 (by decide) tb_81 rfl dX10_began_6 ?_
    refine xb_get C hw 1 (by decide) tb_46 rfl dX10_began_9 ?_
    refine xN_len C hw dX10_began_12 ?_
    refine lv_icmp_lt (tgt := 19) C.1 C.2.1 dX10_began_13 (by decide) (fun h2 => ?_) (fun h2 => ?_)
    · refine lv_aload_n C.1 C.2.1 dX10_began_19 rfl (lv_at hl 0 rfl) ?_
      refine xs_get C hw 0 (by decide) tb_81 rfl dX10_began_20 ?_
      refine xb_get C hw 1 (by decide) tb_46 rfl dX10_began_23 ?_
      refine lv_iload_n C.1 C.2.1 dX10_began_26 rfl (lv_at hl 1 rfl) ?_
      obtain ⟨j, hj, rfl⟩ := nI_of h1
      have hj9 : j < 9 := (nI_ltI hj (by omega)).mp h2
      refine xN_ld C hw hj9 rfl dX10_began_27 ?_
      rw [show oBegan (nI j) (F, B, G, dk) = (0, B j, (F, B, G, dk)) by unfold oBegan; rw [if_neg h1, if_pos h2, nI_clamp hj]]
      exact ct_i C hr hlocks rfl (fun t ht hW => x_post hw ht hW) hS (Nat.le_of_ble_eq_true rfl) (Nat.le_of_ble_eq_true rfl) dX10_began_28
    · refine lv_bipush (v := -102) C.1 C.2.1 dX10_began_16 (by decide) ?_
      rw [show (oBegan x (F, B, G, dk)) = (0, -102, (F, B, G, dk)) by unfold oBegan; rw [if_neg h1, if_neg h2]]
      exact ct_i C hr hlocks rfl (fun t ht hW => x_post hw ht hW) hS (Nat.le_of_ble_eq_true rfl) (Nat.le_of_ble_eq_true rfl) dX10_began_18
set_option maxHeartbeats 400000 in
set_option maxRecDepth 100000 in
/-- what is counted -/
theorem c_X10_count (l : Launch) (D : va_G) (A : Nat → Prop) (P : SwP) (F : Nat → Nat → Int32) (B G : Nat → Int32) (dk : List Nat) (w : Int32) (hlt : l.stackTraces = false) (hI : Inv P (F, B, G, dk)) : Ct l yX10_count (.code yX10_count cX10_count 2 (some .int)) ({ frames := 9, cells := 2, slots := 12, locals := 200 }) A [.ref (pS P), .int w] (fun U => Ev A U ∧ Xp D A P F B G dk U) (ocE (oCount (pn P) w (F, B, G, dk)).1 (some (.int (oCount (pn P) w (F, B, G, dk)).2.1))) (Xp D A P (oCount (pn P) w (F, B, G, dk)).2.2.1 (oCount (pn P) w (F, B, G, dk)).2.2.2.1 (oCount (pn P) w (F, B, G, dk)).2.2.2.2.1 (oCount (pn P) w (F, B, G, dk)).2.2.2.2.2) := by
  refine ct_mk (by decide) (Nat.le_of_ble_eq_true rfl) (fun p e s m below meth c ls C hr hlocks hnm htab hP hl => ?_)
  obtain ⟨hE, hw⟩ := hP
  have hS : va_S A s.heap s.heap [] := va_S.rf
  have hl : lv_has ls 2 [(0, .ref (pS P)), (1, .int w)] := hl
  have hO : Ok P F dk := hI.1
  have hz : G 4 = 0 ∨ G 4 = 1 := hI.2.1
  refine lv_iload_n C.1 C.2.1 dX10_count_0 rfl (lv_at hl 1 rfl) ?_
  by_cases hs1 : w.toInt < 0
  · refine lv_tableOut (tgt := 93) C.1 C.2.1 dX10_count_1 (Or.inl hs1) (by decide) ?_
    refine lv_bipush (v := -102) C.1 C.2.1 dX10_count_93 (by decide) ?_
    have hq := fun {k : Nat} (hk : k ≤ 5) => sw_out (N := 5) (Or.inl hs1) (by decide) (w := w) (j := k) hk
    rw [show (oCount (pn P) w (F, B, G, dk)) = (0, -102, (F, B, G, dk)) by unfold oCount; rw [if_neg (show ¬ w = 0 from hq (k := 0) (by decide)), if_neg (show ¬ w = 1 from hq (k := 1) (by decide)), if_neg (show ¬ w = 2 from hq (k := 2) (by decide)), if_neg (show ¬ w = 3 from hq (k := 3) (by decide)), if_neg (show ¬ w = 4 from hq (k := 4) (by decide)), if_neg (show ¬ w = 5 from hq (k := 5) (by decide))]]
    exact ct_i C hr hlocks rfl (fun t ht hW => x_post hw ht hW) hS (Nat.le_of_ble_eq_true rfl) (Nat.le_of_ble_eq_true rfl) dX10_count_95
  · by_cases hs2 : (5 : Int) < w.toInt
    · refine lv_tableOut (tgt := 93) C.1 C.2.1 dX10_count_1 (Or.inr hs2) (by decide) ?_
      refine lv_bipush (v := -102) C.1 C.2.1 dX10_count_93 (by decide) ?_
      have hq := fun {k : Nat} (hk : k ≤ 5) => sw_out (N := 5) (Or.inr hs2) (by decide) (w := w) (j := k) hk
      rw [show (oCount (pn P) w (F, B, G, dk)) = (0, -102, (F, B, G, dk)) by unfold oCount; rw [if_neg (show ¬ w = 0 from hq (k := 0) (by decide)), if_neg (show ¬ w = 1 from hq (k := 1) (by decide)), if_neg (show ¬ w = 2 from hq (k := 2) (by decide)), if_neg (show ¬ w = 3 from hq (k := 3) (by decide)), if_neg (show ¬ w = 4 from hq (k := 4) (by decide)), if_neg (show ¬ w = 5 from hq (k := 5) (by decide))]]
      exact ct_i C hr hlocks rfl (fun t ht hW => x_post hw ht hW) hS (Nat.le_of_ble_eq_true rfl) (Nat.le_of_ble_eq_true rfl) dX10_count_95
    · obtain ⟨k, hk7, rfl⟩ := sw_cases (N := 5) hs1 hs2 (by decide)
      rcases (show k = 0 ∨ k = 1 ∨ k = 2 ∨ k = 3 ∨ k = 4 ∨ k = 5 by omega) with rfl | rfl | rfl | rfl | rfl | rfl
      · refine lv_tableIn (tgt := 40) C.1 C.2.1 dX10_count_1 hs1 hs2 rfl (by decide) ?_
        refine lv_aload_n C.1 C.2.1 dX10_count_40 rfl (lv_at hl 0 rfl) ?_
        refine xs_get C hw 2 (by decide) tb_83 rfl dX10_count_41 ?_
        rw [show (oCount (pn P) (nI 0) (F, B, G, dk)) = (0, nI (pn P), (F, B, G, dk)) from rfl]
        exact ct_i C hr hlocks rfl (fun t ht hW => x_post hw ht hW) hS (Nat.le_of_ble_eq_true rfl) (Nat.le_of_ble_eq_true rfl) dX10_count_44
      · refine lv_tableIn (tgt := 45) C.1 C.2.1 dX10_count_1 hs1 hs2 rfl (by decide) ?_
        refine lv_aload_n C.1 C.2.1 dX10_count_45 rfl (lv_at hl 0 rfl) ?_
        refine xs_get C hw 0 (by decide) tb_81 rfl dX10_count_46 ?_
        refine xb_get C hw 2 (by decide) tb_49 rfl dX10_count_49 ?_
        rw [show (oCount (pn P) (nI 1) (F, B, G, dk)) = (0, nI dk.length, (F, B, G, dk)) from rfl]
        exact ct_i C hr hlocks rfl (fun t ht hW => x_post hw ht hW) hS (Nat.le_of_ble_eq_true rfl) (Nat.le_of_ble_eq_true rfl) dX10_count_52
      · refine lv_tableIn (tgt := 53) C.1 C.2.1 dX10_count_1 hs1 hs2 rfl (by decide) ?_
        refine lv_aload_n C.1 C.2.1 dX10_count_53 rfl (lv_at hl 0 rfl) ?_
        refine xs_get C hw 0 (by decide) tb_81 rfl dX10_count_54 ?_
        refine xb_get C hw 3 (by decide) tb_53 rfl dX10_count_57 ?_
        rw [show (oCount (pn P) (nI 2) (F, B, G, dk)) = (0, G 3, (F, B, G, dk)) from rfl]
        exact ct_i C hr hlocks rfl (fun t ht hW => x_post hw ht hW) hS (Nat.le_of_ble_eq_true rfl) (Nat.le_of_ble_eq_true rfl) dX10_count_60
      · refine lv_tableIn (tgt := 61) C.1 C.2.1 dX10_count_1 hs1 hs2 rfl (by decide) ?_
        refine lv_aload_n C.1 C.2.1 dX10_count_61 rfl (lv_at hl 0 rfl) ?_
        refine xs_get C hw 0 (by decide) tb_81 rfl dX10_count_62 ?_
        refine xb_get C hw 4 (by decide) tb_57 rfl dX10_count_65 ?_
        refine lv_if_eq (tgt := 75) C.1 C.2.1 dX10_count_68 (by decide) (fun h1 => ?_) (fun h1 => ?_)
        · refine lv_iconst (v := 0) C.1 C.2.1 dX10_count_75 (by decide) ?_
          rw [show (oCount (pn P) (nI 3) (F, B, G, dk)) = (0, 0, (F, B, G, dk)) from congrArg (fun v : Int32 => ((0, v, (F, B, G, dk)) : R3)) (if_pos h1)]
          exact ct_i C hr hlocks rfl (fun t ht hW => x_post hw ht hW) hS (Nat.le_of_ble_eq_true rfl) (Nat.le_of_ble_eq_true rfl) dX10_count_76
        · refine lv_iconst (v := 1) C.1 C.2.1 dX10_count_71 (by decide) ?_
          refine lv_goto (tgt := 76) C.1 C.2.1 dX10_count_72 (by decide) ?_
          rw [show (oCount (pn P) (nI 3) (F, B, G, dk)) = (0, 1, (F, B, G, dk)) from congrArg (fun v : Int32 => ((0, v, (F, B, G, dk)) : R3)) (if_neg h1)]
          exact ct_i C hr hlocks rfl (fun t ht hW => x_post hw ht hW) hS (Nat.le_of_ble_eq_true rfl) (Nat.le_of_ble_eq_true rfl) dX10_count_76
      · refine lv_tableIn (tgt := 77) C.1 C.2.1 dX10_count_1 hs1 hs2 rfl (by decide) ?_
        refine lv_aload_n C.1 C.2.1 dX10_count_77 rfl (lv_at hl 0 rfl) ?_
        refine xs_get C hw 0 (by decide) tb_81 rfl dX10_count_78 ?_
        refine xb_get C hw 5 (by decide) tb_60 rfl dX10_count_81 ?_
        rw [show (oCount (pn P) (nI 4) (F, B, G, dk)) = (0, G 5, (F, B, G, dk)) from rfl]
        exact ct_i C hr hlocks rfl (fun t ht hW => x_post hw ht hW) hS (Nat.le_of_ble_eq_true rfl) (Nat.le_of_ble_eq_true rfl) dX10_count_84
      · refine lv_tableIn (tgt := 85) C.1 C.2.1 dX10_count_1 hs1 hs2 rfl (by decide) ?_
        refine lv_aload_n C.1 C.2.1 dX10_count_85 rfl (lv_at hl 0 rfl) ?_
        refine xs_get C hw 0 (by decide) tb_81 rfl dX10_count_86 ?_
        refine xb_get C hw 6 (by decide) tb_63 rfl dX10_count_89 ?_
        rw [show (oCount (pn P) (nI 5) (F, B, G, dk)) = (0, G 6, (F, B, G, dk)) from rfl]
        exact ct_i C hr hlocks rfl (fun t ht hW => x_post hw ht hW) hS (Nat.le_of_ble_eq_true rfl) (Nat.le_of_ble_eq_true rfl) dX10_count_92
set_option maxHeartbeats 400000 in
set_option maxRecDepth 100000 in
/-- it swings open, or shuts -/
theorem c_X10_swing (l : Launch) (D : va_G) (A : Nat → Prop) (P : SwP) (F : Nat → Nat → Int32) (B G : Nat → Int32) (dk : List Nat) (b : Int32) (hb : b = 0 ∨ b = 1) (hlt : l.stackTraces = false) (hI : Inv P (F, B, G, dk)) : Ct l yX10_swing (.code yX10_swing cX10_swing 3 (some .int)) ({ frames := 9, cells := 2, slots := 12, locals := 200 }) A [.ref (pS P), .int b] (fun U => Ev A U ∧ Xp D A P F B G dk U) (ocE (oSwing b (F, B, G, dk)).1 (some (.int (oSwing b (F, B, G, dk)).2.1))) (Xp D A P (oSwing b (F, B, G, dk)).2.2.1 (oSwing b (F, B, G, dk)).2.2.2.1 (oSwing b (F, B, G, dk)).2.2.2.2.1 (oSwing b (F, B, G, dk)).2.2.2.2.2) := by
  refine ct_mk (by decide) (Nat.le_of_ble_eq_true rfl) (fun p e s m below meth c ls C hr hlocks hnm htab hP hl => ?_)
  obtain ⟨hE, hw⟩ := hP
  have hS : va_S A s.heap s.heap [] := va_S.rf
  have hl : lv_has ls 3 [(0, .ref (pS P)), (1, .int b)] := hl
  have hO : Ok P F dk := hI.1
  refine lv_iload_n C.1 C.2.1 dX10_swing_0 rfl (lv_at hl 1 rfl) ?_
  refine lv_if_eq (tgt := 17) C.1 C.2.1 dX10_swing_1 (by decide) (fun h1 => ?_) (fun h1 => ?_)
  · refine lv_iload_n C.1 C.2.1 dX10_swing_17 rfl (lv_at hl 1 rfl) ?_
    refine lv_aload_n C.1 C.2.1 dX10_swing_18 rfl (lv_at hl 0 rfl) ?_
    refine xs_get C hw 0 (by decide) tb_81 rfl dX10_swing_19 ?_
    refine xb_get C hw 4 (by decide) tb_57 rfl dX10_swing_22 ?_
    refine lv_icmp_ne (tgt := 32) C.1 C.2.1 dX10_swing_25 (by decide) (fun h2 => ?_) (fun h2 => ?_)
    · refine lv_iconst (v := 0) C.1 C.2.1 dX10_swing_32 (by decide) ?_
      refine lv_istore_n (lv' := [(2, .int (0)), (0, .ref (pS P)), (1, .int (b))]) C.1 C.2.1 dX10_swing_33 rfl hl (by decide) rfl (fun ls hl => ?_)
      refine lv_aload_n C.1 C.2.1 dX10_swing_34 rfl (lv_at hl 1 rfl) ?_
      refine xs_get C hw 0 (by decide) tb_81 rfl dX10_swing_35 ?_
      refine lv_iload_n C.1 C.2.1 dX10_swing_38 rfl (lv_at hl 2 rfl) ?_
      refine lv_if_ne (tgt := 46) C.1 C.2.1 dX10_swing_39 (by decide) (fun h3 => ?_) (fun h3 => ?_)
      · refine lv_iconst (v := 0) C.1 C.2.1 dX10_swing_46 (by decide) ?_
        refine xb_putz C hw hS tb_57 (by decide) dX10_swing_47 (fun H locs hw hS => ?_)
        refine lv_iload_n C.1 C.2.1 dX10_swing_50 rfl (lv_at hl 0 rfl) ?_
        refine lv_if_eq (tgt := 58) C.1 C.2.1 dX10_swing_51 (by decide) (fun h4 => ?_) (fun h4 => ?_)
        · refine lv_iconst (v := 0) C.1 C.2.1 dX10_swing_58 (by decide) ?_
          exact absurd h1 h3
        · refine lv_iconst (v := 1) C.1 C.2.1 dX10_swing_54 (by decide) ?_
          refine lv_goto (tgt := 59) C.1 C.2.1 dX10_swing_55 (by decide) ?_
          exact absurd rfl h4
      · refine lv_iconst (v := 1) C.1 C.2.1 dX10_swing_42 (by decide) ?_
        refine lv_goto (tgt := 47) C.1 C.2.1 dX10_swing_43 (by decide) ?_
        refine xb_putz C hw hS tb_57 (by decide) dX10_swing_47 (fun H locs hw hS => ?_)
        refine lv_iload_n C.1 C.2.1 dX10_swing_50 rfl (lv_at hl 0 rfl) ?_
        refine lv_if_eq (tgt := 58) C.1 C.2.1 dX10_swing_51 (by decide) (fun h4 => ?_) (fun h4 => ?_)
        · refine lv_iconst (v := 0) C.1 C.2.1 dX10_swing_58 (by decide) ?_
          rw [show (oSwing b (F, B, G, dk)) = (0, 0, F, B, upd G 4 1, dk) from (if_neg (fun q => q.1 h1)).trans (by rw [if_neg h2, if_pos h3])]
          exact ct_i C hr hlocks rfl (fun t ht hW => x_post hw ht hW) hS (Nat.le_of_ble_eq_true rfl) (Nat.le_of_ble_eq_true rfl) dX10_swing_59
        · refine lv_iconst (v := 1) C.1 C.2.1 dX10_swing_54 (by decide) ?_
          refine lv_goto (tgt := 59) C.1 C.2.1 dX10_swing_55 (by decide) ?_
          exact absurd rfl h4
    · refine lv_iconst (v := 1) C.1 C.2.1 dX10_swing_28 (by decide) ?_
      refine lv_goto (tgt := 33) C.1 C.2.1 dX10_swing_29 (by decide) ?_
      refine lv_istore_n (lv' := [(2, .int (1)), (0, .ref (pS P)), (1, .int (b))]) C.1 C.2.1 dX10_swing_33 rfl hl (by decide) rfl (fun ls hl => ?_)
      refine lv_aload_n C.1 C.2.1 dX10_swing_34 rfl (lv_at hl 1 rfl) ?_
      refine xs_get C hw 0 (by decide) tb_81 rfl dX10_swing_35 ?_
      refine lv_iload_n C.1 C.2.1 dX10_swing_38 rfl (lv_at hl 2 rfl) ?_
      refine lv_if_ne (tgt := 46) C.1 C.2.1 dX10_swing_39 (by decide) (fun h3 => ?_) (fun h3 => ?_)
      · refine lv_iconst (v := 0) C.1 C.2.1 dX10_swing_46 (by decide) ?_
        refine xb_putz C hw hS tb_57 (by decide) dX10_swing_47 (fun H locs hw hS => ?_)
        refine lv_iload_n C.1 C.2.1 dX10_swing_50 rfl (lv_at hl 0 rfl) ?_
        refine lv_if_eq (tgt := 58) C.1 C.2.1 dX10_swing_51 (by decide) (fun h4 => ?_) (fun h4 => ?_)
        · refine lv_iconst (v := 0) C.1 C.2.1 dX10_swing_58 (by decide) ?_
          exact absurd h4 (by decide)
        · refine lv_iconst (v := 1) C.1 C.2.1 dX10_swing_54 (by decide) ?_
          refine lv_goto (tgt := 59) C.1 C.2.1 dX10_swing_55 (by decide) ?_
          exact absurd h1 h3
      · refine lv_iconst (v := 1) C.1 C.2.1 dX10_swing_42 (by decide) ?_
        refine lv_goto (tgt := 47) C.1 C.2.1 dX10_swing_43 (by decide) ?_
        refine xb_putz C hw hS tb_57 (by decide) dX10_swing_47 (fun H locs hw hS => ?_)
        refine lv_iload_n C.1 C.2.1 dX10_swing_50 rfl (lv_at hl 0 rfl) ?_
        refine lv_if_eq (tgt := 58) C.1 C.2.1 dX10_swing_51 (by decide) (fun h4 => ?_) (fun h4 => ?_)
        · refine lv_iconst (v := 0) C.1 C.2.1 dX10_swing_58 (by decide) ?_
          exact absurd h4 (by decide)
        · refine lv_iconst (v := 1) C.1 C.2.1 dX10_swing_54 (by decide) ?_
          refine lv_goto (tgt := 59) C.1 C.2.1 dX10_swing_55 (by decide) ?_
          rw [show (oSwing b (F, B, G, dk)) = (0, 1, F, B, upd G 4 1, dk) from (if_neg (fun q => q.1 h1)).trans (by rw [if_pos h2, if_pos h3])]
          exact ct_i C hr hlocks rfl (fun t ht hW => x_post hw ht hW) hS (Nat.le_of_ble_eq_true rfl) (Nat.le_of_ble_eq_true rfl) dX10_swing_59
  · refine lv_aload_n C.1 C.2.1 dX10_swing_4 rfl (lv_at hl 0 rfl) ?_
    refine xs_get C hw 0 (by decide) tb_81 rfl dX10_swing_5 ?_
    refine xb_get C hw 2 (by decide) tb_49 rfl dX10_swing_8 ?_
    refine lv_if_le (tgt := 17) C.1 C.2.1 dX10_swing_11 (by decide) (fun h2 => ?_) (fun h2 => ?_)
    · refine lv_iload_n C.1 C.2.1 dX10_swing_17 rfl (lv_at hl 1 rfl) ?_
      refine lv_aload_n C.1 C.2.1 dX10_swing_18 rfl (lv_at hl 0 rfl) ?_
      refine xs_get C hw 0 (by decide) tb_81 rfl dX10_swing_19 ?_
      refine xb_get C hw 4 (by decide) tb_57 rfl dX10_swing_22 ?_
      refine lv_icmp_ne (tgt := 32) C.1 C.2.1 dX10_swing_25 (by decide) (fun h3 => ?_) (fun h3 => ?_)
      · refine lv_iconst (v := 0) C.1 C.2.1 dX10_swing_32 (by decide) ?_
        refine lv_istore_n (lv' := [(2, .int (0)), (0, .ref (pS P)), (1, .int (b))]) C.1 C.2.1 dX10_swing_33 rfl hl (by decide) rfl (fun ls hl => ?_)
        refine lv_aload_n C.1 C.2.1 dX10_swing_34 rfl (lv_at hl 1 rfl) ?_
        refine xs_get C hw 0 (by decide) tb_81 rfl dX10_swing_35 ?_
        refine lv_iload_n C.1 C.2.1 dX10_swing_38 rfl (lv_at hl 2 rfl) ?_
        refine lv_if_ne (tgt := 46) C.1 C.2.1 dX10_swing_39 (by decide) (fun h4 => ?_) (fun h4 => ?_)
        · refine lv_iconst (v := 0) C.1 C.2.1 dX10_swing_46 (by decide) ?_
          refine xb_putz C hw hS tb_57 (by decide) dX10_swing_47 (fun H locs hw hS => ?_)
          refine lv_iload_n C.1 C.2.1 dX10_swing_50 rfl (lv_at hl 0 rfl) ?_
          refine lv_if_eq (tgt := 58) C.1 C.2.1 dX10_swing_51 (by decide) (fun h5 => ?_) (fun h5 => ?_)
          · refine lv_iconst (v := 0) C.1 C.2.1 dX10_swing_58 (by decide) ?_
            rw [show (oSwing b (F, B, G, dk)) = (0, 0, F, B, upd G 4 0, dk) from (if_neg (fun q => q.2 (le0_nil h2 hO.len))).trans (by rw [if_neg h3, if_neg h4])]
            exact ct_i C hr hlocks rfl (fun t ht hW => x_post hw ht hW) hS (Nat.le_of_ble_eq_true rfl) (Nat.le_of_ble_eq_true rfl) dX10_swing_59
          · refine lv_iconst (v := 1) C.1 C.2.1 dX10_swing_54 (by decide) ?_
            refine lv_goto (tgt := 59) C.1 C.2.1 dX10_swing_55 (by decide) ?_
            exact absurd rfl h5
        · refine lv_iconst (v := 1) C.1 C.2.1 dX10_swing_42 (by decide) ?_
          refine lv_goto (tgt := 47) C.1 C.2.1 dX10_swing_43 (by decide) ?_
          refine xb_putz C hw hS tb_57 (by decide) dX10_swing_47 (fun H locs hw hS => ?_)
          refine lv_iload_n C.1 C.2.1 dX10_swing_50 rfl (lv_at hl 0 rfl) ?_
          refine lv_if_eq (tgt := 58) C.1 C.2.1 dX10_swing_51 (by decide) (fun h5 => ?_) (fun h5 => ?_)
          · refine lv_iconst (v := 0) C.1 C.2.1 dX10_swing_58 (by decide) ?_
            exact absurd h4 h1
          · refine lv_iconst (v := 1) C.1 C.2.1 dX10_swing_54 (by decide) ?_
            refine lv_goto (tgt := 59) C.1 C.2.1 dX10_swing_55 (by decide) ?_
            exact absurd rfl h5
      · refine lv_iconst (v := 1) C.1 C.2.1 dX10_swing_28 (by decide) ?_
        refine lv_goto (tgt := 33) C.1 C.2.1 dX10_swing_29 (by decide) ?_
        refine lv_istore_n (lv' := [(2, .int (1)), (0, .ref (pS P)), (1, .int (b))]) C.1 C.2.1 dX10_swing_33 rfl hl (by decide) rfl (fun ls hl => ?_)
        refine lv_aload_n C.1 C.2.1 dX10_swing_34 rfl (lv_at hl 1 rfl) ?_
        refine xs_get C hw 0 (by decide) tb_81 rfl dX10_swing_35 ?_
        refine lv_iload_n C.1 C.2.1 dX10_swing_38 rfl (lv_at hl 2 rfl) ?_
        refine lv_if_ne (tgt := 46) C.1 C.2.1 dX10_swing_39 (by decide) (fun h4 => ?_) (fun h4 => ?_)
        · refine lv_iconst (v := 0) C.1 C.2.1 dX10_swing_46 (by decide) ?_
          refine xb_putz C hw hS tb_57 (by decide) dX10_swing_47 (fun H locs hw hS => ?_)
          refine lv_iload_n C.1 C.2.1 dX10_swing_50 rfl (lv_at hl 0 rfl) ?_
          refine lv_if_eq (tgt := 58) C.1 C.2.1 dX10_swing_51 (by decide) (fun h5 => ?_) (fun h5 => ?_)
          · refine lv_iconst (v := 0) C.1 C.2.1 dX10_swing_58 (by decide) ?_
            exact absurd h5 (by decide)
          · refine lv_iconst (v := 1) C.1 C.2.1 dX10_swing_54 (by decide) ?_
            refine lv_goto (tgt := 59) C.1 C.2.1 dX10_swing_55 (by decide) ?_
            rw [show (oSwing b (F, B, G, dk)) = (0, 1, F, B, upd G 4 0, dk) from (if_neg (fun q => q.2 (le0_nil h2 hO.len))).trans (by rw [if_pos h3, if_neg h4])]
            exact ct_i C hr hlocks rfl (fun t ht hW => x_post hw ht hW) hS (Nat.le_of_ble_eq_true rfl) (Nat.le_of_ble_eq_true rfl) dX10_swing_59
        · refine lv_iconst (v := 1) C.1 C.2.1 dX10_swing_42 (by decide) ?_
          refine lv_goto (tgt := 47) C.1 C.2.1 dX10_swing_43 (by decide) ?_
          refine xb_putz C hw hS tb_57 (by decide) dX10_swing_47 (fun H locs hw hS => ?_)
          refine lv_iload_n C.1 C.2.1 dX10_swing_50 rfl (lv_at hl 0 rfl) ?_
          refine lv_if_eq (tgt := 58) C.1 C.2.1 dX10_swing_51 (by decide) (fun h5 => ?_) (fun h5 => ?_)
          · refine lv_iconst (v := 0) C.1 C.2.1 dX10_swing_58 (by decide) ?_
            exact absurd h5 (by decide)
          · refine lv_iconst (v := 1) C.1 C.2.1 dX10_swing_54 (by decide) ?_
            refine lv_goto (tgt := 59) C.1 C.2.1 dX10_swing_55 (by decide) ?_
            exact absurd h4 h1
    · refine lv_bipush (v := -103) C.1 C.2.1 dX10_swing_14 (by decide) ?_
      rw [show (oSwing b (F, B, G, dk)) = (0, -103, (F, B, G, dk)) from if_pos ⟨h1, fun q => h2 (by rw [show dk = [] from q]; exact Int32.le_refl 0)⟩]
      exact ct_i C hr hlocks rfl (fun t ht hW => x_post hw ht hW) hS (Nat.le_of_ble_eq_true rfl) (Nat.le_of_ble_eq_true rfl) dX10_swing_16
end
section
/-! WHAT STAYS TRUE of the state -/
section InvS
variable {P : SwP} {F : Nat → Nat → Int32} {B G B' G' : Nat → Int32} {dk : List Nat} {i : Nat} {h : Int32}
theorem uF_self {k : Nat} {v : Int32} : uF F i k v i k = v := if_pos ⟨rfl, rfl⟩
theorem uF_k {a k b : Nat} {v : Int32} (q : b ≠ k) : uF F i k v a b = F a b := if_neg (fun z => q z.2)
theorem uF_a {a k b : Nat} {v : Int32} (q : a ≠ i) : uF F i k v a b = F a b := if_neg (fun z => q z.1)
theorem Inv.cnt (hI : Inv P (F, B, G, dk)) (h3 : G' 3 = G 3) (h4 : G' 4 = G 4) : Inv P (F, B', G', dk) := by
  obtain ⟨i1, i2, i3, i4, i5, i6, i7, i8⟩ := hI
  exact ⟨i1, by show G' 4 = 0 ∨ G' 4 = 1; rw [h4]; exact i2, i3, i4, by show G' 4 = 0 → _; rw [h4]; exact i5, by show ∃ g : Nat, g ≤ 9000 ∧ G' 3 = nI g; rw [h3]; exact i6, i7, i8⟩
theorem Inv.uf {k : Nat} {v : Int32} (hI : Inv P (F, B, G, dk)) (hi : i < pn P) (h2 : k ≠ 2) (h4 : k ≠ 4) (h6 : k ≠ 6) : Inv P (uF F i k v, B, G, dk) := by
  obtain ⟨i1, i2, i3, i4, i5, i6, i7, i8⟩ := hI
  exact ⟨i1.uf h2, i2, fun j hj => (uF_k h6.symm).trans (i3 j hj), fun j hj hn => (uF_k h6.symm).trans (i4 j hj hn), i5, i6, fun j hj => by show uF F i k v j 4 ≤ 100; rw [uF_k h4.symm]; exact i7 j hj, fun a ha b => (uF_a (fun q => by omega)).trans (i8 a ha b)⟩
theorem fR_shut {K : Nat → Nat} (q : fR K F G dk i = true) : G 4 ≠ 0 := by
  have hp : ∀ {b : Bool}, (fP K F G dk i && b) = true → G 4 ≠ 0 := fun {b} hb => (of_decide_eq_true (Bool.and_eq_true_iff.mp hb).1).1
  unfold fR at q
  by_cases h5 : K i = 5
  · rw [if_pos h5] at q; exact hp q
  · rw [if_neg h5] at q
    by_cases h7 : K i = 7
    · rw [if_pos h7] at q; exact hp q
    · rw [if_neg h7] at q
      by_cases h8 : K i = 8
      · rw [if_pos h8] at q; exact of_decide_eq_true q
      · rw [if_neg h8] at q; exact (of_decide_eq_true q).1
theorem pE_inv {K : Nat → Nat} (hI : Inv P (F, B, G, dk)) (hi : i < pn P) (hn : i ∉ dk) : Inv P (pE K i h (F, B, G, dk)).2 := by
  cases h1 : fR K F G dk i with
  | false => rw [pE_s h1]; exact hI.cnt rfl rfl
  | true =>
    cases h2 : tX (K i) F i with
    | true => rw [pE_x h1 h2]; exact hI.cnt rfl rfl
    | false =>
      rw [pE_0 h1 h2]
      have hI2 : Inv P (uF (uF F i 7 (F i 7 + tR (K i) F i h)) i 8 (F i 8 + 1), tB (K i) h (fB K dk i (iB B 0)), G, dk) := (((hI.uf hi (by decide) (by decide) (by decide)).uf hi (by decide) (by decide) (by decide)).cnt rfl rfl)
      obtain ⟨i1, i2, i3, i4, i5, i6, i7, i8⟩ := hI2
      refine ⟨⟨i1.1, i1.2.1, fun j hj => (uF_k (by decide)).trans (i1.2.2.1 j hj), fun v hv => ?_, ?_⟩, i2, fun j hj => ?_, fun j hj hj2 => ?_, fun q => absurd q (fR_shut h1), i6, fun j hj => ?_, fun a ha b => (uF_a (fun q => by omega)).trans (i8 a ha b)⟩
      · rcases List.mem_append.mp hv with q | q
        · exact i1.2.2.2.1 v q
        · rw [List.mem_singleton.mp q]; exact hi
      · exact List.nodup_append.mpr ⟨i1.2.2.2.2, List.nodup_cons.mpr ⟨List.not_mem_nil, List.nodup_nil⟩, fun a ha b hb q => hn (by rw [← List.mem_singleton.mp hb, ← q]; exact ha)⟩
      · by_cases q : j = i
        · rw [q]; exact uF_self
        · refine (uF_a q).trans (i3 j ?_)
          rcases List.mem_append.mp hj with q2 | q2
          · exact q2
          · exact absurd (List.mem_singleton.mp q2) q
      · have q : j ≠ i := fun q => hj2 (List.mem_append_right _ (by rw [q]; exact List.mem_singleton.mpr rfl))
        exact (uF_a q).trans (i4 j hj (fun q2 => hj2 (List.mem_append_left _ q2)))
      · show uF _ i 6 1 j 4 ≤ 100
        rw [uF_k (by decide)]; exact i7 j hj
theorem mx_lim {g : Nat} (hg : g ≤ 9000) : mx (nI g - 100) 0 = nI (g - 100) := by
  unfold mx
  by_cases q : 100 ≤ g
  · rw [show nI g - 100 = nI (g - 100) from pk_sub q, if_neg (nI_pos (by omega))]
  · rw [if_pos (show nI g - 100 < 0 from pk_sneg (a := g) (b := 100) (by omega) (by omega)), show g - 100 = 0 by omega]
    rfl
theorem mn_lim {g : Nat} (hg : g ≤ 9000) : ∃ g' : Nat, g' ≤ 9000 ∧ mn (nI g + 100) 9000 = nI g' := by
  unfold mn
  rw [show nI g + 100 = nI (g + 100) from nI_add g 100]
  by_cases q : (9000 : Int32) < nI (g + 100)
  · exact ⟨9000, by omega, by rw [if_pos q]; rfl⟩
  · refine ⟨g + 100, ?_, by rw [if_neg q]⟩
    exact Nat.le_of_not_lt (fun z => q (show nI 9000 < nI (g + 100) from nI_lt z (by omega)))
theorem eT_inv {r : Nat × SwSt} (hI : Inv P r.2) : Inv P (eT r).2 := by
  unfold eT
  by_cases q : r.1 = 0
  · rw [if_pos q]
    obtain ⟨i1, i2, i3, i4, i5, ⟨g, hg, e⟩, i7, i8⟩ := hI
    exact ⟨i1, i2, i3, i4, i5, ⟨g - 100, by omega, by show mx (r.2.2.2.1 3 - 100) 0 = _; rw [e]; exact mx_lim hg⟩, i7, i8⟩
  · rw [if_neg q]; exact hI
theorem eN_inv {K : Nat → Nat} (hI : Inv P (F, B, G, dk)) (hi : i < pn P) (hn : i ∉ dk) : Inv P (eN K i h (F, B, G, dk)).2 := by
  unfold eN
  by_cases h3 : K i = 3
  · rw [if_pos h3]; exact pE_inv ((hI.uf hi (by decide) (by decide) (by decide)).cnt rfl rfl) hi hn
  · rw [if_neg h3]
    by_cases h5 : K i = 5
    · rw [if_pos h5]; exact eT_inv (pE_inv (hI.cnt rfl rfl) hi hn)
    · rw [if_neg h5]
      by_cases h6 : K i = 6 ∨ K i = 7
      · rw [if_pos h6]; exact pE_inv ((hI.uf hi (by decide) (by decide) (by decide)).cnt rfl rfl) hi hn
      · rw [if_neg h6]
        by_cases h8 : K i = 8
        · rw [if_pos h8]
          unfold eC
          have hI2 : Inv P (F, iB B 8, G, dk) := hI.cnt rfl rfl
          by_cases q : (pE K i h (F, iB B 8, G, dk)).1 = 1
          · rw [if_pos q, pE_1 q]
            exact pE_inv (hI2.cnt rfl rfl) hi hn
          · rw [if_neg q]; exact pE_inv hI2 hi hn
        · rw [if_neg h8]; exact pE_inv hI hi hn
theorem lP_inv (hI : Inv P (F, B, G, dk)) (hi : i < pn P) : Inv P (uF F i 6 0, B, G, dk.erase i) := by
  obtain ⟨i1, i2, i3, i4, i5, i6, i7, i8⟩ := hI
  have hnd : dk.Nodup := i1.2.2.2.2
  refine ⟨(i1.uf (by decide)).er, i2, fun j hj => ?_, fun j hj hj2 => ?_, fun q => by show dk.erase i = []; rw [show dk = [] from i5 q]; rfl, i6, fun j hj => ?_, fun a ha b => (uF_a (fun q => by omega)).trans (i8 a ha b)⟩
  · have q := hnd.mem_erase_iff.mp hj
    exact (uF_a q.1).trans (i3 j q.2)
  · by_cases q : j = i
    · rw [q]; exact uF_self
    · exact (uF_a q).trans (i4 j hj (fun q2 => hj2 (hnd.mem_erase_iff.mpr ⟨q, q2⟩)))
  · show uF F i 6 0 j 4 ≤ 100
    rw [uF_k (by decide)]; exact i7 j hj
theorem lR_inv {K : Nat → Nat} (hI : Inv P (F, B, G, dk)) (hi : i < pn P) : Inv P (lR K i (F, B, G, dk)) := by
  have h0 := lP_inv hI hi
  unfold lR
  by_cases h3 : K i = 3
  · rw [if_pos h3]; exact (h0.uf hi (by decide) (by decide) (by decide)).cnt rfl rfl
  · rw [if_neg h3]
    by_cases h5 : K i = 5
    · rw [if_pos h5]
      obtain ⟨i1, i2, i3, i4, i5, ⟨g, hg, e⟩, i7, i8⟩ := (h0.uf (k := 5) (v := F i 5 / 2) hi (by decide) (by decide) (by decide))
      refine ⟨i1, i2, i3, i4, i5, ?_, i7, i8⟩
      show ∃ g : Nat, g ≤ 9000 ∧ mn (G 3 + 100) 9000 = nI g
      rw [show G 3 = nI g from e]
      exact mn_lim hg
    · rw [if_neg h5]
      by_cases h4 : K i = 4 ∨ K i = 6 ∨ K i = 7
      · rw [if_pos h4]; exact (h0.uf hi (by decide) (by decide) (by decide)).cnt rfl rfl
      · rw [if_neg h4]; exact h0.cnt rfl rfl
/-- all on the row leave; all ashore enter -/
def clr (K : Nat → Nat) : Nat → SwSt → SwSt
  | 0, z => z
  | k + 1, z => match z.2.2.2 with
    | [] => z
    | v :: _ => clr K k (lR K v z)
def rsh (K : Nat → Nat) (h : Int32) : Nat → Nat → Int32 → SwSt → Int32 × SwSt
  | 0, _, c, z => (c, z)
  | k + 1, j, c, z => if z.1 j 6 = 0 then rsh K h k (j + 1) (if (eN K j h z).1 = 0 then c + 1 else c) (eN K j h z).2 else rsh K h k (j + 1) c z
def oClear (K : Nat → Nat) (z : SwSt) : R3 := (0, nI z.2.2.2.length, clr K z.2.2.2.length z)
def oRush (K : Nat → Nat) (n : Nat) (h : Int32) (z : SwSt) : R3 := if outs h 0 23 = true then (0, -102, z) else (0, rsh K h n 0 0 z)
theorem lR_dk {K : Nat → Nat} {z : SwSt} : (lR K i z).2.2.2 = z.2.2.2.erase i := by
  unfold lR
  split
  · rfl
  · split
    · rfl
    · split <;> rfl
theorem clr_inv {K : Nat → Nat} : ∀ (k : Nat) (z : SwSt), Inv P z → Inv P (clr K k z)
  | 0, z, hI => hI
  | k + 1, (F, B, G, []), hI => hI
  | k + 1, (F, B, G, v :: t), hI => clr_inv k _ (lR_inv hI (hI.1.2.2.2.1 v List.mem_cons_self))
theorem rsh_inv {K : Nat → Nat} : ∀ (k j : Nat) (c : Int32) (z : SwSt), j + k ≤ pn P → Inv P z → Inv P (rsh K h k j c z).2
  | 0, j, c, z, _, hI => hI
  | k + 1, j, c, (F, B, G, dk), hk, hI => by
    unfold rsh
    by_cases q : F j 6 = 0
    · rw [if_pos q]
      exact rsh_inv k (j + 1) _ _ (by omega) (eN_inv hI (by omega) (fun q2 => absurd ((hI.2.2.1 j q2).symm.trans q) (by decide)))
    · rw [if_neg q]
      exact rsh_inv k (j + 1) _ _ (by omega) hI
end InvS
end
section
set_option maxHeartbeats 400000 in
set_option maxRecDepth 100000 in
/-- all on the DECK LEAVE -/
theorem c_X10_clear (l : Launch) (D : va_G) (A : Nat → Prop) (P : SwP) (F : Nat → Nat → Int32) (B G : Nat → Int32) (dk : List Nat) (hlt : l.stackTraces = false) (hI : Inv P (F, B, G, dk)) : Ct l yX10_clear (.code yX10_clear cX10_clear 4 (some .int)) ({ frames := 9, cells := 2, slots := 12, locals := 200 }) A [.ref (pS P)] (fun U => Ev A U ∧ Xp D A P F B G dk U) (ocE (oClear (pk P) (F, B, G, dk)).1 (some (.int (oClear (pk P) (F, B, G, dk)).2.1))) (Xp D A P (oClear (pk P) (F, B, G, dk)).2.2.1 (oClear (pk P) (F, B, G, dk)).2.2.2.1 (oClear (pk P) (F, B, G, dk)).2.2.2.2.1 (oClear (pk P) (F, B, G, dk)).2.2.2.2.2) := by
  refine ct_mk (by decide) (Nat.le_of_ble_eq_true rfl) (fun p e s m below meth c ls C hr hlocks hnm htab hP hl => ?_)
  obtain ⟨hE, hw⟩ := hP
  have hS : va_S A s.heap s.heap [] := va_S.rf
  have hl : lv_has ls 4 [(0, .ref (pS P))] := hl
  have hL : dk.length ≤ 24 := hI.1.len
  have loop : ∀ (k j : Nat), j + k = dk.length → ∀ (x : Int32) (F1 : Nat → Nat → Int32) (B1 G1 : Nat → Int32) (d1 : List Nat), x = nI j → d1.length = k → Inv P (F1, B1, G1, d1) → clr (pk P) k (F1, B1, G1, d1) = clr (pk P) dk.length (F, B, G, dk) → ∀ (H : Heap) (locs : List Loc), XwR D A P F1 B1 G1 (nI d1.length) (dfd P d1) s H → va_S A s.heap H locs → ∀ ls : Array Slot, lv_has ls 4 [(2, .int x), (1, .int (nI dk.length)), (0, .ref (pS P))] → W p l e ({ frames := 9, cells := 2, slots := 12, locals := 200 }) s m ([.ref (pS P)] : List Value).toArray below meth c H locs 0 0 (CtQ below s ([.ref (pS P)] : List Value).toArray ({ frames := 9, cells := 2, slots := 12, locals := 200 }) A (ocE (oClear (pk P) (F, B, G, dk)).1 (some (.int (oClear (pk P) (F, B, G, dk)).2.1))) (Xp D A P (oClear (pk P) (F, B, G, dk)).2.2.1 (oClear (pk P) (F, B, G, dk)).2.2.2.1 (oClear (pk P) (F, B, G, dk)).2.2.2.2.1 (oClear (pk P) (F, B, G, dk)).2.2.2.2.2)) (F0 m 10 ls []) := by
    intro k
    induction k with
    | zero =>
      intro j hj x F1 B1 G1 d1 hx hd hI1 hc H locs hw hS ls hl
      have hj : j = dk.length := by omega
      refine lv_iload_n C.1 C.2.1 dX10_clear_10 rfl (lv_at hl 0 rfl) ?_
      refine lv_iload_n C.1 C.2.1 dX10_clear_11 rfl (lv_at hl 1 rfl) ?_
      refine lv_icmp_ge (tgt := 38) C.1 C.2.1 dX10_clear_12 (by decide) (fun h1 => ?_) (fun h1 => ?_)
      · refine lv_iload_n C.1 C.2.1 dX10_clear_38 rfl (lv_at hl 1 rfl) ?_
        have hc : (F1, B1, G1, d1) = clr (pk P) dk.length (F, B, G, dk) := hc
        rw [show (oClear (pk P) (F, B, G, dk)) = (0, nI dk.length, F1, B1, G1, d1) by unfold oClear; rw [hc]]
        exact ct_i C hr hlocks rfl (fun t ht hW => x_post hw ht hW) hS (Nat.le_of_ble_eq_true rfl) (Nat.le_of_ble_eq_true rfl) dX10_clear_39
      · exact absurd (by rw [hx, hj]; exact Int32.le_refl _) h1
    | succ k ih =>
      intro j hj x F1 B1 G1 d1 hx hd hI1 hc H locs hw hS ls hl
      cases d1 with
      | nil => exact absurd hd (by simp)
      | cons v t1 =>
        have hO1 : Ok P F1 (v :: t1) := hI1.1
        have hv : v < pn P := hO1.2.2.2.1 v List.mem_cons_self
        have hkv : pk P v < 9 := hO1.2.1 v hv
        refine lv_iload_n C.1 C.2.1 dX10_clear_10 rfl (lv_at hl 0 rfl) ?_
        refine lv_iload_n C.1 C.2.1 dX10_clear_11 rfl (lv_at hl 1 rfl) ?_
        refine lv_icmp_ge (tgt := 38) C.1 C.2.1 dX10_clear_12 (by decide) (fun h1 => ?_) (fun h1 => ?_)
        · exact absurd (by rw [hx] at h1; exact h1) (nI_ge (a := j) (b := dk.length) (by omega) (by omega))
        · refine lv_aload_n C.1 C.2.1 dX10_clear_15 rfl (lv_at hl 2 rfl) ?_
          refine xs_get C hw 0 (by decide) tb_81 rfl dX10_clear_16 ?_
          refine lv_iconst (v := 0) C.1 C.2.1 dX10_clear_19 (by decide) ?_
          have hM := c_X0_at l D A P F1 B1 G1 (v :: t1) hO1 0
          rw [show dkAt (v :: t1) 0 = some v from rfl] at hM
          refine ct_ret (ct_V0 C hM Xp_bl (Or.inl rfl) tb_668 tb_2 ⟨Nat.le_of_ble_eq_true rfl, Nat.le_of_ble_eq_true rfl⟩ tb_665 ⟨by decide, by decide⟩ tb_667 tb_666 (x_recvB hw) (fun U hU hW => x_post hw hU hW) (sig_code (C.2.2.2.2 _ tb_668)) (by show _ = some 1; decide +kernel) hl.1 rfl (Nat.le_of_ble_eq_true rfl) dX10_clear_20 ⟨Nat.le_of_ble_eq_true rfl, Nat.le_of_ble_eq_true rfl⟩) hS (fun _ h => h) (fun t H locs ht hvm hw _ _ hS => ?_)
          have hw := x_back hw ht hvm
          refine lv_astore_n (lv' := [(3, .ref (pa P v)), (2, .int (x)), (1, .int (nI dk.length)), (0, .ref (pS P))]) C.1 C.2.1 dX10_clear_23 rfl hl (by decide) rfl (fun ls hl => ?_)
          refine lv_aload_n C.1 C.2.1 dX10_clear_24 rfl (lv_at hl 0 rfl) ?_
          refine lv_ifnull C.1 C.2.1 dX10_clear_25 ?_
          refine lv_aload_n C.1 C.2.1 dX10_clear_28 rfl (lv_at hl 0 rfl) ?_
          refine ct_ret (v_leave C hw hv hkv hO1 (hE.2.1) tb_380 hl.1 dX10_clear_29 ⟨Nat.le_of_ble_eq_true rfl, Nat.le_of_ble_eq_true rfl⟩ (Nat.le_of_ble_eq_true rfl) ⟨Nat.le_of_ble_eq_true rfl, Nat.le_of_ble_eq_true rfl⟩) hS (fun _ h => h) (fun t H locs ht hvm hw _ _ hS => ?_)
          have hw := x_back hw ht hvm
          obtain ⟨x1, ex1⟩ : ∃ z : Int32, z = x + 1 := ⟨_, rfl⟩
          refine lv_iinc (v := x1) (lv' := [(2, .int (x1)), (3, .ref (pa P v)), (1, .int (nI dk.length)), (0, .ref (pS P))]) C.1 C.2.1 dX10_clear_32 hl (k := 1) rfl (by rw [ex1]; rfl) (by decide) rfl (fun ls hl => ?_)
          refine lv_goto (tgt := 10) C.1 C.2.1 dX10_clear_35 (by decide) ?_
          exact ih (j + 1) (by omega) x1 (lR (pk P) v (F1, B1, G1, v :: t1)).1 (lR (pk P) v (F1, B1, G1, v :: t1)).2.1 (lR (pk P) v (F1, B1, G1, v :: t1)).2.2.1 (lR (pk P) v (F1, B1, G1, v :: t1)).2.2.2 (by rw [ex1, hx]; exact nI_1 j) (by rw [lR_dk]; simp at hd ⊢; exact hd) (lR_inv hI1 hv) hc H locs hw hS ls (lv_sub hl [0, 2, 3] rfl)
  refine lv_aload_n C.1 C.2.1 dX10_clear_0 rfl (lv_at hl 0 rfl) ?_
  refine xs_get C hw 0 (by decide) tb_81 rfl dX10_clear_1 ?_
  refine xb_get C hw 2 (by decide) tb_49 rfl dX10_clear_4 ?_
  refine lv_istore_n (lv' := [(1, .int (nI dk.length)), (0, .ref (pS P))]) C.1 C.2.1 dX10_clear_7 rfl hl (by decide) rfl (fun ls hl => ?_)
  refine lv_iconst (v := 0) C.1 C.2.1 dX10_clear_8 (by decide) ?_
  refine lv_istore_n (lv' := [(2, .int (0)), (1, .int (nI dk.length)), (0, .ref (pS P))]) C.1 C.2.1 dX10_clear_9 rfl hl (by decide) rfl (fun ls hl => ?_)
  exact loop dk.length 0 (by omega) 0 F B G dk nI_0.symm rfl hI rfl _ _ hw hS ls hl
set_option maxHeartbeats 400000 in
set_option maxRecDepth 100000 in
/-- all ashore ENTER, by numbers -/
theorem c_X10_rush (l : Launch) (D : va_G) (A : Nat → Prop) (P : SwP) (F : Nat → Nat → Int32) (B G : Nat → Int32) (dk : List Nat) (h : Int32) (hlt : l.stackTraces = false) (hI : Inv P (F, B, G, dk)) : Ct l yX10_rush (.codeWith yX10_rush cX10_rush 6 (some .int) [((47 : Nat), (56 : Nat), (59 : Nat), (82 : Nat)), ((47 : Nat), (56 : Nat), (64 : Nat), (84 : Nat))]) ({ frames := 9, cells := 48, slots := 288, locals := 200 }) A [.ref (pS P), .int h] (fun U => Ev A U ∧ Xp D A P F B G dk U) (ocE (oRush (pk P) (pn P) h (F, B, G, dk)).1 (some (.int (oRush (pk P) (pn P) h (F, B, G, dk)).2.1))) (Xp D A P (oRush (pk P) (pn P) h (F, B, G, dk)).2.2.1 (oRush (pk P) (pn P) h (F, B, G, dk)).2.2.2.1 (oRush (pk P) (pn P) h (F, B, G, dk)).2.2.2.2.1 (oRush (pk P) (pn P) h (F, B, G, dk)).2.2.2.2.2) := by
  refine ct_mkH (by decide) (Nat.le_of_ble_eq_true rfl) (fun p e s m below meth c ls C hr hlocks htab hP hl => ?_)
  obtain ⟨hE, hw⟩ := hP
  have hS : va_S A s.heap s.heap [] := va_S.rf
  have hl : lv_has ls 6 [(0, .ref (pS P)), (1, .int h)] := hl
  have hn24 := hI.1.1
  have loop : outs h 0 23 = false → ∀ (k j : Nat), j + k = 24 → ∀ (x y : Int32) (F1 : Nat → Nat → Int32) (B1 G1 : Nat → Int32) (d1 : List Nat), x = nI j → Inv P (F1, B1, G1, d1) → rsh (pk P) h (pn P - j) j y (F1, B1, G1, d1) = rsh (pk P) h (pn P) 0 0 (F, B, G, dk) → ∀ (H : Heap) (locs : List Loc), XwR D A P F1 B1 G1 (nI d1.length) (dfd P d1) s H → va_S A s.heap H locs → ∀ (cells slots : Nat), cells + 2 * k ≤ 48 → slots + 12 * k ≤ 288 → ∀ ls : Array Slot, lv_has ls 6 [(3, .int x), (2, .int y), (0, .ref (pS P)), (1, .int h)] → W p l e ({ frames := 9, cells := 48, slots := 288, locals := 200 }) s m ([.ref (pS P), .int h] : List Value).toArray below meth c H locs cells slots (CtQ below s ([.ref (pS P), .int h] : List Value).toArray ({ frames := 9, cells := 48, slots := 288, locals := 200 }) A (ocE (oRush (pk P) (pn P) h (F, B, G, dk)).1 (some (.int (oRush (pk P) (pn P) h (F, B, G, dk)).2.1))) (Xp D A P (oRush (pk P) (pn P) h (F, B, G, dk)).2.2.1 (oRush (pk P) (pn P) h (F, B, G, dk)).2.2.2.1 (oRush (pk P) (pn P) h (F, B, G, dk)).2.2.2.2.1 (oRush (pk P) (pn P) h (F, B, G, dk)).2.2.2.2.2)) (F0 m 17 ls []) := by
    intro ho k
    induction k with
    | zero =>
      intro j hj x y F1 B1 G1 d1 hx hI1 hc H locs hw hS cells slots hcl hsl ls hl
      have hj : j = 24 := by omega
      subst hj
      rw [show pn P - 24 = 0 by omega] at hc
      refine lv_iload_n C.1 C.2.1 dX10_rush_17 rfl (lv_at hl 0 rfl) ?_
      refine lv_aload_n C.1 C.2.1 dX10_rush_18 rfl (lv_at hl 2 rfl) ?_
      refine xs_get C hw 1 (by decide) tb_82 rfl dX10_rush_19 ?_
      refine xV_len C hw dX10_rush_22 ?_
      refine lv_icmp_ge (tgt := 72) C.1 C.2.1 dX10_rush_23 (by decide) (fun h1 => ?_) (fun h1 => ?_)
      · refine lv_iload_n C.1 C.2.1 dX10_rush_72 rfl (lv_at hl 1 rfl) ?_
        have hc : (y, F1, B1, G1, d1) = rsh (pk P) h (pn P) 0 0 (F, B, G, dk) := hc
        rw [show (oRush (pk P) (pn P) h (F, B, G, dk)) = (0, y, F1, B1, G1, d1) by unfold oRush; rw [if_neg (by rw [ho]; decide), ← hc]]
        exact ct_i C hr hlocks rfl (fun t ht hW => x_post hw ht hW) hS (by show cells ≤ 48; omega) (by show slots ≤ 288; omega) dX10_rush_73
      · exact absurd (by rw [hx]; exact nI_le (Nat.le_refl 24) (by omega)) h1
    | succ k ih =>
      intro j hj x y F1 B1 G1 d1 hx hI1 hc H locs hw hS cells slots hcl hsl ls hl
      have hO1 : Ok P F1 d1 := hI1.1
      refine lv_iload_n C.1 C.2.1 dX10_rush_17 rfl (lv_at hl 0 rfl) ?_
      refine lv_aload_n C.1 C.2.1 dX10_rush_18 rfl (lv_at hl 2 rfl) ?_
      refine xs_get C hw 1 (by decide) tb_82 rfl dX10_rush_19 ?_
      refine xV_len C hw dX10_rush_22 ?_
      refine lv_icmp_ge (tgt := 72) C.1 C.2.1 dX10_rush_23 (by decide) (fun h1 => ?_) (fun h1 => ?_)
      · exact absurd (by rw [hx] at h1; exact h1) (nI_ge (a := j) (b := 24) (by omega) (by omega))
      · refine lv_aload_n C.1 C.2.1 dX10_rush_26 rfl (lv_at hl 2 rfl) ?_
        refine xs_get C hw 1 (by decide) tb_82 rfl dX10_rush_27 ?_
        refine lv_iload_n C.1 C.2.1 dX10_rush_30 rfl (lv_at hl 0 rfl) ?_
        by_cases hjn : j < pn P
        · have hkj : pk P j < 9 := hO1.2.1 j hjn
          refine xV_ldS C hw (show j < 24 by omega) hx hjn dX10_rush_31 ?_
          refine lv_astore (lv' := [(4, .ref (pa P j)), (3, .int (x)), (2, .int (y)), (0, .ref (pS P)), (1, .int (h))]) C.1 C.2.1 dX10_rush_32 hl (by decide) rfl (fun ls hl => ?_)
          refine lv_aload C.1 C.2.1 dX10_rush_34 (lv_at hl 0 rfl) ?_
          refine lv_ifnull C.1 C.2.1 dX10_rush_36 ?_
          refine lv_aload C.1 C.2.1 dX10_rush_39 (lv_at hl 0 rfl) ?_
          refine xv_get C hw hjn hkj 6 (by decide) tb_147 (Or.inl rfl) rfl dX10_rush_41 ?_
          refine lv_if_ne (tgt := 66) C.1 C.2.1 dX10_rush_44 (by decide) (fun h2 => ?_) (fun h2 => ?_)
          · rw [show pn P - j = (pn P - (j + 1)) + 1 by omega] at hc
            have hc := (show rsh (pk P) h (pn P - (j + 1) + 1) j y (F1, B1, G1, d1) = rsh (pk P) h (pn P - (j + 1)) (j + 1) y (F1, B1, G1, d1) from if_neg h2).symm.trans hc
            obtain ⟨x1, ex1⟩ : ∃ z : Int32, z = x + 1 := ⟨_, rfl⟩
            refine lv_iinc (v := x1) (lv' := [(3, .int (x1)), (4, .ref (pa P j)), (2, .int (y)), (0, .ref (pS P)), (1, .int (h))]) C.1 C.2.1 dX10_rush_66 hl (k := 1) rfl (by rw [ex1]; rfl) (by decide) rfl (fun ls hl => ?_)
            refine lv_goto (tgt := 17) C.1 C.2.1 dX10_rush_69 (by decide) ?_
            exact ih (j + 1) (by omega) x1 y F1 B1 G1 d1 (by rw [ex1, hx]; exact nI_1 j) (hI1) (hc) H locs hw hS cells slots (by omega) (by omega) ls (lv_sub hl [0, 2, 3, 4] rfl)
          · rw [show pn P - j = (pn P - (j + 1)) + 1 by omega] at hc
            have hc := (show rsh (pk P) h (pn P - (j + 1) + 1) j y (F1, B1, G1, d1) = rsh (pk P) h (pn P - (j + 1)) (j + 1) (if (eN (pk P) j h (F1, B1, G1, d1)).1 = 0 then y + 1 else y) (eN (pk P) j h (F1, B1, G1, d1)).2 from if_pos h2).symm.trans hc
            have hnd : j ∉ d1 := fun q => absurd ((hI1.2.2.1 j q).symm.trans h2) (by decide)
            have hI2 := eN_inv (h := h) (K := pk P) hI1 hjn hnd
            refine lv_aload C.1 C.2.1 dX10_rush_47 (lv_at hl 0 rfl) ?_
            refine lv_iload_n C.1 C.2.1 dX10_rush_49 rfl (lv_at hl 4 rfl) ?_
            refine ct_go (v_enter C hw hjn hkj hlt hE hS hO1 hI1.2.1 (hO1.lt hjn hnd) tb_607 hl.1 dX10_rush_50 ⟨Nat.le_of_ble_eq_true rfl, Nat.le_of_ble_eq_true rfl⟩ (Nat.le_of_ble_eq_true rfl) ⟨by show cells + 2 ≤ 48; omega, by show slots + 12 ≤ 288; omega⟩) hS (fun _ h => h) (fun E hoc ce q9 t H locs ht hvm hw _ _ hS hce hcv hcls => ?_) (fun v hoc t H locs ht hvm hw _ _ hS => ?_)
            · have hw := x_back hw ht hvm
              have hne : ¬ (eN (pk P) j h (F1, B1, G1, d1)).1 = 0 := fun q => by rw [ocE_0 q] at hoc; cases hoc
              rw [if_neg hne] at hc
              rcases ocE_r hoc with ⟨q1, rfl⟩ | ⟨q0, q1, rfl⟩
              · refine vx_catch C.2.2.2.1 [] ⟨47, 56, 59, 82⟩ [⟨47, 56, 64, 84⟩] (by rw [htab]; rfl) (fun z hz => by cases hz) (by decide) (by decide) (C.2.2.2.2 _ tb_605) (va_Nw.use rfl hE.2.2.1.1) hce hcv hcls ?_
                refine lv_astore (lv' := [(5, .ref (q9)), (4, .ref (pa P j)), (3, .int (x)), (2, .int (y)), (0, .ref (pS P)), (1, .int (h))]) C.1 C.2.1 dX10_rush_59 hl (by decide) rfl (fun ls hl => ?_)
                refine lv_goto (tgt := 66) C.1 C.2.1 dX10_rush_61 (by decide) ?_
                obtain ⟨x1, ex1⟩ : ∃ z : Int32, z = x + 1 := ⟨_, rfl⟩
                refine lv_iinc (v := x1) (lv' := [(3, .int (x1)), (5, .ref (q9)), (4, .ref (pa P j)), (2, .int (y)), (0, .ref (pS P)), (1, .int (h))]) C.1 C.2.1 dX10_rush_66 hl (k := 2) rfl (by rw [ex1]; rfl) (by decide) rfl (fun ls hl => ?_)
                refine lv_goto (tgt := 17) C.1 C.2.1 dX10_rush_69 (by decide) ?_
                exact ih (j + 1) (by omega) x1 y (eN (pk P) j h (F1, B1, G1, d1)).2.1 (eN (pk P) j h (F1, B1, G1, d1)).2.2.1 (eN (pk P) j h (F1, B1, G1, d1)).2.2.2.1 (eN (pk P) j h (F1, B1, G1, d1)).2.2.2.2 (by rw [ex1, hx]; exact nI_1 j) (hI2) (hc) H locs hw hS (cells + 2) (slots + 12) (by omega) (by omega) ls (lv_sub hl [0, 3, 4, 5] rfl)
              · refine vx_catch C.2.2.2.1 [⟨47, 56, 59, 82⟩] ⟨47, 56, 64, 84⟩ [] (by rw [htab]; rfl) (fun z hz => by rcases List.mem_singleton.mp hz with rfl; exact Or.inr ⟨by decide, _, C.2.2.2.2 _ tb_605, hE.2.2.1.2.2⟩) (by decide) (by decide) (C.2.2.2.2 _ tb_606) (va_Nw.use rfl hE.2.2.1.2.1) hce hcv hcls ?_
                refine lv_astore (lv' := [(5, .ref (q9)), (4, .ref (pa P j)), (3, .int (x)), (2, .int (y)), (0, .ref (pS P)), (1, .int (h))]) C.1 C.2.1 dX10_rush_64 hl (by decide) rfl (fun ls hl => ?_)
                obtain ⟨x1, ex1⟩ : ∃ z : Int32, z = x + 1 := ⟨_, rfl⟩
                refine lv_iinc (v := x1) (lv' := [(3, .int (x1)), (5, .ref (q9)), (4, .ref (pa P j)), (2, .int (y)), (0, .ref (pS P)), (1, .int (h))]) C.1 C.2.1 dX10_rush_66 hl (k := 2) rfl (by rw [ex1]; rfl) (by decide) rfl (fun ls hl => ?_)
                refine lv_goto (tgt := 17) C.1 C.2.1 dX10_rush_69 (by decide) ?_
                exact ih (j + 1) (by omega) x1 y (eN (pk P) j h (F1, B1, G1, d1)).2.1 (eN (pk P) j h (F1, B1, G1, d1)).2.2.1 (eN (pk P) j h (F1, B1, G1, d1)).2.2.2.1 (eN (pk P) j h (F1, B1, G1, d1)).2.2.2.2 (by rw [ex1, hx]; exact nI_1 j) (hI2) (hc) H locs hw hS (cells + 2) (slots + 12) (by omega) (by omega) ls (lv_sub hl [0, 3, 4, 5] rfl)
            · have hw := x_back hw ht hvm
              obtain ⟨h0, rfl⟩ := ocE_l hoc
              rw [if_pos h0] at hc
              obtain ⟨y1, ey1⟩ : ∃ z : Int32, z = y + 1 := ⟨_, rfl⟩
              refine lv_iinc (v := y1) (lv' := [(2, .int (y1)), (4, .ref (pa P j)), (3, .int (x)), (0, .ref (pS P)), (1, .int (h))]) C.1 C.2.1 dX10_rush_53 hl (k := 2) rfl (by rw [ey1]; rfl) (by decide) rfl (fun ls hl => ?_)
              refine lv_goto (tgt := 66) C.1 C.2.1 dX10_rush_56 (by decide) ?_
              obtain ⟨x1, ex1⟩ : ∃ z : Int32, z = x + 1 := ⟨_, rfl⟩
              refine lv_iinc (v := x1) (lv' := [(3, .int (x1)), (2, .int (y1)), (4, .ref (pa P j)), (0, .ref (pS P)), (1, .int (h))]) C.1 C.2.1 dX10_rush_66 hl (k := 2) rfl (by rw [ex1]; rfl) (by decide) rfl (fun ls hl => ?_)
              refine lv_goto (tgt := 17) C.1 C.2.1 dX10_rush_69 (by decide) ?_
              exact ih (j + 1) (by omega) x1 y1 (eN (pk P) j h (F1, B1, G1, d1)).2.1 (eN (pk P) j h (F1, B1, G1, d1)).2.2.1 (eN (pk P) j h (F1, B1, G1, d1)).2.2.2.1 (eN (pk P) j h (F1, B1, G1, d1)).2.2.2.2 (by rw [ex1, hx]; exact nI_1 j) (hI2) (by rw [ey1]; exact hc) H locs hw hS (cells + 2) (slots + 12) (by omega) (by omega) ls (lv_sub hl [0, 1, 3, 4] rfl)
        · refine xV_ldN C hw (show j < 24 by omega) hx hjn dX10_rush_31 ?_
          refine lv_astoreN (lv' := [(4, .null), (3, .int (x)), (2, .int (y)), (0, .ref (pS P)), (1, .int (h))]) C.1 C.2.1 dX10_rush_32 hl (by decide) rfl (fun ls hl => ?_)
          refine lv_aloadN C.1 C.2.1 dX10_rush_34 (lv_at hl 0 rfl) ?_
          refine lv_ifnullN (tgt := 66) C.1 C.2.1 dX10_rush_36 (by decide) ?_
          obtain ⟨x1, ex1⟩ : ∃ z : Int32, z = x + 1 := ⟨_, rfl⟩
          refine lv_iinc (v := x1) (lv' := [(3, .int (x1)), (4, .null), (2, .int (y)), (0, .ref (pS P)), (1, .int (h))]) C.1 C.2.1 dX10_rush_66 hl (k := 1) rfl (by rw [ex1]; rfl) (by decide) rfl (fun ls hl => ?_)
          refine lv_goto (tgt := 17) C.1 C.2.1 dX10_rush_69 (by decide) ?_
          exact ih (j + 1) (by omega) x1 y F1 B1 G1 d1 (by rw [ex1, hx]; exact nI_1 j) (hI1) (by rw [show pn P - (j + 1) = 0 by omega]; rw [show pn P - j = 0 by omega] at hc; exact hc) H locs hw hS cells slots (by omega) (by omega) ls (lv_sub hl [0, 2, 3, 4] rfl)
  refine lv_iload_n C.1 C.2.1 dX10_rush_0 rfl (lv_at hl 1 rfl) ?_
  refine lv_iconst (v := 0) C.1 C.2.1 dX10_rush_1 (by decide) ?_
  refine lv_bipush (v := 23) C.1 C.2.1 dX10_rush_2 (by decide) ?_
  refine ct_ret (ct_S C (c_X10_isOutside l (h) (0) (23)) Tr_bl (Or.inl rfl) tb_97 tb_1 ⟨Nat.le_of_ble_eq_true rfl, Nat.le_of_ble_eq_true rfl⟩ tb_95 ⟨by decide, by decide⟩ tb_96 (fun _ _ _ => trivial) (by show _ = some 3; decide +kernel) hl.1 rfl (Nat.le_of_ble_eq_true rfl) dX10_rush_4 ⟨Nat.le_of_ble_eq_true rfl, Nat.le_of_ble_eq_true rfl⟩) hS (fun _ h => False.elim h) (fun t H locs ht hvm _ _ hk hS => ?_)
  have hw := x_kept hw hk
  refine lv_if_eq (tgt := 13) C.1 C.2.1 dX10_rush_7 (by decide) (fun h1 => ?_) (fun h1 => ?_)
  · refine lv_iconst (v := 0) C.1 C.2.1 dX10_rush_13 (by decide) ?_
    refine lv_istore_n (lv' := [(2, .int (0)), (0, .ref (pS P)), (1, .int (h))]) C.1 C.2.1 dX10_rush_14 rfl hl (by decide) rfl (fun ls hl => ?_)
    refine lv_iconst (v := 0) C.1 C.2.1 dX10_rush_15 (by decide) ?_
    refine lv_istore_n (lv' := [(3, .int (0)), (2, .int (0)), (0, .ref (pS P)), (1, .int (h))]) C.1 C.2.1 dX10_rush_16 rfl hl (by decide) rfl (fun ls hl => ?_)
    exact loop (b2i_0 h1) 24 0 rfl 0 0 F B G dk nI_0.symm hI rfl _ _ hw hS _ _ (by decide) (by decide) ls hl
  · refine lv_bipush (v := -102) C.1 C.2.1 dX10_rush_10 (by decide) ?_
    rw [show (oRush (pk P) (pn P) h (F, B, G, dk)) = (0, -102, (F, B, G, dk)) from ifo_p h1]
    exact ct_i C hr hlocks rfl (fun t ht hW => x_post hw ht hW) hS (Nat.le_of_ble_eq_true rfl) (Nat.le_of_ble_eq_true rfl) dX10_rush_12
end
section
/-! MAKING: constructors of the vehicles, make -/
theorem h_oi : Cond.code Lib.objectInit ⟨#[0xb1]⟩ 1 none ∈ wB := tb_26
/-- one object alone, of class k, with the fields fs -/
abbrev Vn (D : va_G) (q k : Nat) (fs : List Value) : State → Prop := fun U => va_K D sCl [] U ∧ va_P D sCl [(q, .inr (k, fs))] U.heap
section Mk
variable {p : Program} {l : Launch} {e : Env} {R : Room} {s : State} {m : MethodId} {args : Array Value} {below : List Frame} {meth : Method} {c : Code} {H : Heap} {locs : List Loc} {cells slots : Nat} {Q : State → Prop}
variable {cc b : ByteArray} {nL mL index pc : Nat} {ls : Array Slot} {st0 rest As : List Value} {own : String} {y : MethodName} {hd : Cond} {ret : Option FieldType} {rm : Room} {A : Nat → Prop} {Pre Post : State → Prop} {oc : Option Value ⊕ String} {D : va_G} {q k a : Nat} {fs : List Value} {H0 : Heap} {tys : List (ClassId × FieldType)}
theorem Vn_bl : Bl (Vn D q k fs) := fun U g mk a h => ⟨va_K.moved (u := U) (U := U.calling g mk a) (Vm.Alike.refl U.vm) h.1, h.2⟩
theorem vn_D : va_D (fun a => a = q) [(q, (.inr (k, fs) : va_E))] := ⟨fun i j p q' h1 h2 _ => by
  have e1 : i < 1 := (List.getElem?_eq_some_iff.mp h1).1
  have e2 : j < 1 := (List.getElem?_eq_some_iff.mp h2).1
  omega, fun i x hx => by
  have e1 : i < 1 := (List.getElem?_eq_some_iff.mp hx).1
  rw [show i = 0 by omega] at hx
  cases hx
  rfl⟩
theorem tx4_ty {j : Nat} (h : j < 10) : parseFieldDescriptor (TX4 j).2.2.1 = some (tyX4 j) := tyX4_ok j h
/-- a final field of the new object, in Cart's constructor -/
theorem vn_putF (C : CallFix p m c cc nL s args wB RX4) (hin : meth.name = "<init>") (hk : k < 9) (hK : va_K D sCl [] s) (hP : va_P D sCl [(q, .inr (k, fs))] H) (hS : va_S (fun a => a = q) H0 H locs) (j : Nat) (hj : j < 5) (hl : Cond.fieldLink RX4 index (TX4 j).1 (TX4 j).2.1 (TX4 j).2.2.1 ∈ wB) {v : Value} (hn : narrow (tyX4 j) v = v) (hf : fits (tyX4 j) v = true) (hlen : fs.length = 10) (hdg : decode cc pc = .ok (.putfield index, 3))
    (kk : ∀ (H1 : Heap) (locs1 : List Loc), va_P D sCl [(q, .inr (k, fs.set j v))] H1 → va_S (fun a => a = q) H0 H1 locs1 → W p l e R s m args below meth c H1 locs1 cells slots Q (F0 m (pc + 3) ls rest)) : W p l e R s m args below meth c H locs cells slots Q (F0 m pc ls (v :: .ref q :: rest)) :=
  va_putF (D := D) (ci := k) (v := v) (ty := tyX4 j) (C := cN k) (T := TX4) (N := 10) (ref := (TX4 j).1) C.1 C.2.1 C.2.2.2.2 (inK hk) tyX4 tyX4_ok nmX4 C.2.2.2.1 hK hP vn_D hS 0 rfl (sCl_k hk) j (by omega) (C.2.2.2.2 _ hl) (fun x hx => hx) (by rcases (show j = 0 ∨ j = 1 ∨ j = 2 ∨ j = 3 ∨ j = 4 by omega) with rfl | rfl | rfl | rfl | rfl <;> rfl) hin (tx4_decl (by omega)) (tx4_ty (by omega)) hn hf (by omega) hdg (fun H1 locs1 h1 h2 h3 => kk H1 locs1 h1 h3)
theorem vn_put (C : CallFix p m c cc nL s args wB RX4) (hk : k < 9) (hK : va_K D sCl [] s) (hP : va_P D sCl [(q, .inr (k, fs))] H) (hS : va_S (fun a => a = q) H0 H locs) (j : Nat) (hj5 : 5 ≤ j) (hj : j < 10) (hl : Cond.fieldLink RX4 index (TX4 j).1 (TX4 j).2.1 (TX4 j).2.2.1 ∈ wB) {v : Int32} (hlen : fs.length = 10) (hdg : decode cc pc = .ok (.putfield index, 3))
    (kk : ∀ (H1 : Heap) (locs1 : List Loc), va_P D sCl [(q, .inr (k, fs.set j (.int v)))] H1 → va_S (fun a => a = q) H0 H1 locs1 → W p l e R s m args below meth c H1 locs1 cells slots Q (F0 m (pc + 3) ls rest)) : W p l e R s m args below meth c H locs cells slots Q (F0 m pc ls (.int v :: .ref q :: rest)) :=
  va_put (D := D) (ci := k) (v := .int v) (ty := .int) (C := cN k) (T := TX4) (N := 10) (ref := (TX4 j).1) C.1 C.2.1 C.2.2.2.2 (inK hk) tyX4 tyX4_ok nmX4 C.2.2.2.1 hK hP vn_D hS 0 rfl (sCl_k hk) j (by omega) (C.2.2.2.2 _ hl) (fun x hx => hx) (tx4_put hj5 hj).1 (tx4_put hj5 hj).2 rfl rfl (by omega) hdg (fun H1 locs1 h1 h2 h3 => kk H1 locs1 h1 h3)
/-- a constructor's call -/
theorem ct_I (S : CallFix p m c cc nL s args wB own) (hM : Ct l y (.code y b mL none) rm A (.ref a :: As) Pre oc Post) (hbl : Bl Pre) (hG : Cond.code y b mL none ∈ wB) (hini : Cond.initialized y.cls ∈ wB) (hR : rm.frames + 1 ≤ R.frames ∧ 8 + (mL + 11) + rm.locals ≤ R.locals)
    (h1 : Cond.methodLink own index y ∈ wB) (hy1 : y.name = "<init>") (hy : y.cls ≠ "java/lang/invoke/MethodHandle" ∧ y.cls ≠ "java/lang/invoke/VarHandle") (h5 : Cond.instanceMethod y ∈ wB) (hpre : ∀ U : State, U.heap = H → s.WarmedH U.vm → Pre U)
    (hlen : (parseMethodDescriptor y.desc).map (fun d => d.parameters.length) = some As.length) (hsize : ls.size = nL) (hst : st0 = As.reverse ++ .ref a :: rest) (hW : (rest.map fun v => v.category).sum ≤ 8) (hdg : decode cc pc = .ok (.invokespecial index, 3)) (hf : cells + rm.cells ≤ R.cells ∧ slots + rm.slots ≤ R.slots) :
    CtR p l e R s m args below meth c H locs cells slots (F0 m pc ls st0) rest rm A oc Post := by
  have hK := ct_back (p := p) (e := e) (below := below) (R := R) hM hbl (Or.inl rfl) hG hini S.2.2.2.2 hR
  obtain ⟨hx, hb, hml, ho, hts⟩ := S
  intro T hT X
  have hpl : e.platform.magicAccessors = ({} : Platform).magicAccessors := by rw [X.admits.platform]
  have hdg' : decode c.code (F0 m pc ls st0).pc = .ok (.invokespecial index, 3) := by rw [hb]; exact hdg
  obtain ⟨mk, methM, cM, kP, vm₁, hnamed, hmethM, hcodeM, -, hlocalsM, -, hkP, -, hW₁, hstep₁⟩ := Steps.initColdArgs (e := e) X.here hx X.warmed hpl ho hy1 hy (hts _ h1) (hts _ h5) (hts _ hG) (f := F0 m pc ls st0) rfl (ct_len hlen) hst hdg'
  have X₁ := X.noted hW₁
  rcases hK m meth c ⟨T.setVm vm₁, locs, cells, slots⟩ (F0 m pc ls rest) (.invokespecial index) mk (Value.ref a :: As).toArray X₁ rfl (hsize.trans hml.symm) hdg' (by simpa [JFrame.monitorRoom] using hW) (X₁.named hnamed) ⟨hf.1, hf.2, rfl, hpre (T.setVm vm₁) hT X₁.warmed⟩ with ⟨v, ⟨U', l2, c2, s2⟩, X', ⟨g', mk', t, L, e1, e2, hq, h1, hL, h2, h3⟩, hsteps⟩ | ⟨q, ⟨U', l2, c2, s2⟩, X', ⟨g', mk', t, L, E, ce, e1, e2, hq, hce, hcv, hcl, h1, hL, h2, h3⟩, hsteps⟩
  · dsimp only [Pt.U, Pt.locs, Pt.cells, Pt.slots] at X' e1 e2 h1 h2 h3 hsteps
    subst h1; subst h2; subst h3
    exact Or.inl ⟨v, (T.setVm vm₁).calling g' mk' (Value.ref a :: As).toArray, t, U', L, hT, X', hL, e1, e2, hq, fun target h => hstep₁ _ fun acts => by rw [doInvoke_state]; exact hsteps.trans h⟩
  · dsimp only [Pt.U, Pt.locs, Pt.cells, Pt.slots] at X' e1 e2 h1 h2 h3 hsteps hcl
    subst h1; subst h2; subst h3
    exact Or.inr ⟨q, (T.setVm vm₁).calling g' mk' (Value.ref a :: As).toArray, t, U', L, E, ce, hT, X', hL, e1, e2, hq, hce, hcv, vx_cls X₁.warmed hcl, hstep₁ _ fun acts => by rw [doInvoke_state]; exact hsteps⟩
/-- new: the object lies at the heap's end -/
theorem x_new {CN : String} {T : u_T} {N ci : Nat} (C : CallFix p m c cc nL s args wB own) (ty : Nat → FieldType) (hty : ∀ j, j < N → parseFieldDescriptor (T j).2.2.1 = some (ty j)) (hin : ∀ w ∈ u_ws CN T N, w ∈ wB) (hc : sCl[ci]? = some (CN, T, N)) (hK : va_K D sCl tys s) (h1 : Cond.classLink own index CN ∈ wB) (h2 : Cond.instantiable CN N ∈ wB) (h3 : Cond.initialized CN ∈ wB) (hfs : ∀ j, j < N → defaultValue (ty j) = vp_V fs j) (hcells : cells + 1 ≤ R.cells) (hslots : slots + N ≤ R.slots) (hdg : decode cc pc = .ok (.new index, 3))
    (kk : ∀ (H1 : Heap), H1.size = H.size + 1 → (∀ a : Nat, a < H.size → H1[a]? = H[a]?) → va_P D sCl [(H.size, .inr (ci, fs))] H1 → W p l e R s m args below meth c H1 locs (cells + 1) (slots + N) Q (F0 m (pc + 3) ls (.ref H.size :: rest))) : W p l e R s m args below meth c H locs cells slots Q (F0 m pc ls rest) := by
  have hKn := hK.1 ci _ hc
  refine W.newcK C.1 C.2.1 C.2.2.2.1 (C.2.2.2.2 _ h1) (C.2.2.2.2 _ h2) (C.2.2.2.2 _ h3) rfl hdg hcells hslots hKn.2.1 rfl fun H1 kC hkC e1 z1 o1 => ?_
  refine kk H1 z1 o1 (fun k x hx => ?_)
  have hz : k < 1 := (List.getElem?_eq_some_iff.mp hx).1
  rw [show k = 0 by omega] at hx
  cases hx
  exact ⟨_, hc, (u_born ty C.2.2.2.2 hin hKn hkC e1 hty).to hfs⟩
theorem S_new {A : Nat → Prop} {H1 : Heap} (hS : va_S A H0 H locs) (z1 : H1.size = H.size + 1) (o1 : ∀ a : Nat, a < H.size → H1[a]? = H[a]?) : va_S A H0 H1 locs := ⟨Nat.le_trans hS.1 (by omega), fun x h1 h2 => (o1 x (Nat.lt_of_lt_of_le h1 hS.1)).trans (hS.2.1 x h1 h2), hS.2.2⟩
end Mk
set_option maxHeartbeats 400000 in
set_option maxRecDepth 100000 in
/-- the constructor -/
theorem c_X4_init (l : Launch) (D : va_G) (q bq k : Nat) (nu ki ma lo sh : Int32) (hk : k < 9) : Ct l yX4_init (.code yX4_init cX4_init 7 none) ({ frames := 1, cells := 0, slots := 0, locals := 12 }) (fun a => a = q) [.ref q, .ref bq, .int nu, .int ki, .int ma, .int lo, .int sh] (Vn D q k [.null, .int 0, .int 0, .int 0, .int 0, .int 0, .int 0, .int 0, .int 0, .int 0]) (.inl none) (Vn D q k [.ref bq, .int nu, .int ki, .int ma, .int sh, .int lo, .int 0, .int 0, .int 0, .int 0]) := by
  refine ct_mk (by decide) (Nat.le_of_ble_eq_true rfl) (fun p e s m below meth c ls C hr hlocks hnm htab hP hl => ?_)
  obtain ⟨hK, hP⟩ := hP
  have hS : va_S (fun a => a = q) s.heap s.heap [] := va_S.rf
  have hl : lv_has ls 7 [(0, .ref q), (1, .ref bq), (2, .int nu), (3, .int ki), (4, .int ma), (5, .int lo), (6, .int sh)] := hl
  refine lv_aload_n C.1 C.2.1 dX4_init_0 rfl (lv_at hl 0 rfl) ?_
  refine W.objInit C.1 C.2.1 C.2.2.2.1 (C.2.2.2.2 _ tb_110) (C.2.2.2.2 _ tb_25) (C.2.2.2.2 _ h_oi) rfl (by rw [C.2.2.1]; exact hl.1) rfl dX4_init_1 (Nat.le_of_ble_eq_true rfl) (Nat.le_of_ble_eq_true rfl) ?_
  refine W.eq (g2 := F0 m 4 ls []) rfl ?_
  refine lv_aload_n C.1 C.2.1 dX4_init_4 rfl (lv_at hl 0 rfl) ?_
  refine lv_aload_n C.1 C.2.1 dX4_init_5 rfl (lv_at hl 1 rfl) ?_
  refine vn_putF C hnm hk hK hP hS 0 (by decide) tb_111 rfl rfl rfl dX4_init_6 (fun H locs hP hS => ?_)
  refine lv_aload_n C.1 C.2.1 dX4_init_9 rfl (lv_at hl 0 rfl) ?_
  refine lv_iload_n C.1 C.2.1 dX4_init_10 rfl (lv_at hl 2 rfl) ?_
  refine vn_putF C hnm hk hK hP hS 1 (by decide) tb_126 rfl rfl rfl dX4_init_11 (fun H locs hP hS => ?_)
  refine lv_aload_n C.1 C.2.1 dX4_init_14 rfl (lv_at hl 0 rfl) ?_
  refine lv_iload_n C.1 C.2.1 dX4_init_15 rfl (lv_at hl 3 rfl) ?_
  refine vn_putF C hnm hk hK hP hS 2 (by decide) tb_129 rfl rfl rfl dX4_init_16 (fun H locs hP hS => ?_)
  refine lv_aload_n C.1 C.2.1 dX4_init_19 rfl (lv_at hl 0 rfl) ?_
  refine lv_iload C.1 C.2.1 dX4_init_20 (lv_at hl 4 rfl) ?_
  refine vn_putF C hnm hk hK hP hS 3 (by decide) tb_132 rfl rfl rfl dX4_init_22 (fun H locs hP hS => ?_)
  refine lv_aload_n C.1 C.2.1 dX4_init_25 rfl (lv_at hl 0 rfl) ?_
  refine lv_iload C.1 C.2.1 dX4_init_26 (lv_at hl 6 rfl) ?_
  refine vn_putF C hnm hk hK hP hS 4 (by decide) tb_134 rfl rfl rfl dX4_init_28 (fun H locs hP hS => ?_)
  refine lv_aload_n C.1 C.2.1 dX4_init_31 rfl (lv_at hl 0 rfl) ?_
  refine lv_iload C.1 C.2.1 dX4_init_32 (lv_at hl 5 rfl) ?_
  refine vn_put C hk hK hP hS 5 (by decide) (by decide) tb_136 rfl dX4_init_34 (fun H locs hP hS => ?_)
  refine lv_aload_n C.1 C.2.1 dX4_init_37 rfl (lv_at hl 0 rfl) ?_
  refine lv_iconst (v := 0) C.1 C.2.1 dX4_init_38 (by decide) ?_
  refine vn_put C hk hK hP hS 6 (by decide) (by decide) tb_146 rfl dX4_init_39 (fun H locs hP hS => ?_)
  refine lv_aload_n C.1 C.2.1 dX4_init_42 rfl (lv_at hl 0 rfl) ?_
  refine lv_iconst (v := 0) C.1 C.2.1 dX4_init_43 (by decide) ?_
  refine vn_put C hk hK hP hS 7 (by decide) (by decide) tb_148 rfl dX4_init_44 (fun H locs hP hS => ?_)
  refine lv_aload_n C.1 C.2.1 dX4_init_47 rfl (lv_at hl 0 rfl) ?_
  refine lv_iconst (v := 0) C.1 C.2.1 dX4_init_48 (by decide) ?_
  refine vn_put C hk hK hP hS 8 (by decide) (by decide) tb_150 rfl dX4_init_49 (fun H locs hP hS => ?_)
  refine lv_aload_n C.1 C.2.1 dX4_init_52 rfl (lv_at hl 0 rfl) ?_
  refine lv_iconst (v := 0) C.1 C.2.1 dX4_init_53 (by decide) ?_
  refine vn_put C hk hK hP hS 9 (by decide) (by decide) tb_152 rfl dX4_init_54 (fun H locs hP hS => ?_)
  exact ct_v C hr hlocks rfl (fun t ht hW => ⟨va_K.moved hW.alike hK, by rw [ht]; exact hP⟩) hS (Nat.le_of_ble_eq_true rfl) (Nat.le_of_ble_eq_true rfl) dX4_init_57
set_option maxHeartbeats 400000 in
set_option maxRecDepth 100000 in
/-- the constructor -/
theorem c_X9_init (l : Launch) (D : va_G) (q bq k : Nat) (nu ki ma lo sh : Int32) (hk : k < 9) : Ct l yX9_init (.code yX9_init cX9_init 7 none) ({ frames := 2, cells := 0, slots := 0, locals := 38 }) (fun a => a = q) [.ref q, .ref bq, .int nu, .int ki, .int ma, .int lo, .int sh] (Vn D q k [.null, .int 0, .int 0, .int 0, .int 0, .int 0, .int 0, .int 0, .int 0, .int 0]) (.inl none) (Vn D q k [.ref bq, .int nu, .int ki, .int ma, .int sh, .int lo, .int 0, .int 0, .int 0, .int 0]) := by
  refine ct_mk (by decide) (Nat.le_of_ble_eq_true rfl) (fun p e s m below meth c ls C hr hlocks hnm htab hP hl => ?_)
  obtain ⟨hK, hP⟩ := hP
  have hS : va_S (fun a => a = q) s.heap s.heap [] := va_S.rf
  have hl : lv_has ls 7 [(0, .ref q), (1, .ref bq), (2, .int nu), (3, .int ki), (4, .int ma), (5, .int lo), (6, .int sh)] := hl
  refine lv_aload_n C.1 C.2.1 dX9_init_0 rfl (lv_at hl 0 rfl) ?_
  refine lv_aload_n C.1 C.2.1 dX9_init_1 rfl (lv_at hl 1 rfl) ?_
  refine lv_iload_n C.1 C.2.1 dX9_init_2 rfl (lv_at hl 2 rfl) ?_
  refine lv_iload_n C.1 C.2.1 dX9_init_3 rfl (lv_at hl 3 rfl) ?_
  refine lv_iload C.1 C.2.1 dX9_init_4 (lv_at hl 4 rfl) ?_
  refine lv_iload C.1 C.2.1 dX9_init_6 (lv_at hl 5 rfl) ?_
  refine lv_iload C.1 C.2.1 dX9_init_8 (lv_at hl 6 rfl) ?_
  refine ct_ret (ct_I C (c_X4_init l D q bq k nu ki ma lo sh hk) Vn_bl tb_109 tb_4 ⟨Nat.le_of_ble_eq_true rfl, Nat.le_of_ble_eq_true rfl⟩ tb_107 rfl ⟨by decide, by decide⟩ tb_108 (fun U hU hW => ⟨va_K.moved hW.alike hK, by rw [hU]; exact hP⟩) (by show _ = some 6; decide +kernel) hl.1 rfl (Nat.le_of_ble_eq_true rfl) dX9_init_10 ⟨Nat.le_of_ble_eq_true rfl, Nat.le_of_ble_eq_true rfl⟩) hS (fun _ h => h) (fun t H locs ht hvm hw _ _ hS => ?_)
  have hP : va_P D sCl [(q, .inr (k, [.ref bq, .int nu, .int ki, .int ma, .int sh, .int lo, .int 0, .int 0, .int 0, .int 0]))] H := by have h9 := hw.2; rw [ht] at h9; exact h9
  exact ct_v C hr hlocks rfl (fun t ht hW => ⟨va_K.moved hW.alike hK, by rw [ht]; exact hP⟩) hS (Nat.le_of_ble_eq_true rfl) (Nat.le_of_ble_eq_true rfl) dX9_init_13
set_option maxHeartbeats 400000 in
set_option maxRecDepth 100000 in
/-- the constructor -/
theorem c_X5_init (l : Launch) (D : va_G) (q bq k : Nat) (nu ki ma lo sh : Int32) (hk : k < 9) : Ct l yX5_init (.code yX5_init cX5_init 7 none) ({ frames := 2, cells := 0, slots := 0, locals := 38 }) (fun a => a = q) [.ref q, .ref bq, .int nu, .int ki, .int ma, .int lo, .int sh] (Vn D q k [.null, .int 0, .int 0, .int 0, .int 0, .int 0, .int 0, .int 0, .int 0, .int 0]) (.inl none) (Vn D q k [.ref bq, .int nu, .int ki, .int ma, .int sh, .int lo, .int 0, .int 0, .int 0, .int 0]) := by
  refine ct_mk (by decide) (Nat.le_of_ble_eq_true rfl) (fun p e s m below meth c ls C hr hlocks hnm htab hP hl => ?_)
  obtain ⟨hK, hP⟩ := hP
  have hS : va_S (fun a => a = q) s.heap s.heap [] := va_S.rf
  have hl : lv_has ls 7 [(0, .ref q), (1, .ref bq), (2, .int nu), (3, .int ki), (4, .int ma), (5, .int lo), (6, .int sh)] := hl
  refine lv_aload_n C.1 C.2.1 dX5_init_0 rfl (lv_at hl 0 rfl) ?_
  refine lv_aload_n C.1 C.2.1 dX5_init_1 rfl (lv_at hl 1 rfl) ?_
  refine lv_iload_n C.1 C.2.1 dX5_init_2 rfl (lv_at hl 2 rfl) ?_
  refine lv_iload_n C.1 C.2.1 dX5_init_3 rfl (lv_at hl 3 rfl) ?_
  refine lv_iload C.1 C.2.1 dX5_init_4 (lv_at hl 4 rfl) ?_
  refine lv_iload C.1 C.2.1 dX5_init_6 (lv_at hl 5 rfl) ?_
  refine lv_iload C.1 C.2.1 dX5_init_8 (lv_at hl 6 rfl) ?_
  refine ct_ret (ct_I C (c_X4_init l D q bq k nu ki ma lo sh hk) Vn_bl tb_109 tb_4 ⟨Nat.le_of_ble_eq_true rfl, Nat.le_of_ble_eq_true rfl⟩ tb_284 rfl ⟨by decide, by decide⟩ tb_108 (fun U hU hW => ⟨va_K.moved hW.alike hK, by rw [hU]; exact hP⟩) (by show _ = some 6; decide +kernel) hl.1 rfl (Nat.le_of_ble_eq_true rfl) dX5_init_10 ⟨Nat.le_of_ble_eq_true rfl, Nat.le_of_ble_eq_true rfl⟩) hS (fun _ h => h) (fun t H locs ht hvm hw _ _ hS => ?_)
  have hP : va_P D sCl [(q, .inr (k, [.ref bq, .int nu, .int ki, .int ma, .int sh, .int lo, .int 0, .int 0, .int 0, .int 0]))] H := by have h9 := hw.2; rw [ht] at h9; exact h9
  exact ct_v C hr hlocks rfl (fun t ht hW => ⟨va_K.moved hW.alike hK, by rw [ht]; exact hP⟩) hS (Nat.le_of_ble_eq_true rfl) (Nat.le_of_ble_eq_true rfl) dX5_init_13
set_option maxHeartbeats 400000 in
set_option maxRecDepth 100000 in
/-- the constructor -/
theorem c_X3_init (l : Launch) (D : va_G) (q bq k : Nat) (nu ki ma lo sh : Int32) (hk : k < 9) : Ct l yX3_init (.code yX3_init cX3_init 7 none) ({ frames := 3, cells := 0, slots := 0, locals := 64 }) (fun a => a = q) [.ref q, .ref bq, .int nu, .int ki, .int ma, .int lo, .int sh] (Vn D q k [.null, .int 0, .int 0, .int 0, .int 0, .int 0, .int 0, .int 0, .int 0, .int 0]) (.inl none) (Vn D q k [.ref bq, .int nu, .int ki, .int ma, .int sh, .int lo, .int 0, .int 0, .int 0, .int 0]) := by
  refine ct_mk (by decide) (Nat.le_of_ble_eq_true rfl) (fun p e s m below meth c ls C hr hlocks hnm htab hP hl => ?_)
  obtain ⟨hK, hP⟩ := hP
  have hS : va_S (fun a => a = q) s.heap s.heap [] := va_S.rf
  have hl : lv_has ls 7 [(0, .ref q), (1, .ref bq), (2, .int nu), (3, .int ki), (4, .int ma), (5, .int lo), (6, .int sh)] := hl
  refine lv_aload_n C.1 C.2.1 dX3_init_0 rfl (lv_at hl 0 rfl) ?_
  refine lv_aload_n C.1 C.2.1 dX3_init_1 rfl (lv_at hl 1 rfl) ?_
  refine lv_iload_n C.1 C.2.1 dX3_init_2 rfl (lv_at hl 2 rfl) ?_
  refine lv_iload_n C.1 C.2.1 dX3_init_3 rfl (lv_at hl 3 rfl) ?_
  refine lv_iload C.1 C.2.1 dX3_init_4 (lv_at hl 4 rfl) ?_
  refine lv_iload C.1 C.2.1 dX3_init_6 (lv_at hl 5 rfl) ?_
  refine lv_iload C.1 C.2.1 dX3_init_8 (lv_at hl 6 rfl) ?_
  refine ct_ret (ct_I C (c_X9_init l D q bq k nu ki ma lo sh hk) Vn_bl tb_106 tb_5 ⟨Nat.le_of_ble_eq_true rfl, Nat.le_of_ble_eq_true rfl⟩ tb_182 rfl ⟨by decide, by decide⟩ tb_105 (fun U hU hW => ⟨va_K.moved hW.alike hK, by rw [hU]; exact hP⟩) (by show _ = some 6; decide +kernel) hl.1 rfl (Nat.le_of_ble_eq_true rfl) dX3_init_10 ⟨Nat.le_of_ble_eq_true rfl, Nat.le_of_ble_eq_true rfl⟩) hS (fun _ h => h) (fun t H locs ht hvm hw _ _ hS => ?_)
  have hP : va_P D sCl [(q, .inr (k, [.ref bq, .int nu, .int ki, .int ma, .int sh, .int lo, .int 0, .int 0, .int 0, .int 0]))] H := by have h9 := hw.2; rw [ht] at h9; exact h9
  exact ct_v C hr hlocks rfl (fun t ht hW => ⟨va_K.moved hW.alike hK, by rw [ht]; exact hP⟩) hS (Nat.le_of_ble_eq_true rfl) (Nat.le_of_ble_eq_true rfl) dX3_init_13
set_option maxHeartbeats 400000 in
set_option maxRecDepth 100000 in
/-- the constructor -/
theorem c_X7_init (l : Launch) (D : va_G) (q bq k : Nat) (nu ki ma lo sh : Int32) (hk : k < 9) : Ct l yX7_init (.code yX7_init cX7_init 7 none) ({ frames := 3, cells := 0, slots := 0, locals := 64 }) (fun a => a = q) [.ref q, .ref bq, .int nu, .int ki, .int ma, .int lo, .int sh] (Vn D q k [.null, .int 0, .int 0, .int 0, .int 0, .int 0, .int 0, .int 0, .int 0, .int 0]) (.inl none) (Vn D q k [.ref bq, .int nu, .int ki, .int ma, .int sh, .int lo, .int 0, .int 0, .int 0, .int 0]) := by
  refine ct_mk (by decide) (Nat.le_of_ble_eq_true rfl) (fun p e s m below meth c ls C hr hlocks hnm htab hP hl => ?_)
  obtain ⟨hK, hP⟩ := hP
  have hS : va_S (fun a => a = q) s.heap s.heap [] := va_S.rf
  have hl : lv_has ls 7 [(0, .ref q), (1, .ref bq), (2, .int nu), (3, .int ki), (4, .int ma), (5, .int lo), (6, .int sh)] := hl
  refine lv_aload_n C.1 C.2.1 dX7_init_0 rfl (lv_at hl 0 rfl) ?_
  refine lv_aload_n C.1 C.2.1 dX7_init_1 rfl (lv_at hl 1 rfl) ?_
  refine lv_iload_n C.1 C.2.1 dX7_init_2 rfl (lv_at hl 2 rfl) ?_
  refine lv_iload_n C.1 C.2.1 dX7_init_3 rfl (lv_at hl 3 rfl) ?_
  refine lv_iload C.1 C.2.1 dX7_init_4 (lv_at hl 4 rfl) ?_
  refine lv_iload C.1 C.2.1 dX7_init_6 (lv_at hl 5 rfl) ?_
  refine lv_iload C.1 C.2.1 dX7_init_8 (lv_at hl 6 rfl) ?_
  refine ct_ret (ct_I C (c_X9_init l D q bq k nu ki ma lo sh hk) Vn_bl tb_106 tb_5 ⟨Nat.le_of_ble_eq_true rfl, Nat.le_of_ble_eq_true rfl⟩ tb_216 rfl ⟨by decide, by decide⟩ tb_105 (fun U hU hW => ⟨va_K.moved hW.alike hK, by rw [hU]; exact hP⟩) (by show _ = some 6; decide +kernel) hl.1 rfl (Nat.le_of_ble_eq_true rfl) dX7_init_10 ⟨Nat.le_of_ble_eq_true rfl, Nat.le_of_ble_eq_true rfl⟩) hS (fun _ h => h) (fun t H locs ht hvm hw _ _ hS => ?_)
  have hP : va_P D sCl [(q, .inr (k, [.ref bq, .int nu, .int ki, .int ma, .int sh, .int lo, .int 0, .int 0, .int 0, .int 0]))] H := by have h9 := hw.2; rw [ht] at h9; exact h9
  exact ct_v C hr hlocks rfl (fun t ht hW => ⟨va_K.moved hW.alike hK, by rw [ht]; exact hP⟩) hS (Nat.le_of_ble_eq_true rfl) (Nat.le_of_ble_eq_true rfl) dX7_init_13
set_option maxHeartbeats 400000 in
set_option maxRecDepth 100000 in
/-- the constructor -/
theorem c_X2_init (l : Launch) (D : va_G) (q bq k : Nat) (nu ki ma lo sh : Int32) (hk : k < 9) : Ct l yX2_init (.code yX2_init cX2_init 7 none) ({ frames := 4, cells := 0, slots := 0, locals := 90 }) (fun a => a = q) [.ref q, .ref bq, .int nu, .int ki, .int ma, .int lo, .int sh] (Vn D q k [.null, .int 0, .int 0, .int 0, .int 0, .int 0, .int 0, .int 0, .int 0, .int 0]) (.inl none) (Vn D q k [.ref bq, .int nu, .int ki, .int ma, .int sh, .int lo, .int 0, .int 0, .int 0, .int 0]) := by
  refine ct_mk (by decide) (Nat.le_of_ble_eq_true rfl) (fun p e s m below meth c ls C hr hlocks hnm htab hP hl => ?_)
  obtain ⟨hK, hP⟩ := hP
  have hS : va_S (fun a => a = q) s.heap s.heap [] := va_S.rf
  have hl : lv_has ls 7 [(0, .ref q), (1, .ref bq), (2, .int nu), (3, .int ki), (4, .int ma), (5, .int lo), (6, .int sh)] := hl
  refine lv_aload_n C.1 C.2.1 dX2_init_0 rfl (lv_at hl 0 rfl) ?_
  refine lv_aload_n C.1 C.2.1 dX2_init_1 rfl (lv_at hl 1 rfl) ?_
  refine lv_iload_n C.1 C.2.1 dX2_init_2 rfl (lv_at hl 2 rfl) ?_
  refine lv_iload_n C.1 C.2.1 dX2_init_3 rfl (lv_at hl 3 rfl) ?_
  refine lv_iload C.1 C.2.1 dX2_init_4 (lv_at hl 4 rfl) ?_
  refine lv_iload C.1 C.2.1 dX2_init_6 (lv_at hl 5 rfl) ?_
  refine lv_iload C.1 C.2.1 dX2_init_8 (lv_at hl 6 rfl) ?_
  refine ct_ret (ct_I C (c_X3_init l D q bq k nu ki ma lo sh hk) Vn_bl tb_181 tb_6 ⟨Nat.le_of_ble_eq_true rfl, Nat.le_of_ble_eq_true rfl⟩ tb_199 rfl ⟨by decide, by decide⟩ tb_180 (fun U hU hW => ⟨va_K.moved hW.alike hK, by rw [hU]; exact hP⟩) (by show _ = some 6; decide +kernel) hl.1 rfl (Nat.le_of_ble_eq_true rfl) dX2_init_10 ⟨Nat.le_of_ble_eq_true rfl, Nat.le_of_ble_eq_true rfl⟩) hS (fun _ h => h) (fun t H locs ht hvm hw _ _ hS => ?_)
  have hP : va_P D sCl [(q, .inr (k, [.ref bq, .int nu, .int ki, .int ma, .int sh, .int lo, .int 0, .int 0, .int 0, .int 0]))] H := by have h9 := hw.2; rw [ht] at h9; exact h9
  exact ct_v C hr hlocks rfl (fun t ht hW => ⟨va_K.moved hW.alike hK, by rw [ht]; exact hP⟩) hS (Nat.le_of_ble_eq_true rfl) (Nat.le_of_ble_eq_true rfl) dX2_init_13
set_option maxHeartbeats 400000 in
set_option maxRecDepth 100000 in
/-- the constructor -/
theorem c_X8_init (l : Launch) (D : va_G) (q bq k : Nat) (nu ki ma lo sh : Int32) (hk : k < 9) : Ct l yX8_init (.code yX8_init cX8_init 7 none) ({ frames := 4, cells := 0, slots := 0, locals := 90 }) (fun a => a = q) [.ref q, .ref bq, .int nu, .int ki, .int ma, .int lo, .int sh] (Vn D q k [.null, .int 0, .int 0, .int 0, .int 0, .int 0, .int 0, .int 0, .int 0, .int 0]) (.inl none) (Vn D q k [.ref bq, .int nu, .int ki, .int ma, .int sh, .int lo, .int 0, .int 0, .int 0, .int 0]) := by
  refine ct_mk (by decide) (Nat.le_of_ble_eq_true rfl) (fun p e s m below meth c ls C hr hlocks hnm htab hP hl => ?_)
  obtain ⟨hK, hP⟩ := hP
  have hS : va_S (fun a => a = q) s.heap s.heap [] := va_S.rf
  have hl : lv_has ls 7 [(0, .ref q), (1, .ref bq), (2, .int nu), (3, .int ki), (4, .int ma), (5, .int lo), (6, .int sh)] := hl
  refine lv_aload_n C.1 C.2.1 dX8_init_0 rfl (lv_at hl 0 rfl) ?_
  refine lv_aload_n C.1 C.2.1 dX8_init_1 rfl (lv_at hl 1 rfl) ?_
  refine lv_iload_n C.1 C.2.1 dX8_init_2 rfl (lv_at hl 2 rfl) ?_
  refine lv_iload_n C.1 C.2.1 dX8_init_3 rfl (lv_at hl 3 rfl) ?_
  refine lv_iload C.1 C.2.1 dX8_init_4 (lv_at hl 4 rfl) ?_
  refine lv_iload C.1 C.2.1 dX8_init_6 (lv_at hl 5 rfl) ?_
  refine lv_iload C.1 C.2.1 dX8_init_8 (lv_at hl 6 rfl) ?_
  refine ct_ret (ct_I C (c_X7_init l D q bq k nu ki ma lo sh hk) Vn_bl tb_215 tb_8 ⟨Nat.le_of_ble_eq_true rfl, Nat.le_of_ble_eq_true rfl⟩ tb_233 rfl ⟨by decide, by decide⟩ tb_214 (fun U hU hW => ⟨va_K.moved hW.alike hK, by rw [hU]; exact hP⟩) (by show _ = some 6; decide +kernel) hl.1 rfl (Nat.le_of_ble_eq_true rfl) dX8_init_10 ⟨Nat.le_of_ble_eq_true rfl, Nat.le_of_ble_eq_true rfl⟩) hS (fun _ h => h) (fun t H locs ht hvm hw _ _ hS => ?_)
  have hP : va_P D sCl [(q, .inr (k, [.ref bq, .int nu, .int ki, .int ma, .int sh, .int lo, .int 0, .int 0, .int 0, .int 0]))] H := by have h9 := hw.2; rw [ht] at h9; exact h9
  exact ct_v C hr hlocks rfl (fun t ht hW => ⟨va_K.moved hW.alike hK, by rw [ht]; exact hP⟩) hS (Nat.le_of_ble_eq_true rfl) (Nat.le_of_ble_eq_true rfl) dX8_init_13
set_option maxHeartbeats 400000 in
set_option maxRecDepth 100000 in
/-- the constructor -/
theorem c_X1_init (l : Launch) (D : va_G) (q bq k : Nat) (nu ki ma lo sh : Int32) (hk : k < 9) : Ct l yX1_init (.code yX1_init cX1_init 7 none) ({ frames := 4, cells := 0, slots := 0, locals := 90 }) (fun a => a = q) [.ref q, .ref bq, .int nu, .int ki, .int ma, .int lo, .int sh] (Vn D q k [.null, .int 0, .int 0, .int 0, .int 0, .int 0, .int 0, .int 0, .int 0, .int 0]) (.inl none) (Vn D q k [.ref bq, .int nu, .int ki, .int ma, .int sh, .int lo, .int 0, .int 0, .int 0, .int 0]) := by
  refine ct_mk (by decide) (Nat.le_of_ble_eq_true rfl) (fun p e s m below meth c ls C hr hlocks hnm htab hP hl => ?_)
  obtain ⟨hK, hP⟩ := hP
  have hS : va_S (fun a => a = q) s.heap s.heap [] := va_S.rf
  have hl : lv_has ls 7 [(0, .ref q), (1, .ref bq), (2, .int nu), (3, .int ki), (4, .int ma), (5, .int lo), (6, .int sh)] := hl
  refine lv_aload_n C.1 C.2.1 dX1_init_0 rfl (lv_at hl 0 rfl) ?_
  refine lv_aload_n C.1 C.2.1 dX1_init_1 rfl (lv_at hl 1 rfl) ?_
  refine lv_iload_n C.1 C.2.1 dX1_init_2 rfl (lv_at hl 2 rfl) ?_
  refine lv_iload_n C.1 C.2.1 dX1_init_3 rfl (lv_at hl 3 rfl) ?_
  refine lv_iload C.1 C.2.1 dX1_init_4 (lv_at hl 4 rfl) ?_
  refine lv_iload C.1 C.2.1 dX1_init_6 (lv_at hl 5 rfl) ?_
  refine lv_iload C.1 C.2.1 dX1_init_8 (lv_at hl 6 rfl) ?_
  refine ct_ret (ct_I C (c_X7_init l D q bq k nu ki ma lo sh hk) Vn_bl tb_215 tb_8 ⟨Nat.le_of_ble_eq_true rfl, Nat.le_of_ble_eq_true rfl⟩ tb_250 rfl ⟨by decide, by decide⟩ tb_214 (fun U hU hW => ⟨va_K.moved hW.alike hK, by rw [hU]; exact hP⟩) (by show _ = some 6; decide +kernel) hl.1 rfl (Nat.le_of_ble_eq_true rfl) dX1_init_10 ⟨Nat.le_of_ble_eq_true rfl, Nat.le_of_ble_eq_true rfl⟩) hS (fun _ h => h) (fun t H locs ht hvm hw _ _ hS => ?_)
  have hP : va_P D sCl [(q, .inr (k, [.ref bq, .int nu, .int ki, .int ma, .int sh, .int lo, .int 0, .int 0, .int 0, .int 0]))] H := by have h9 := hw.2; rw [ht] at h9; exact h9
  exact ct_v C hr hlocks rfl (fun t ht hW => ⟨va_K.moved hW.alike hK, by rw [ht]; exact hP⟩) hS (Nat.le_of_ble_eq_true rfl) (Nat.le_of_ble_eq_true rfl) dX1_init_13
set_option maxHeartbeats 400000 in
set_option maxRecDepth 100000 in
/-- the constructor -/
theorem c_X6_init (l : Launch) (D : va_G) (q bq k : Nat) (nu ki ma lo sh : Int32) (hk : k < 9) : Ct l yX6_init (.code yX6_init cX6_init 7 none) ({ frames := 5, cells := 0, slots := 0, locals := 116 }) (fun a => a = q) [.ref q, .ref bq, .int nu, .int ki, .int ma, .int lo, .int sh] (Vn D q k [.null, .int 0, .int 0, .int 0, .int 0, .int 0, .int 0, .int 0, .int 0, .int 0]) (.inl none) (Vn D q k [.ref bq, .int nu, .int ki, .int ma, .int sh, .int lo, .int 0, .int 0, .int 0, .int 0]) := by
  refine ct_mk (by decide) (Nat.le_of_ble_eq_true rfl) (fun p e s m below meth c ls C hr hlocks hnm htab hP hl => ?_)
  obtain ⟨hK, hP⟩ := hP
  have hS : va_S (fun a => a = q) s.heap s.heap [] := va_S.rf
  have hl : lv_has ls 7 [(0, .ref q), (1, .ref bq), (2, .int nu), (3, .int ki), (4, .int ma), (5, .int lo), (6, .int sh)] := hl
  refine lv_aload_n C.1 C.2.1 dX6_init_0 rfl (lv_at hl 0 rfl) ?_
  refine lv_aload_n C.1 C.2.1 dX6_init_1 rfl (lv_at hl 1 rfl) ?_
  refine lv_iload_n C.1 C.2.1 dX6_init_2 rfl (lv_at hl 2 rfl) ?_
  refine lv_iload_n C.1 C.2.1 dX6_init_3 rfl (lv_at hl 3 rfl) ?_
  refine lv_iload C.1 C.2.1 dX6_init_4 (lv_at hl 4 rfl) ?_
  refine lv_iload C.1 C.2.1 dX6_init_6 (lv_at hl 5 rfl) ?_
  refine lv_iload C.1 C.2.1 dX6_init_8 (lv_at hl 6 rfl) ?_
  refine ct_ret (ct_I C (c_X1_init l D q bq k nu ki ma lo sh hk) Vn_bl tb_249 tb_10 ⟨Nat.le_of_ble_eq_true rfl, Nat.le_of_ble_eq_true rfl⟩ tb_267 rfl ⟨by decide, by decide⟩ tb_248 (fun U hU hW => ⟨va_K.moved hW.alike hK, by rw [hU]; exact hP⟩) (by show _ = some 6; decide +kernel) hl.1 rfl (Nat.le_of_ble_eq_true rfl) dX6_init_10 ⟨Nat.le_of_ble_eq_true rfl, Nat.le_of_ble_eq_true rfl⟩) hS (fun _ h => h) (fun t H locs ht hvm hw _ _ hS => ?_)
  have hP : va_P D sCl [(q, .inr (k, [.ref bq, .int nu, .int ki, .int ma, .int sh, .int lo, .int 0, .int 0, .int 0, .int 0]))] H := by have h9 := hw.2; rw [ht] at h9; exact h9
  exact ct_v C hr hlocks rfl (fun t ht hW => ⟨va_K.moved hW.alike hK, by rw [ht]; exact hP⟩) hS (Nat.le_of_ble_eq_true rfl) (Nat.le_of_ble_eq_true rfl) dX6_init_13
/-- the world, and a new object beside it -/
abbrev Xn (D : va_G) (A : Nat → Prop) (P : SwP) (F : Nat → Nat → Int32) (B G : Nat → Int32) (dk : List Nat) (sz k : Nat) (fs : List Value) : State → Prop := fun U => Xp D A P F B G dk U ∧ va_P D sCl [(sz, .inr (k, fs))] U.heap
theorem x_keptA {D : va_G} {A A1 : Nat → Prop} {P : SwP} {F : Nat → Nat → Int32} {B G : Nat → Int32} {n : Int32} {fd : Nat → Option Nat} {s : State} {H H1 : Heap} (hw : XwR D A P F B G n fd s H) (hk : ∀ a : Nat, a < H.size → H1[a]? = H[a]?) : XwR D A P F B G n fd s H1 := ⟨hw.1, hw.2.1.kept (fun k q hq => hk q.1 (vx_lt hw.2.1 hq)), hw.2.2⟩
set_option maxHeartbeats 400000 in
set_option maxRecDepth 100000 in
/-- a new vehicle -/
theorem c_X10_make (l : Launch) (D : va_G) (A : Nat → Prop) (P : SwP) (F : Nat → Nat → Int32) (B G : Nat → Int32) (dk : List Nat) (sz k : Nat) (nu ma lo sh : Int32) (hk : k < 9) : Ct l yX10_make (.code yX10_make cX10_make 6 (some (.object "SwingBridge$Cart"))) ({ frames := 6, cells := 1, slots := 10, locals := 150 }) A [.ref (pS P), .int nu, .int (nI k), .int ma, .int lo, .int sh] (fun U => U.heap.size = sz ∧ Ev A U ∧ Xp D A P F B G dk U) (.inl (some (.ref sz))) (Xn D A P F B G dk sz k [.ref (pB P), .int nu, .int (nI k), .int ma, .int sh, .int lo, .int 0, .int 0, .int 0, .int 0]) := by
  refine ct_mk (by decide) (Nat.le_of_ble_eq_true rfl) (fun p e s m below meth c ls C hr hlocks hnm htab hP hl => ?_)
  obtain ⟨hsz, hE, hw⟩ := hP
  subst hsz
  have hS : va_S A s.heap s.heap [] := va_S.rf
  have hl : lv_has ls 6 [(0, .ref (pS P)), (1, .int nu), (2, .int (nI k)), (3, .int ma), (4, .int lo), (5, .int sh)] := hl
  refine lv_iload_n C.1 C.2.1 dX10_make_0 rfl (lv_at hl 2 rfl) ?_
  rcases (show k = 0 ∨ k = 1 ∨ k = 2 ∨ k = 3 ∨ k = 4 ∨ k = 5 ∨ k = 6 ∨ k = 7 ∨ k = 8 by omega) with rfl | rfl | rfl | rfl | rfl | rfl | rfl | rfl | rfl
  · have hP0 := hw
    refine lv_tableOut (tgt := 200) C.1 C.2.1 dX10_make_1 (Or.inl (by decide)) (by decide) ?_
    refine x_new (ci := 0) (fs := [.null, .int 0, .int 0, .int 0, .int 0, .int 0, .int 0, .int 0, .int 0, .int 0]) C tyX4 tyX4_ok inX4 rfl hw.1 tb_80 tb_296 tb_4 (fun j hj => by rcases (show j = 0 ∨ j = 1 ∨ j = 2 ∨ j = 3 ∨ j = 4 ∨ j = 5 ∨ j = 6 ∨ j = 7 ∨ j = 8 ∨ j = 9 by omega) with rfl | rfl | rfl | rfl | rfl | rfl | rfl | rfl | rfl | rfl <;> rfl) (Nat.le_of_ble_eq_true rfl) (Nat.le_of_ble_eq_true rfl) dX10_make_200 (fun H z1 o1 hn => ?_)
    have hS := S_new hS z1 o1
    have hw := x_keptA (A1 := A) hw o1
    refine lv_dup C.1 C.2.1 dX10_make_203 rfl ?_
    refine lv_aload_n C.1 C.2.1 dX10_make_204 rfl (lv_at hl 0 rfl) ?_
    refine xs_get C hw 0 (by decide) tb_81 rfl dX10_make_205 ?_
    refine lv_iload_n C.1 C.2.1 dX10_make_208 rfl (lv_at hl 1 rfl) ?_
    refine lv_iload_n C.1 C.2.1 dX10_make_209 rfl (lv_at hl 2 rfl) ?_
    refine lv_iload_n C.1 C.2.1 dX10_make_210 rfl (lv_at hl 3 rfl) ?_
    refine lv_iload C.1 C.2.1 dX10_make_211 (lv_at hl 4 rfl) ?_
    refine lv_iload C.1 C.2.1 dX10_make_213 (lv_at hl 5 rfl) ?_
    refine ct_ret (ct_I C (c_X4_init l D s.heap.size (pB P) 0 nu (nI 0) ma lo sh (by decide)) Vn_bl tb_109 tb_4 ⟨Nat.le_of_ble_eq_true rfl, Nat.le_of_ble_eq_true rfl⟩ tb_297 rfl ⟨by decide, by decide⟩ tb_108 (fun U hU hW => ⟨(va_K.moved hW.alike hw.1).sub [] rfl, by rw [hU]; exact hn⟩) (by show _ = some 6; decide +kernel) hl.1 rfl (Nat.le_of_ble_eq_true rfl) dX10_make_215 ⟨Nat.le_of_ble_eq_true rfl, Nat.le_of_ble_eq_true rfl⟩) hS (fun a h => by rw [h]; exact hE.1 _ (Nat.le_refl _)) (fun t H1 locs ht hvm hn1 hz2 hk2 hS => ?_)
    have hn1 := hn1.2
    rw [ht] at hn1
    have hw : XwR D A P F B G (nI dk.length) (dfd P dk) s H1 := ⟨hw.1, hP0.2.1.kept (fun k q hq => (hk2 q.1 (by have := vx_lt hP0.2.1 hq; omega) (fun h => by have := vx_lt hP0.2.1 hq; omega)).trans (o1 q.1 (vx_lt hP0.2.1 hq))), hw.2.2⟩
    exact ct_a (r := some s.heap.size) C hr (Or.inl ⟨_, rfl⟩) hlocks rfl (fun t ht hW => ⟨x_post hw ht hW, by rw [ht]; exact hn1⟩) hS (Nat.le_of_ble_eq_true rfl) (Nat.le_of_ble_eq_true rfl) dX10_make_218
  · have hP0 := hw
    refine lv_tableIn (tgt := 48) C.1 C.2.1 dX10_make_1 (by decide) (by decide) rfl (by decide) ?_
    refine x_new (ci := 1) (fs := [.null, .int 0, .int 0, .int 0, .int 0, .int 0, .int 0, .int 0, .int 0, .int 0]) C tyX4 tyX4_ok inX9 rfl hw.1 tb_102 tb_103 tb_5 (fun j hj => by rcases (show j = 0 ∨ j = 1 ∨ j = 2 ∨ j = 3 ∨ j = 4 ∨ j = 5 ∨ j = 6 ∨ j = 7 ∨ j = 8 ∨ j = 9 by omega) with rfl | rfl | rfl | rfl | rfl | rfl | rfl | rfl | rfl | rfl <;> rfl) (Nat.le_of_ble_eq_true rfl) (Nat.le_of_ble_eq_true rfl) dX10_make_48 (fun H z1 o1 hn => ?_)
    have hS := S_new hS z1 o1
    have hw := x_keptA (A1 := A) hw o1
    refine lv_dup C.1 C.2.1 dX10_make_51 rfl ?_
    refine lv_aload_n C.1 C.2.1 dX10_make_52 rfl (lv_at hl 0 rfl) ?_
    refine xs_get C hw 0 (by decide) tb_81 rfl dX10_make_53 ?_
    refine lv_iload_n C.1 C.2.1 dX10_make_56 rfl (lv_at hl 1 rfl) ?_
    refine lv_iload_n C.1 C.2.1 dX10_make_57 rfl (lv_at hl 2 rfl) ?_
    refine lv_iload_n C.1 C.2.1 dX10_make_58 rfl (lv_at hl 3 rfl) ?_
    refine lv_iload C.1 C.2.1 dX10_make_59 (lv_at hl 4 rfl) ?_
    refine lv_iload C.1 C.2.1 dX10_make_61 (lv_at hl 5 rfl) ?_
    refine ct_ret (ct_I C (c_X9_init l D s.heap.size (pB P) 1 nu (nI 1) ma lo sh (by decide)) Vn_bl tb_106 tb_5 ⟨Nat.le_of_ble_eq_true rfl, Nat.le_of_ble_eq_true rfl⟩ tb_104 rfl ⟨by decide, by decide⟩ tb_105 (fun U hU hW => ⟨(va_K.moved hW.alike hw.1).sub [] rfl, by rw [hU]; exact hn⟩) (by show _ = some 6; decide +kernel) hl.1 rfl (Nat.le_of_ble_eq_true rfl) dX10_make_63 ⟨Nat.le_of_ble_eq_true rfl, Nat.le_of_ble_eq_true rfl⟩) hS (fun a h => by rw [h]; exact hE.1 _ (Nat.le_refl _)) (fun t H1 locs ht hvm hn1 hz2 hk2 hS => ?_)
    have hn1 := hn1.2
    rw [ht] at hn1
    have hw : XwR D A P F B G (nI dk.length) (dfd P dk) s H1 := ⟨hw.1, hP0.2.1.kept (fun k q hq => (hk2 q.1 (by have := vx_lt hP0.2.1 hq; omega) (fun h => by have := vx_lt hP0.2.1 hq; omega)).trans (o1 q.1 (vx_lt hP0.2.1 hq))), hw.2.2⟩
    exact ct_a (r := some s.heap.size) C hr (Or.inl ⟨_, rfl⟩) hlocks rfl (fun t ht hW => ⟨x_post hw ht hW, by rw [ht]; exact hn1⟩) hS (Nat.le_of_ble_eq_true rfl) (Nat.le_of_ble_eq_true rfl) dX10_make_66
  · have hP0 := hw
    refine lv_tableIn (tgt := 67) C.1 C.2.1 dX10_make_1 (by decide) (by decide) rfl (by decide) ?_
    refine x_new (ci := 2) (fs := [.null, .int 0, .int 0, .int 0, .int 0, .int 0, .int 0, .int 0, .int 0, .int 0]) C tyX4 tyX4_ok inX3 rfl hw.1 tb_177 tb_178 tb_6 (fun j hj => by rcases (show j = 0 ∨ j = 1 ∨ j = 2 ∨ j = 3 ∨ j = 4 ∨ j = 5 ∨ j = 6 ∨ j = 7 ∨ j = 8 ∨ j = 9 by omega) with rfl | rfl | rfl | rfl | rfl | rfl | rfl | rfl | rfl | rfl <;> rfl) (Nat.le_of_ble_eq_true rfl) (Nat.le_of_ble_eq_true rfl) dX10_make_67 (fun H z1 o1 hn => ?_)
    have hS := S_new hS z1 o1
    have hw := x_keptA (A1 := A) hw o1
    refine lv_dup C.1 C.2.1 dX10_make_70 rfl ?_
    refine lv_aload_n C.1 C.2.1 dX10_make_71 rfl (lv_at hl 0 rfl) ?_
    refine xs_get C hw 0 (by decide) tb_81 rfl dX10_make_72 ?_
    refine lv_iload_n C.1 C.2.1 dX10_make_75 rfl (lv_at hl 1 rfl) ?_
    refine lv_iload_n C.1 C.2.1 dX10_make_76 rfl (lv_at hl 2 rfl) ?_
    refine lv_iload_n C.1 C.2.1 dX10_make_77 rfl (lv_at hl 3 rfl) ?_
    refine lv_iload C.1 C.2.1 dX10_make_78 (lv_at hl 4 rfl) ?_
    refine lv_iload C.1 C.2.1 dX10_make_80 (lv_at hl 5 rfl) ?_
    refine ct_ret (ct_I C (c_X3_init l D s.heap.size (pB P) 2 nu (nI 2) ma lo sh (by decide)) Vn_bl tb_181 tb_6 ⟨Nat.le_of_ble_eq_true rfl, Nat.le_of_ble_eq_true rfl⟩ tb_179 rfl ⟨by decide, by decide⟩ tb_180 (fun U hU hW => ⟨(va_K.moved hW.alike hw.1).sub [] rfl, by rw [hU]; exact hn⟩) (by show _ = some 6; decide +kernel) hl.1 rfl (Nat.le_of_ble_eq_true rfl) dX10_make_82 ⟨Nat.le_of_ble_eq_true rfl, Nat.le_of_ble_eq_true rfl⟩) hS (fun a h => by rw [h]; exact hE.1 _ (Nat.le_refl _)) (fun t H1 locs ht hvm hn1 hz2 hk2 hS => ?_)
    have hn1 := hn1.2
    rw [ht] at hn1
    have hw : XwR D A P F B G (nI dk.length) (dfd P dk) s H1 := ⟨hw.1, hP0.2.1.kept (fun k q hq => (hk2 q.1 (by have := vx_lt hP0.2.1 hq; omega) (fun h => by have := vx_lt hP0.2.1 hq; omega)).trans (o1 q.1 (vx_lt hP0.2.1 hq))), hw.2.2⟩
    exact ct_a (r := some s.heap.size) C hr (Or.inl ⟨_, rfl⟩) hlocks rfl (fun t ht hW => ⟨x_post hw ht hW, by rw [ht]; exact hn1⟩) hS (Nat.le_of_ble_eq_true rfl) (Nat.le_of_ble_eq_true rfl) dX10_make_85
  · have hP0 := hw
    refine lv_tableIn (tgt := 86) C.1 C.2.1 dX10_make_1 (by decide) (by decide) rfl (by decide) ?_
    refine x_new (ci := 3) (fs := [.null, .int 0, .int 0, .int 0, .int 0, .int 0, .int 0, .int 0, .int 0, .int 0]) C tyX4 tyX4_ok inX2 rfl hw.1 tb_194 tb_195 tb_7 (fun j hj => by rcases (show j = 0 ∨ j = 1 ∨ j = 2 ∨ j = 3 ∨ j = 4 ∨ j = 5 ∨ j = 6 ∨ j = 7 ∨ j = 8 ∨ j = 9 by omega) with rfl | rfl | rfl | rfl | rfl | rfl | rfl | rfl | rfl | rfl <;> rfl) (Nat.le_of_ble_eq_true rfl) (Nat.le_of_ble_eq_true rfl) dX10_make_86 (fun H z1 o1 hn => ?_)
    have hS := S_new hS z1 o1
    have hw := x_keptA (A1 := A) hw o1
    refine lv_dup C.1 C.2.1 dX10_make_89 rfl ?_
    refine lv_aload_n C.1 C.2.1 dX10_make_90 rfl (lv_at hl 0 rfl) ?_
    refine xs_get C hw 0 (by decide) tb_81 rfl dX10_make_91 ?_
    refine lv_iload_n C.1 C.2.1 dX10_make_94 rfl (lv_at hl 1 rfl) ?_
    refine lv_iload_n C.1 C.2.1 dX10_make_95 rfl (lv_at hl 2 rfl) ?_
    refine lv_iload_n C.1 C.2.1 dX10_make_96 rfl (lv_at hl 3 rfl) ?_
    refine lv_iload C.1 C.2.1 dX10_make_97 (lv_at hl 4 rfl) ?_
    refine lv_iload C.1 C.2.1 dX10_make_99 (lv_at hl 5 rfl) ?_
    refine ct_ret (ct_I C (c_X2_init l D s.heap.size (pB P) 3 nu (nI 3) ma lo sh (by decide)) Vn_bl tb_198 tb_7 ⟨Nat.le_of_ble_eq_true rfl, Nat.le_of_ble_eq_true rfl⟩ tb_196 rfl ⟨by decide, by decide⟩ tb_197 (fun U hU hW => ⟨(va_K.moved hW.alike hw.1).sub [] rfl, by rw [hU]; exact hn⟩) (by show _ = some 6; decide +kernel) hl.1 rfl (Nat.le_of_ble_eq_true rfl) dX10_make_101 ⟨Nat.le_of_ble_eq_true rfl, Nat.le_of_ble_eq_true rfl⟩) hS (fun a h => by rw [h]; exact hE.1 _ (Nat.le_refl _)) (fun t H1 locs ht hvm hn1 hz2 hk2 hS => ?_)
    have hn1 := hn1.2
    rw [ht] at hn1
    have hw : XwR D A P F B G (nI dk.length) (dfd P dk) s H1 := ⟨hw.1, hP0.2.1.kept (fun k q hq => (hk2 q.1 (by have := vx_lt hP0.2.1 hq; omega) (fun h => by have := vx_lt hP0.2.1 hq; omega)).trans (o1 q.1 (vx_lt hP0.2.1 hq))), hw.2.2⟩
    exact ct_a (r := some s.heap.size) C hr (Or.inl ⟨_, rfl⟩) hlocks rfl (fun t ht hW => ⟨x_post hw ht hW, by rw [ht]; exact hn1⟩) hS (Nat.le_of_ble_eq_true rfl) (Nat.le_of_ble_eq_true rfl) dX10_make_104
  · have hP0 := hw
    refine lv_tableIn (tgt := 105) C.1 C.2.1 dX10_make_1 (by decide) (by decide) rfl (by decide) ?_
    refine x_new (ci := 4) (fs := [.null, .int 0, .int 0, .int 0, .int 0, .int 0, .int 0, .int 0, .int 0, .int 0]) C tyX4 tyX4_ok inX7 rfl hw.1 tb_211 tb_212 tb_8 (fun j hj => by rcases (show j = 0 ∨ j = 1 ∨ j = 2 ∨ j = 3 ∨ j = 4 ∨ j = 5 ∨ j = 6 ∨ j = 7 ∨ j = 8 ∨ j = 9 by omega) with rfl | rfl | rfl | rfl | rfl | rfl | rfl | rfl | rfl | rfl <;> rfl) (Nat.le_of_ble_eq_true rfl) (Nat.le_of_ble_eq_true rfl) dX10_make_105 (fun H z1 o1 hn => ?_)
    have hS := S_new hS z1 o1
    have hw := x_keptA (A1 := A) hw o1
    refine lv_dup C.1 C.2.1 dX10_make_108 rfl ?_
    refine lv_aload_n C.1 C.2.1 dX10_make_109 rfl (lv_at hl 0 rfl) ?_
    refine xs_get C hw 0 (by decide) tb_81 rfl dX10_make_110 ?_
    refine lv_iload_n C.1 C.2.1 dX10_make_113 rfl (lv_at hl 1 rfl) ?_
    refine lv_iload_n C.1 C.2.1 dX10_make_114 rfl (lv_at hl 2 rfl) ?_
    refine lv_iload_n C.1 C.2.1 dX10_make_115 rfl (lv_at hl 3 rfl) ?_
    refine lv_iload C.1 C.2.1 dX10_make_116 (lv_at hl 4 rfl) ?_
    refine lv_iload C.1 C.2.1 dX10_make_118 (lv_at hl 5 rfl) ?_
    refine ct_ret (ct_I C (c_X7_init l D s.heap.size (pB P) 4 nu (nI 4) ma lo sh (by decide)) Vn_bl tb_215 tb_8 ⟨Nat.le_of_ble_eq_true rfl, Nat.le_of_ble_eq_true rfl⟩ tb_213 rfl ⟨by decide, by decide⟩ tb_214 (fun U hU hW => ⟨(va_K.moved hW.alike hw.1).sub [] rfl, by rw [hU]; exact hn⟩) (by show _ = some 6; decide +kernel) hl.1 rfl (Nat.le_of_ble_eq_true rfl) dX10_make_120 ⟨Nat.le_of_ble_eq_true rfl, Nat.le_of_ble_eq_true rfl⟩) hS (fun a h => by rw [h]; exact hE.1 _ (Nat.le_refl _)) (fun t H1 locs ht hvm hn1 hz2 hk2 hS => ?_)
    have hn1 := hn1.2
    rw [ht] at hn1
    have hw : XwR D A P F B G (nI dk.length) (dfd P dk) s H1 := ⟨hw.1, hP0.2.1.kept (fun k q hq => (hk2 q.1 (by have := vx_lt hP0.2.1 hq; omega) (fun h => by have := vx_lt hP0.2.1 hq; omega)).trans (o1 q.1 (vx_lt hP0.2.1 hq))), hw.2.2⟩
    exact ct_a (r := some s.heap.size) C hr (Or.inl ⟨_, rfl⟩) hlocks rfl (fun t ht hW => ⟨x_post hw ht hW, by rw [ht]; exact hn1⟩) hS (Nat.le_of_ble_eq_true rfl) (Nat.le_of_ble_eq_true rfl) dX10_make_123
  · have hP0 := hw
    refine lv_tableIn (tgt := 124) C.1 C.2.1 dX10_make_1 (by decide) (by decide) rfl (by decide) ?_
    refine x_new (ci := 5) (fs := [.null, .int 0, .int 0, .int 0, .int 0, .int 0, .int 0, .int 0, .int 0, .int 0]) C tyX4 tyX4_ok inX8 rfl hw.1 tb_228 tb_229 tb_9 (fun j hj => by rcases (show j = 0 ∨ j = 1 ∨ j = 2 ∨ j = 3 ∨ j = 4 ∨ j = 5 ∨ j = 6 ∨ j = 7 ∨ j = 8 ∨ j = 9 by omega) with rfl | rfl | rfl | rfl | rfl | rfl | rfl | rfl | rfl | rfl <;> rfl) (Nat.le_of_ble_eq_true rfl) (Nat.le_of_ble_eq_true rfl) dX10_make_124 (fun H z1 o1 hn => ?_)
    have hS := S_new hS z1 o1
    have hw := x_keptA (A1 := A) hw o1
    refine lv_dup C.1 C.2.1 dX10_make_127 rfl ?_
    refine lv_aload_n C.1 C.2.1 dX10_make_128 rfl (lv_at hl 0 rfl) ?_
    refine xs_get C hw 0 (by decide) tb_81 rfl dX10_make_129 ?_
    refine lv_iload_n C.1 C.2.1 dX10_make_132 rfl (lv_at hl 1 rfl) ?_
    refine lv_iload_n C.1 C.2.1 dX10_make_133 rfl (lv_at hl 2 rfl) ?_
    refine lv_iload_n C.1 C.2.1 dX10_make_134 rfl (lv_at hl 3 rfl) ?_
    refine lv_iload C.1 C.2.1 dX10_make_135 (lv_at hl 4 rfl) ?_
    refine lv_iload C.1 C.2.1 dX10_make_137 (lv_at hl 5 rfl) ?_
    refine ct_ret (ct_I C (c_X8_init l D s.heap.size (pB P) 5 nu (nI 5) ma lo sh (by decide)) Vn_bl tb_232 tb_9 ⟨Nat.le_of_ble_eq_true rfl, Nat.le_of_ble_eq_true rfl⟩ tb_230 rfl ⟨by decide, by decide⟩ tb_231 (fun U hU hW => ⟨(va_K.moved hW.alike hw.1).sub [] rfl, by rw [hU]; exact hn⟩) (by show _ = some 6; decide +kernel) hl.1 rfl (Nat.le_of_ble_eq_true rfl) dX10_make_139 ⟨Nat.le_of_ble_eq_true rfl, Nat.le_of_ble_eq_true rfl⟩) hS (fun a h => by rw [h]; exact hE.1 _ (Nat.le_refl _)) (fun t H1 locs ht hvm hn1 hz2 hk2 hS => ?_)
    have hn1 := hn1.2
    rw [ht] at hn1
    have hw : XwR D A P F B G (nI dk.length) (dfd P dk) s H1 := ⟨hw.1, hP0.2.1.kept (fun k q hq => (hk2 q.1 (by have := vx_lt hP0.2.1 hq; omega) (fun h => by have := vx_lt hP0.2.1 hq; omega)).trans (o1 q.1 (vx_lt hP0.2.1 hq))), hw.2.2⟩
    exact ct_a (r := some s.heap.size) C hr (Or.inl ⟨_, rfl⟩) hlocks rfl (fun t ht hW => ⟨x_post hw ht hW, by rw [ht]; exact hn1⟩) hS (Nat.le_of_ble_eq_true rfl) (Nat.le_of_ble_eq_true rfl) dX10_make_142
  · have hP0 := hw
    refine lv_tableIn (tgt := 143) C.1 C.2.1 dX10_make_1 (by decide) (by decide) rfl (by decide) ?_
    refine x_new (ci := 6) (fs := [.null, .int 0, .int 0, .int 0, .int 0, .int 0, .int 0, .int 0, .int 0, .int 0]) C tyX4 tyX4_ok inX1 rfl hw.1 tb_245 tb_246 tb_10 (fun j hj => by rcases (show j = 0 ∨ j = 1 ∨ j = 2 ∨ j = 3 ∨ j = 4 ∨ j = 5 ∨ j = 6 ∨ j = 7 ∨ j = 8 ∨ j = 9 by omega) with rfl | rfl | rfl | rfl | rfl | rfl | rfl | rfl | rfl | rfl <;> rfl) (Nat.le_of_ble_eq_true rfl) (Nat.le_of_ble_eq_true rfl) dX10_make_143 (fun H z1 o1 hn => ?_)
    have hS := S_new hS z1 o1
    have hw := x_keptA (A1 := A) hw o1
    refine lv_dup C.1 C.2.1 dX10_make_146 rfl ?_
    refine lv_aload_n C.1 C.2.1 dX10_make_147 rfl (lv_at hl 0 rfl) ?_
    refine xs_get C hw 0 (by decide) tb_81 rfl dX10_make_148 ?_
    refine lv_iload_n C.1 C.2.1 dX10_make_151 rfl (lv_at hl 1 rfl) ?_
    refine lv_iload_n C.1 C.2.1 dX10_make_152 rfl (lv_at hl 2 rfl) ?_
    refine lv_iload_n C.1 C.2.1 dX10_make_153 rfl (lv_at hl 3 rfl) ?_
    refine lv_iload C.1 C.2.1 dX10_make_154 (lv_at hl 4 rfl) ?_
    refine lv_iload C.1 C.2.1 dX10_make_156 (lv_at hl 5 rfl) ?_
    refine ct_ret (ct_I C (c_X1_init l D s.heap.size (pB P) 6 nu (nI 6) ma lo sh (by decide)) Vn_bl tb_249 tb_10 ⟨Nat.le_of_ble_eq_true rfl, Nat.le_of_ble_eq_true rfl⟩ tb_247 rfl ⟨by decide, by decide⟩ tb_248 (fun U hU hW => ⟨(va_K.moved hW.alike hw.1).sub [] rfl, by rw [hU]; exact hn⟩) (by show _ = some 6; decide +kernel) hl.1 rfl (Nat.le_of_ble_eq_true rfl) dX10_make_158 ⟨Nat.le_of_ble_eq_true rfl, Nat.le_of_ble_eq_true rfl⟩) hS (fun a h => by rw [h]; exact hE.1 _ (Nat.le_refl _)) (fun t H1 locs ht hvm hn1 hz2 hk2 hS => ?_)
    have hn1 := hn1.2
    rw [ht] at hn1
    have hw : XwR D A P F B G (nI dk.length) (dfd P dk) s H1 := ⟨hw.1, hP0.2.1.kept (fun k q hq => (hk2 q.1 (by have := vx_lt hP0.2.1 hq; omega) (fun h => by have := vx_lt hP0.2.1 hq; omega)).trans (o1 q.1 (vx_lt hP0.2.1 hq))), hw.2.2⟩
    exact ct_a (r := some s.heap.size) C hr (Or.inl ⟨_, rfl⟩) hlocks rfl (fun t ht hW => ⟨x_post hw ht hW, by rw [ht]; exact hn1⟩) hS (Nat.le_of_ble_eq_true rfl) (Nat.le_of_ble_eq_true rfl) dX10_make_161
  · have hP0 := hw
    refine lv_tableIn (tgt := 162) C.1 C.2.1 dX10_make_1 (by decide) (by decide) rfl (by decide) ?_
    refine x_new (ci := 7) (fs := [.null, .int 0, .int 0, .int 0, .int 0, .int 0, .int 0, .int 0, .int 0, .int 0]) C tyX4 tyX4_ok inX6 rfl hw.1 tb_262 tb_263 tb_11 (fun j hj => by rcases (show j = 0 ∨ j = 1 ∨ j = 2 ∨ j = 3 ∨ j = 4 ∨ j = 5 ∨ j = 6 ∨ j = 7 ∨ j = 8 ∨ j = 9 by omega) with rfl | rfl | rfl | rfl | rfl | rfl | rfl | rfl | rfl | rfl <;> rfl) (Nat.le_of_ble_eq_true rfl) (Nat.le_of_ble_eq_true rfl) dX10_make_162 (fun H z1 o1 hn => ?_)
    have hS := S_new hS z1 o1
    have hw := x_keptA (A1 := A) hw o1
    refine lv_dup C.1 C.2.1 dX10_make_165 rfl ?_
    refine lv_aload_n C.1 C.2.1 dX10_make_166 rfl (lv_at hl 0 rfl) ?_
    refine xs_get C hw 0 (by decide) tb_81 rfl dX10_make_167 ?_
    refine lv_iload_n C.1 C.2.1 dX10_make_170 rfl (lv_at hl 1 rfl) ?_
    refine lv_iload_n C.1 C.2.1 dX10_make_171 rfl (lv_at hl 2 rfl) ?_
    refine lv_iload_n C.1 C.2.1 dX10_make_172 rfl (lv_at hl 3 rfl) ?_
    refine lv_iload C.1 C.2.1 dX10_make_173 (lv_at hl 4 rfl) ?_
    refine lv_iload C.1 C.2.1 dX10_make_175 (lv_at hl 5 rfl) ?_
    refine ct_ret (ct_I C (c_X6_init l D s.heap.size (pB P) 7 nu (nI 7) ma lo sh (by decide)) Vn_bl tb_266 tb_11 ⟨Nat.le_of_ble_eq_true rfl, Nat.le_of_ble_eq_true rfl⟩ tb_264 rfl ⟨by decide, by decide⟩ tb_265 (fun U hU hW => ⟨(va_K.moved hW.alike hw.1).sub [] rfl, by rw [hU]; exact hn⟩) (by show _ = some 6; decide +kernel) hl.1 rfl (Nat.le_of_ble_eq_true rfl) dX10_make_177 ⟨Nat.le_of_ble_eq_true rfl, Nat.le_of_ble_eq_true rfl⟩) hS (fun a h => by rw [h]; exact hE.1 _ (Nat.le_refl _)) (fun t H1 locs ht hvm hn1 hz2 hk2 hS => ?_)
    have hn1 := hn1.2
    rw [ht] at hn1
    have hw : XwR D A P F B G (nI dk.length) (dfd P dk) s H1 := ⟨hw.1, hP0.2.1.kept (fun k q hq => (hk2 q.1 (by have := vx_lt hP0.2.1 hq; omega) (fun h => by have := vx_lt hP0.2.1 hq; omega)).trans (o1 q.1 (vx_lt hP0.2.1 hq))), hw.2.2⟩
    exact ct_a (r := some s.heap.size) C hr (Or.inl ⟨_, rfl⟩) hlocks rfl (fun t ht hW => ⟨x_post hw ht hW, by rw [ht]; exact hn1⟩) hS (Nat.le_of_ble_eq_true rfl) (Nat.le_of_ble_eq_true rfl) dX10_make_180
  · have hP0 := hw
    refine lv_tableIn (tgt := 181) C.1 C.2.1 dX10_make_1 (by decide) (by decide) rfl (by decide) ?_
    refine x_new (ci := 8) (fs := [.null, .int 0, .int 0, .int 0, .int 0, .int 0, .int 0, .int 0, .int 0, .int 0]) C tyX4 tyX4_ok inX5 rfl hw.1 tb_279 tb_280 tb_12 (fun j hj => by rcases (show j = 0 ∨ j = 1 ∨ j = 2 ∨ j = 3 ∨ j = 4 ∨ j = 5 ∨ j = 6 ∨ j = 7 ∨ j = 8 ∨ j = 9 by omega) with rfl | rfl | rfl | rfl | rfl | rfl | rfl | rfl | rfl | rfl <;> rfl) (Nat.le_of_ble_eq_true rfl) (Nat.le_of_ble_eq_true rfl) dX10_make_181 (fun H z1 o1 hn => ?_)
    have hS := S_new hS z1 o1
    have hw := x_keptA (A1 := A) hw o1
    refine lv_dup C.1 C.2.1 dX10_make_184 rfl ?_
    refine lv_aload_n C.1 C.2.1 dX10_make_185 rfl (lv_at hl 0 rfl) ?_
    refine xs_get C hw 0 (by decide) tb_81 rfl dX10_make_186 ?_
    refine lv_iload_n C.1 C.2.1 dX10_make_189 rfl (lv_at hl 1 rfl) ?_
    refine lv_iload_n C.1 C.2.1 dX10_make_190 rfl (lv_at hl 2 rfl) ?_
    refine lv_iload_n C.1 C.2.1 dX10_make_191 rfl (lv_at hl 3 rfl) ?_
    refine lv_iload C.1 C.2.1 dX10_make_192 (lv_at hl 4 rfl) ?_
    refine lv_iload C.1 C.2.1 dX10_make_194 (lv_at hl 5 rfl) ?_
    refine ct_ret (ct_I C (c_X5_init l D s.heap.size (pB P) 8 nu (nI 8) ma lo sh (by decide)) Vn_bl tb_283 tb_12 ⟨Nat.le_of_ble_eq_true rfl, Nat.le_of_ble_eq_true rfl⟩ tb_281 rfl ⟨by decide, by decide⟩ tb_282 (fun U hU hW => ⟨(va_K.moved hW.alike hw.1).sub [] rfl, by rw [hU]; exact hn⟩) (by show _ = some 6; decide +kernel) hl.1 rfl (Nat.le_of_ble_eq_true rfl) dX10_make_196 ⟨Nat.le_of_ble_eq_true rfl, Nat.le_of_ble_eq_true rfl⟩) hS (fun a h => by rw [h]; exact hE.1 _ (Nat.le_refl _)) (fun t H1 locs ht hvm hn1 hz2 hk2 hS => ?_)
    have hn1 := hn1.2
    rw [ht] at hn1
    have hw : XwR D A P F B G (nI dk.length) (dfd P dk) s H1 := ⟨hw.1, hP0.2.1.kept (fun k q hq => (hk2 q.1 (by have := vx_lt hP0.2.1 hq; omega) (fun h => by have := vx_lt hP0.2.1 hq; omega)).trans (o1 q.1 (vx_lt hP0.2.1 hq))), hw.2.2⟩
    exact ct_a (r := some s.heap.size) C hr (Or.inl ⟨_, rfl⟩) hlocks rfl (fun t ht hW => ⟨x_post hw ht hW, by rw [ht]; exact hn1⟩) hS (Nat.le_of_ble_eq_true rfl) (Nat.le_of_ble_eq_true rfl) dX10_make_199
end
section
/-! add -/
def addO (ki ma lo sh : Int32) : Bool := outs ki 0 8 || outs ma 1 5000 || (outs lo 0 5000 || outs sh 0 100)
def addP0 (P : SwP) (sz k : Nat) : SwP := (fun j => if j = 7 then pn P + 1 else P.1 j, va_up (pa P) (pn P) sz, va_up (pk P) (pn P) k)
def addF0 (n : Nat) (F : Nat → Nat → Int32) (ki ma lo sh : Int32) : Nat → Nat → Int32 := fun a b => if a = n then (if b = 2 then ki else if b = 3 then ma else if b = 4 then sh else if b = 5 then lo else 0) else F a b
def addV (n : Nat) (ki ma lo sh : Int32) : Int32 := if addO ki ma lo sh = true then -102 else if n = 24 then -104 else nI n
def addP (P : SwP) (sz : Nat) (ki ma lo sh : Int32) : SwP := if addO ki ma lo sh = true then P else if pn P = 24 then P else addP0 P sz ki.toNatClampNeg
def addF (n : Nat) (F : Nat → Nat → Int32) (ki ma lo sh : Int32) : Nat → Nat → Int32 := if addO ki ma lo sh = true then F else if n = 24 then F else addF0 n F ki ma lo sh
section AddS
variable {P : SwP} {sz k : Nat} {F : Nat → Nat → Int32} {B G : Nat → Int32} {dk : List Nat} {ki ma lo sh : Int32}
theorem a_pn : pn (addP0 P sz k) = pn P + 1 := rfl
theorem a_pa {j : Nat} (h : j < pn P) : pa (addP0 P sz k) j = pa P j := va_up_ne _ _ (by omega)
theorem a_pk {j : Nat} (h : j < pn P) : pk (addP0 P sz k) j = pk P j := va_up_ne _ _ (by omega)
theorem a_pan : pa (addP0 P sz k) (pn P) = sz := va_up_self _ _ _
theorem a_pkn : pk (addP0 P sz k) (pn P) = k := va_up_self _ _ _
theorem a_F {a b : Nat} (h : a ≠ pn P) : addF0 (pn P) F ki ma lo sh a b = F a b := if_neg h
theorem a_dfd (hd : ∀ v, v ∈ dk → v < pn P) : dfd (addP0 P sz k) dk = dfd P dk := by
  funext j
  unfold dfd
  cases h : dk[j]? with
  | none => rfl
  | some v => exact congrArg some (a_pa (hd v (List.mem_of_getElem? h)))
theorem a_vfd : vfd (addP0 P sz k) = va_up (vfd P) (pn P) (some sz) := by
  funext j
  unfold vfd va_up
  dsimp only
  rw [a_pn]
  by_cases h : j = pn P
  · subst h
    rw [if_pos (by omega), if_pos rfl, a_pan]
  · rw [if_neg h]
    by_cases h2 : j < pn P
    · rw [if_pos (by omega), if_pos h2, a_pa h2]
    · rw [if_neg (by omega), if_neg h2]
theorem a_ws {n : Int32} {fd : Nat → Option Nat} : ((xws P F B G n fd ++ [(sz, (.inr (k, [.ref (pB P), .int (nI (pn P)), .int ki, .int ma, .int sh, .int lo, .int 0, .int 0, .int 0, .int 0]) : va_E))]).set 2 (pV P, .inl (pR P, 24, .inr (.inr (.inr (.inr (va_up (vfd P) (pn P) (some sz)))))))).set 0 (pS P, .inr (10, [.ref (pB P), .ref (pV P), .int (nI (pn P) + 1)])) = xws (addP0 P sz k) (addF0 (pn P) F ki ma lo sh) B G n fd := by
  unfold xws
  rw [a_pn, List.range_succ, List.map_append, List.append_assoc]
  have h1 : (List.range (pn P)).map (vcell (addP0 P sz k) (addF0 (pn P) F ki ma lo sh)) = (List.range (pn P)).map (vcell P F) := by
    apply List.map_congr_left
    intro j hj
    have hj : j < pn P := List.mem_range.mp hj
    unfold vcell vfs
    rw [a_pa hj, a_pk hj, a_F (by omega), a_F (by omega), a_F (by omega), a_F (by omega), a_F (by omega), a_F (by omega), a_F (by omega), a_F (by omega)]
    rfl
  have h2 : [pn P].map (vcell (addP0 P sz k) (addF0 (pn P) F ki ma lo sh)) = [(sz, (.inr (k, [.ref (pB P), .int (nI (pn P)), .int ki, .int ma, .int sh, .int lo, .int 0, .int 0, .int 0, .int 0]) : va_E))] := by
    show [vcell _ _ _] = _
    unfold vcell vfs
    rw [a_pan, a_pkn]
    unfold addF0
    simp only [if_true]
    rfl
  rw [h1, h2]
  unfold xfix
  rw [a_vfd, nI_1]
  rfl
theorem add_k (h : outs ki 0 8 = false) : ∃ k : Nat, k < 9 ∧ ki = nI k := by
  have h1 := of_decide_eq_false h
  obtain ⟨j, hj, e⟩ := nI_of2 (M := 8) (n := 8) rfl (fun q => h1 (Or.inl q)) (Int32.not_lt.mp (fun q => h1 (Or.inr q)))
  exact ⟨j, by omega, e⟩
theorem addO_f (h : addO ki ma lo sh = false) : outs ki 0 8 = false ∧ outs ma 1 5000 = false ∧ outs lo 0 5000 = false ∧ outs sh 0 100 = false := by
  unfold addO at h
  simpa [Bool.or_eq_false_iff, and_assoc] using h
theorem add_inv (hI : Inv P (F, B, G, dk)) (hO : addO ki ma lo sh = false) (hn : pn P ≠ 24) (hk : k < 9) (hki : ki = nI k) : Inv (addP0 P sz k) (addF0 (pn P) F ki ma lo sh, B, G, dk) := by
  obtain ⟨i1, i2, i3, i4, i5, i6, i7, i8⟩ := hI
  have hlt : ∀ v, v ∈ dk → v < pn P := i1.2.2.2.1
  have h24 : pn P ≤ 24 := i1.1
  have hs := addO_f hO
  refine ⟨⟨by rw [a_pn]; omega, fun j hj => ?_, fun j hj => ?_, fun v hv => by rw [a_pn]; exact Nat.lt_succ_of_lt (hlt v hv), i1.2.2.2.2⟩, i2, fun j hj => (a_F (Nat.ne_of_lt (hlt j hj))).trans (i3 j hj), fun j hj hn2 => ?_, i5, i6, fun j hj => ?_, fun a ha b => ?_⟩
  · rw [a_pn] at hj
    by_cases q : j = pn P
    · rw [q, a_pkn]; exact hk
    · rw [a_pk (by omega)]; exact i1.2.1 j (by omega)
  · rw [a_pn] at hj
    by_cases q : j = pn P
    · rw [q, a_pkn, ← hki]; exact (if_pos rfl).trans (if_pos rfl)
    · rw [a_pk (by omega)]; exact (a_F q).trans (i1.2.2.1 j (by omega))
  · rw [a_pn] at hj
    by_cases q : j = pn P
    · rw [q]; exact (if_pos rfl).trans rfl
    · exact (a_F q).trans (i4 j (by omega) hn2)
  · rw [a_pn] at hj
    by_cases q : j = pn P
    · have h4 := of_decide_eq_false hs.2.2.2
      show addF0 (pn P) F ki ma lo sh j 4 ≤ 100
      rw [q, show addF0 (pn P) F ki ma lo sh (pn P) 4 = sh from (if_pos rfl).trans rfl]
      exact Int32.not_lt.mp (fun z => h4 (Or.inr z))
    · show addF0 (pn P) F ki ma lo sh j 4 ≤ 100
      rw [a_F q]; exact i7 j (by omega)
  · rw [a_pn] at ha
    exact (a_F (by omega)).trans (i8 a (by omega) b)
end AddS
set_option maxHeartbeats 400000 in
set_option maxRecDepth 100000 in
/-- isOutside makes nothing -/
theorem c_X10_isOutsideZ (l : Launch) (sz : Nat) (x a b : Int32) : Ct l yX10_isOutside (.code yX10_isOutside cX10_isOutside 3 (some .boolean)) ({ frames := 0, cells := 0, slots := 0, locals := 0 }) No [.int x, .int a, .int b] (fun U => U.heap.size = sz) (.inl (some (.int (b2i (outs x a b))))) (fun U => U.heap.size = sz) := by
  refine ct_mk (by decide) (Nat.le_of_ble_eq_true rfl) (fun p e s m below meth c ls C hr hlocks hnm htab hP hl => ?_)
  have hS : va_S No s.heap s.heap [] := va_S.rf
  have hl : lv_has ls 3 [(0, .int x), (1, .int a), (2, .int b)] := hl
  refine lv_iload_n C.1 C.2.1 dX10_isOutside_0 rfl (lv_at hl 0 rfl) ?_
  refine lv_iload_n C.1 C.2.1 dX10_isOutside_1 rfl (lv_at hl 1 rfl) ?_
  refine lv_icmp_lt (tgt := 10) C.1 C.2.1 dX10_isOutside_2 (by decide) (fun h1 => ?_) (fun h1 => ?_)
  · refine lv_iconst (v := 1) C.1 C.2.1 dX10_isOutside_10 (by decide) ?_
    refine lv_goto (tgt := 15) C.1 C.2.1 dX10_isOutside_11 (by decide) ?_
    exact ct_z C hr hlocks (Or.inr rfl) (by rw [show outs x a b = true from decide_eq_true (Or.inl h1)]; rfl) (fun t ht hW => by rw [ht]; exact hP) hS (Nat.le_of_ble_eq_true rfl) (Nat.le_of_ble_eq_true rfl) dX10_isOutside_15
  · refine lv_iload_n C.1 C.2.1 dX10_isOutside_5 rfl (lv_at hl 0 rfl) ?_
    refine lv_iload_n C.1 C.2.1 dX10_isOutside_6 rfl (lv_at hl 2 rfl) ?_
    refine lv_icmp_le (tgt := 14) C.1 C.2.1 dX10_isOutside_7 (by decide) (fun h2 => ?_) (fun h2 => ?_)
    · refine lv_iconst (v := 0) C.1 C.2.1 dX10_isOutside_14 (by decide) ?_
      exact ct_z C hr hlocks (Or.inl rfl) (by rw [show outs x a b = false from decide_eq_false (fun q => q.elim h1 (fun q => Int32.not_lt.mpr h2 q))]; rfl) (fun t ht hW => by rw [ht]; exact hP) hS (Nat.le_of_ble_eq_true rfl) (Nat.le_of_ble_eq_true rfl) dX10_isOutside_15
    · refine lv_iconst (v := 1) C.1 C.2.1 dX10_isOutside_10 (by decide) ?_
      refine lv_goto (tgt := 15) C.1 C.2.1 dX10_isOutside_11 (by decide) ?_
      exact ct_z C hr hlocks (Or.inr rfl) (by rw [show outs x a b = true from decide_eq_true (Or.inr (Int32.not_le.mp h2))]; rfl) (fun t ht hW => by rw [ht]; exact hP) hS (Nat.le_of_ble_eq_true rfl) (Nat.le_of_ble_eq_true rfl) dX10_isOutside_15
set_option maxHeartbeats 400000 in
set_option maxRecDepth 100000 in
/-- a vehicle ashore -/
theorem c_X10_add (l : Launch) (D : va_G) (A : Nat → Prop) (P : SwP) (F : Nat → Nat → Int32) (B G : Nat → Int32) (dk : List Nat) (sz : Nat) (ki ma lo sh : Int32) (hlt : l.stackTraces = false) (hI : Inv P (F, B, G, dk)) : Ct l yX10_add (.code yX10_add cX10_add 6 (some .int)) ({ frames := 9, cells := 2, slots := 12, locals := 200 }) A [.ref (pS P), .int ki, .int ma, .int lo, .int sh] (fun U => U.heap.size = sz ∧ Ev A U ∧ Xp D A P F B G dk U) (.inl (some (.int (addV (pn P) ki ma lo sh)))) (Xp D A (addP P sz ki ma lo sh) (addF (pn P) F ki ma lo sh) B G dk) := by
  refine ct_mk (by decide) (Nat.le_of_ble_eq_true rfl) (fun p e s m below meth c ls C hr hlocks hnm htab hP hl => ?_)
  obtain ⟨hsz, hE, hw⟩ := hP
  have hw0 := hw
  have hHs := hsz
  have hS : va_S A s.heap s.heap [] := va_S.rf
  have hl : lv_has ls 6 [(0, .ref (pS P)), (1, .int ki), (2, .int ma), (3, .int lo), (4, .int sh)] := hl
  have hO : Ok P F dk := hI.1
  refine lv_iload_n C.1 C.2.1 dX10_add_0 rfl (lv_at hl 1 rfl) ?_
  refine lv_iconst (v := 0) C.1 C.2.1 dX10_add_1 (by decide) ?_
  refine lv_bipush (v := 8) C.1 C.2.1 dX10_add_2 (by decide) ?_
  refine ct_ret (ct_S C (c_X10_isOutsideZ l sz (ki) (0) (8)) (fun _ _ _ _ h => h) (Or.inl rfl) tb_97 tb_1 ⟨Nat.le_of_ble_eq_true rfl, Nat.le_of_ble_eq_true rfl⟩ tb_95 ⟨by decide, by decide⟩ tb_96 (fun U hU _ => by rw [hU]; exact hHs) (by show _ = some 3; decide +kernel) hl.1 rfl (Nat.le_of_ble_eq_true rfl) dX10_add_4 ⟨Nat.le_of_ble_eq_true rfl, Nat.le_of_ble_eq_true rfl⟩) hS (fun _ h => False.elim h) (fun t H locs ht hvm hHs _ hk hS => ?_)
  rw [ht] at hHs
  have hw := x_kept hw hk
  refine lv_if_ne (tgt := 21) C.1 C.2.1 dX10_add_7 (by decide) (fun h1 => ?_) (fun h1 => ?_)
  · refine lv_bipush (v := -102) C.1 C.2.1 dX10_add_21 (by decide) ?_
    have ha : addO ki ma lo sh = true := by unfold addO; rw [show outs ki 0 8 = true from b2i_1 h1]; simp
    rw [show addV (pn P) ki ma lo sh = -102 from if_pos ha, show addP P sz ki ma lo sh = P from if_pos ha, show addF (pn P) F ki ma lo sh = F from if_pos ha]
    exact ct_i C hr hlocks rfl (fun t ht hW => x_post hw ht hW) hS (Nat.le_of_ble_eq_true rfl) (Nat.le_of_ble_eq_true rfl) dX10_add_23
  · refine lv_iload_n C.1 C.2.1 dX10_add_10 rfl (lv_at hl 2 rfl) ?_
    refine lv_iconst (v := 1) C.1 C.2.1 dX10_add_11 (by decide) ?_
    refine lv_sipush (v := 5000) C.1 C.2.1 dX10_add_12 (by decide) ?_
    refine ct_ret (ct_S C (c_X10_isOutsideZ l sz (ma) (1) (5000)) (fun _ _ _ _ h => h) (Or.inl rfl) tb_97 tb_1 ⟨Nat.le_of_ble_eq_true rfl, Nat.le_of_ble_eq_true rfl⟩ tb_95 ⟨by decide, by decide⟩ tb_96 (fun U hU _ => by rw [hU]; exact hHs) (by show _ = some 3; decide +kernel) hl.1 rfl (Nat.le_of_ble_eq_true rfl) dX10_add_15 ⟨Nat.le_of_ble_eq_true rfl, Nat.le_of_ble_eq_true rfl⟩) hS (fun _ h => False.elim h) (fun t H locs ht hvm hHs _ hk hS => ?_)
    rw [ht] at hHs
    have hw := x_kept hw hk
    refine lv_if_eq (tgt := 24) C.1 C.2.1 dX10_add_18 (by decide) (fun h2 => ?_) (fun h2 => ?_)
    · refine lv_iload_n C.1 C.2.1 dX10_add_24 rfl (lv_at hl 3 rfl) ?_
      refine lv_iconst (v := 0) C.1 C.2.1 dX10_add_25 (by decide) ?_
      refine lv_sipush (v := 5000) C.1 C.2.1 dX10_add_26 (by decide) ?_
      refine ct_ret (ct_S C (c_X10_isOutsideZ l sz (lo) (0) (5000)) (fun _ _ _ _ h => h) (Or.inl rfl) tb_97 tb_1 ⟨Nat.le_of_ble_eq_true rfl, Nat.le_of_ble_eq_true rfl⟩ tb_95 ⟨by decide, by decide⟩ tb_96 (fun U hU _ => by rw [hU]; exact hHs) (by show _ = some 3; decide +kernel) hl.1 rfl (Nat.le_of_ble_eq_true rfl) dX10_add_29 ⟨Nat.le_of_ble_eq_true rfl, Nat.le_of_ble_eq_true rfl⟩) hS (fun _ h => False.elim h) (fun t H locs ht hvm hHs _ hk hS => ?_)
      rw [ht] at hHs
      have hw := x_kept hw hk
      refine lv_if_ne (tgt := 46) C.1 C.2.1 dX10_add_32 (by decide) (fun h3 => ?_) (fun h3 => ?_)
      · refine lv_bipush (v := -102) C.1 C.2.1 dX10_add_46 (by decide) ?_
        have ha : addO ki ma lo sh = true := by unfold addO; rw [show outs lo 0 5000 = true from b2i_1 h3]; simp
        rw [show addV (pn P) ki ma lo sh = -102 from if_pos ha, show addP P sz ki ma lo sh = P from if_pos ha, show addF (pn P) F ki ma lo sh = F from if_pos ha]
        exact ct_i C hr hlocks rfl (fun t ht hW => x_post hw ht hW) hS (Nat.le_of_ble_eq_true rfl) (Nat.le_of_ble_eq_true rfl) dX10_add_48
      · refine lv_iload C.1 C.2.1 dX10_add_35 (lv_at hl 4 rfl) ?_
        refine lv_iconst (v := 0) C.1 C.2.1 dX10_add_37 (by decide) ?_
        refine lv_bipush (v := 100) C.1 C.2.1 dX10_add_38 (by decide) ?_
        refine ct_ret (ct_S C (c_X10_isOutsideZ l sz (sh) (0) (100)) (fun _ _ _ _ h => h) (Or.inl rfl) tb_97 tb_1 ⟨Nat.le_of_ble_eq_true rfl, Nat.le_of_ble_eq_true rfl⟩ tb_95 ⟨by decide, by decide⟩ tb_96 (fun U hU _ => by rw [hU]; exact hHs) (by show _ = some 3; decide +kernel) hl.1 rfl (Nat.le_of_ble_eq_true rfl) dX10_add_40 ⟨Nat.le_of_ble_eq_true rfl, Nat.le_of_ble_eq_true rfl⟩) hS (fun _ h => False.elim h) (fun t H locs ht hvm hHs _ hk hS => ?_)
        rw [ht] at hHs
        have hw := x_kept hw hk
        refine lv_if_eq (tgt := 49) C.1 C.2.1 dX10_add_43 (by decide) (fun h4 => ?_) (fun h4 => ?_)
        · have hao : addO ki ma lo sh = false := by unfold addO; rw [b2i_0 h1, b2i_0 h2, b2i_0 h3, b2i_0 h4]; rfl
          refine lv_aload_n C.1 C.2.1 dX10_add_49 rfl (lv_at hl 0 rfl) ?_
          refine xs_get C hw 2 (by decide) tb_83 rfl dX10_add_50 ?_
          refine lv_istore (lv' := [(5, .int (nI (pn P))), (0, .ref (pS P)), (1, .int (ki)), (2, .int (ma)), (3, .int (lo)), (4, .int (sh))]) C.1 C.2.1 dX10_add_53 hl (by decide) rfl (fun ls hl => ?_)
          refine lv_iload C.1 C.2.1 dX10_add_55 (lv_at hl 0 rfl) ?_
          refine lv_if_lt (tgt := 70) C.1 C.2.1 dX10_add_57 (by decide) (fun h9 => absurd h9 (nI_pos (by have := hO.1; omega))) (fun h9 => ?_)
          refine lv_iload C.1 C.2.1 dX10_add_60 (lv_at hl 0 rfl) ?_
          refine lv_aload_n C.1 C.2.1 dX10_add_62 rfl (lv_at hl 1 rfl) ?_
          refine xs_get C hw 1 (by decide) tb_82 rfl dX10_add_63 ?_
          refine xV_len C hw dX10_add_66 ?_
          refine lv_icmp_lt (tgt := 73) C.1 C.2.1 dX10_add_67 (by decide) (fun h5 => ?_) (fun h5 => ?_)
          · refine lv_aload_n C.1 C.2.1 dX10_add_73 rfl (lv_at hl 1 rfl) ?_
            refine xs_get C hw 1 (by decide) tb_82 rfl dX10_add_74 ?_
            refine lv_iload C.1 C.2.1 dX10_add_77 (lv_at hl 0 rfl) ?_
            refine lv_aload_n C.1 C.2.1 dX10_add_79 rfl (lv_at hl 1 rfl) ?_
            refine lv_iload C.1 C.2.1 dX10_add_80 (lv_at hl 0 rfl) ?_
            refine lv_iload_n C.1 C.2.1 dX10_add_82 rfl (lv_at hl 2 rfl) ?_
            refine lv_iload_n C.1 C.2.1 dX10_add_83 rfl (lv_at hl 3 rfl) ?_
            refine lv_iload_n C.1 C.2.1 dX10_add_84 rfl (lv_at hl 4 rfl) ?_
            refine lv_iload C.1 C.2.1 dX10_add_85 (lv_at hl 5 rfl) ?_
            have hn24 : pn P < 24 := (nI_ltI (by have := hO.1; omega) (by omega)).mp h5
            obtain ⟨k, hk, rfl⟩ := add_k (addO_f hao).1
            rw [show addV (pn P) (nI k) ma lo sh = nI (pn P) from (if_neg (by rw [hao]; decide)).trans (if_neg (by omega)), show addP P sz (nI k) ma lo sh = addP0 P sz k from (if_neg (by rw [hao]; decide)).trans ((if_neg (by omega)).trans (by rw [nI_clamp (by omega)])), show addF (pn P) F (nI k) ma lo sh = addF0 (pn P) F (nI k) ma lo sh from (if_neg (by rw [hao]; decide)).trans (if_neg (by omega))]
            have hzH : H.size = sz := hHs
            refine ct_ret (ct_V0 C (c_X10_make l D A P F B G dk sz k (nI (pn P)) ma lo sh hk) (fun U g mk a h => ⟨h.1, h.2.1.same (U := U.calling g mk a) rfl rfl, Xp_bl U g mk a h.2.2⟩) (Or.inl rfl) tb_101 tb_1 ⟨Nat.le_of_ble_eq_true rfl, Nat.le_of_ble_eq_true rfl⟩ tb_98 ⟨by decide, by decide⟩ tbp_0 tb_100 (x_recvS hw) (fun U hU hW => ⟨by rw [hU]; exact hzH, hE.go hS hU hW, x_post hw hU hW⟩) (sig_code (C.2.2.2.2 _ tb_101)) (by show _ = some 5; decide +kernel) hl.1 rfl (Nat.le_of_ble_eq_true rfl) dX10_add_87 ⟨Nat.le_of_ble_eq_true rfl, Nat.le_of_ble_eq_true rfl⟩) hS (fun _ h => h) (fun t H locs ht hvm hw1 _ _ hS => ?_)
            obtain ⟨hw1, hn1⟩ := hw1
            have hw := x_back hw1 ht hvm
            rw [ht] at hn1
            have hAsz : A sz := hE.1 sz (by rw [hsz]; exact Nat.le_refl _)
            have hDc := hw.2.2.app (w2 := [(sz, (.inr (k, [.ref (pB P), .int (nI (pn P)), .int (nI k), .int ma, .int sh, .int lo, .int 0, .int 0, .int 0, .int 0]) : va_E))]) (vn_D.weaken (fun _ q _ h9 => by rw [h9]; exact hAsz)) (fun a b p q h1 h2 h3 => by
              have e1 := vx_lt hw0.2.1 h1
              have e2 : b < 1 := (List.getElem?_eq_some_iff.mp h2).1
              rw [show b = 0 by omega] at h2
              cases h2
              rw [h3, hsz] at e1
              exact absurd e1 (Nat.lt_irrefl _))
            refine va_astqM (E := RX4) C.1 C.2.1 hw.1 (hw.2.1.app hn1) hDc hS 2 0 rfl rfl (va_rAny hw.1 hn1 (q0 := 0) rfl (sCl_k hk) (hE.2.1 k hk)) (vp_in_nI hn24 (by omega)) dX10_add_90 (fun H locs hP hD hS => ?_)
            rw [nI_clamp (by omega)] at hP hD
            refine lv_aload_n C.1 C.2.1 dX10_add_91 rfl (lv_at hl 1 rfl) ?_
            refine lv_iload C.1 C.2.1 dX10_add_92 (lv_at hl 0 rfl) ?_
            refine lv_iconst (v := 1) C.1 C.2.1 dX10_add_94 (by decide) ?_
            refine lv_iadd C.1 C.2.1 dX10_add_95 ?_
            refine va_put (D := D) (ci := 10) (v := .int (nI (pn P) + 1)) (ty := .int) (C := RX10) (T := TX10) (N := 3) (ref := (TX10 2).1) C.1 C.2.1 C.2.2.2.2 inX10 tyX10 tyX10_ok nmX10 C.2.2.2.1 hw.1 hP hD hS 0 rfl rfl 2 (by decide) (C.2.2.2.2 _ tb_83) (fun x hx => hx) rfl (by decide +kernel) rfl rfl (Nat.le_of_ble_eq_true rfl) dX10_add_96 (fun H locs hP hD hS => ?_)
            have hw2 : XwR D A (addP0 P sz k) (addF0 (pn P) F (nI k) ma lo sh) B G (nI dk.length) (dfd (addP0 P sz k) dk) s H := by
              rw [a_dfd hO.2.2.2.1]
              have e9 := a_ws (P := P) (sz := sz) (k := k) (F := F) (B := B) (G := G) (n := nI dk.length) (fd := dfd P dk) (ki := nI k) (ma := ma) (lo := lo) (sh := sh)
              exact ⟨hw.1, e9 ▸ hP, e9 ▸ hD⟩
            refine lv_iload C.1 C.2.1 dX10_add_99 (lv_at hl 0 rfl) ?_
            exact ct_i C hr hlocks rfl (fun t ht hW => x_post hw2 ht hW) hS (Nat.le_of_ble_eq_true rfl) (Nat.le_of_ble_eq_true rfl) dX10_add_101
          · refine lv_bipush (v := -104) C.1 C.2.1 dX10_add_70 (by decide) ?_
            have h24 : pn P = 24 := by have h9 := hO.1; rcases Nat.lt_or_ge (pn P) 24 with q | q; exact absurd (nI_lt (b := 24) q (by omega)) h5; omega
            rw [show addV (pn P) ki ma lo sh = -104 from (if_neg (by rw [hao]; decide)).trans (if_pos h24), show addP P sz ki ma lo sh = P from (if_neg (by rw [hao]; decide)).trans (if_pos h24), show addF (pn P) F ki ma lo sh = F from (if_neg (by rw [hao]; decide)).trans (if_pos h24)]
            exact ct_i C hr hlocks rfl (fun t ht hW => x_post hw ht hW) hS (Nat.le_of_ble_eq_true rfl) (Nat.le_of_ble_eq_true rfl) dX10_add_72
        · refine lv_bipush (v := -102) C.1 C.2.1 dX10_add_46 (by decide) ?_
          have ha : addO ki ma lo sh = true := by unfold addO; rw [show outs sh 0 100 = true from b2i_1 h4]; simp
          rw [show addV (pn P) ki ma lo sh = -102 from if_pos ha, show addP P sz ki ma lo sh = P from if_pos ha, show addF (pn P) F ki ma lo sh = F from if_pos ha]
          exact ct_i C hr hlocks rfl (fun t ht hW => x_post hw ht hW) hS (Nat.le_of_ble_eq_true rfl) (Nat.le_of_ble_eq_true rfl) dX10_add_48
    · refine lv_bipush (v := -102) C.1 C.2.1 dX10_add_21 (by decide) ?_
      have ha : addO ki ma lo sh = true := by unfold addO; rw [show outs ma 1 5000 = true from b2i_1 h2]; simp
      rw [show addV (pn P) ki ma lo sh = -102 from if_pos ha, show addP P sz ki ma lo sh = P from if_pos ha, show addF (pn P) F ki ma lo sh = F from if_pos ha]
      exact ct_i C hr hlocks rfl (fun t ht hW => x_post hw ht hW) hS (Nat.le_of_ble_eq_true rfl) (Nat.le_of_ble_eq_true rfl) dX10_add_23
end
