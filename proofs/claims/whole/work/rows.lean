section
-- ===== PART A: goes FIRST, ahead of the names: the tables' words, and 'selects' of the private methods out of them =====
/-- a private method of a class that the tables say can be made, by its rows of tables_1 -/
def lw_okq (q : MethodName × Nat) : Prop := (q.1.cls ≠ "java/lang/invoke/MethodHandle" ∧ q.1.cls ≠ "java/lang/invoke/VarHandle") ∧ Cond.instantiable q.1.cls q.2 ∈ tables_1 ∧ Cond.privateMethod q.1 ∈ tables_1 ∧ Cond.instanceMethod q.1 ∈ tables_1
theorem lw_p0 : lw_okq (⟨"CleanSeed", "isOutNow", "(LCleanSeed$Lot;)Z"⟩, 5) := ⟨⟨by decide +kernel, by decide +kernel⟩, List.mem_of_getElem? (i := 16) (by decide +kernel), List.mem_of_getElem? (i := 443) (by decide +kernel), List.mem_of_getElem? (i := 444) (by decide +kernel)⟩
theorem lw_p1 : lw_okq (⟨"CleanSeed$Assessor", "assess", "(LCleanSeed$Lot;I)V"⟩, 1) := ⟨⟨by decide +kernel, by decide +kernel⟩, List.mem_of_getElem? (i := 90) (by decide +kernel), List.mem_of_getElem? (i := 452) (by decide +kernel), List.mem_of_getElem? (i := 453) (by decide +kernel)⟩
theorem lw_p2 : lw_okq (⟨"CleanSeed$Assessor", "reasonToRefuse", "(LCleanSeed$Lot;I)I"⟩, 1) := ⟨⟨by decide +kernel, by decide +kernel⟩, List.mem_of_getElem? (i := 90) (by decide +kernel), List.mem_of_getElem? (i := 456) (by decide +kernel), List.mem_of_getElem? (i := 457) (by decide +kernel)⟩
theorem lw_p3 : lw_okq (⟨"CleanSeed$Assessor", "reasonInField", "(LCleanSeed$Lot;I)I"⟩, 1) := ⟨⟨by decide +kernel, by decide +kernel⟩, List.mem_of_getElem? (i := 90) (by decide +kernel), List.mem_of_getElem? (i := 469) (by decide +kernel), List.mem_of_getElem? (i := 470) (by decide +kernel)⟩
theorem lw_p4 : lw_okq (⟨"CleanSeed$Assessor", "isCrowded", "(LCleanSeed$Lot;I)Z"⟩, 1) := ⟨⟨by decide +kernel, by decide +kernel⟩, List.mem_of_getElem? (i := 90) (by decide +kernel), List.mem_of_getElem? (i := 473) (by decide +kernel), List.mem_of_getElem? (i := 474) (by decide +kernel)⟩
theorem lw_p5 : lw_okq (⟨"CleanSeed$Assessor", "isAsGood", "(LCleanSeed$Lot;LCleanSeed$Lot;)Z"⟩, 1) := ⟨⟨by decide +kernel, by decide +kernel⟩, List.mem_of_getElem? (i := 90) (by decide +kernel), List.mem_of_getElem? (i := 482) (by decide +kernel), List.mem_of_getElem? (i := 483) (by decide +kernel)⟩
theorem lw_p6 : lw_okq (⟨"CleanSeed", "lotKnownIn", "(II)LCleanSeed$Lot;"⟩, 5) := ⟨⟨by decide +kernel, by decide +kernel⟩, List.mem_of_getElem? (i := 16) (by decide +kernel), List.mem_of_getElem? (i := 611) (by decide +kernel), List.mem_of_getElem? (i := 612) (by decide +kernel)⟩
theorem lw_p7 : lw_okq (⟨"CleanSeed$Kin", "markAbove", "(LCleanSeed$Lot;)V"⟩, 1) := ⟨⟨by decide +kernel, by decide +kernel⟩, List.mem_of_getElem? (i := 100) (by decide +kernel), List.mem_of_getElem? (i := 642) (by decide +kernel), List.mem_of_getElem? (i := 643) (by decide +kernel)⟩
theorem lw_p8 : lw_okq (⟨"CleanSeed$Kin", "markAkin", "(LCleanSeed$Lot;)V"⟩, 1) := ⟨⟨by decide +kernel, by decide +kernel⟩, List.mem_of_getElem? (i := 100) (by decide +kernel), List.mem_of_getElem? (i := 649) (by decide +kernel), List.mem_of_getElem? (i := 650) (by decide +kernel)⟩
theorem lw_p9 : lw_okq (⟨"CleanSeed$Planner", "markMayTake", "(II)V"⟩, 8) := ⟨⟨by decide +kernel, by decide +kernel⟩, List.mem_of_getElem? (i := 110) (by decide +kernel), List.mem_of_getElem? (i := 690) (by decide +kernel), List.mem_of_getElem? (i := 691) (by decide +kernel)⟩
theorem lw_p10 : lw_okq (⟨"CleanSeed$Planner", "markTooNear", "(I)V"⟩, 8) := ⟨⟨by decide +kernel, by decide +kernel⟩, List.mem_of_getElem? (i := 110) (by decide +kernel), List.mem_of_getElem? (i := 696) (by decide +kernel), List.mem_of_getElem? (i := 697) (by decide +kernel)⟩
theorem lw_p11 : lw_okq (⟨"CleanSeed$Planner", "search", "(II)V"⟩, 8) := ⟨⟨by decide +kernel, by decide +kernel⟩, List.mem_of_getElem? (i := 110) (by decide +kernel), List.mem_of_getElem? (i := 701) (by decide +kernel), List.mem_of_getElem? (i := 702) (by decide +kernel)⟩
theorem lw_p12 : lw_okq (⟨"CleanSeed$Planner", "fits", "(II)Z"⟩, 8) := ⟨⟨by decide +kernel, by decide +kernel⟩, List.mem_of_getElem? (i := 110) (by decide +kernel), List.mem_of_getElem? (i := 708) (by decide +kernel), List.mem_of_getElem? (i := 709) (by decide +kernel)⟩
theorem lw_p13 : lw_okq (⟨"CleanSeedModel", "isField", "(I)Z"⟩, 49) := ⟨⟨by decide +kernel, by decide +kernel⟩, List.mem_of_getElem? (i := 741) (by decide +kernel), List.mem_of_getElem? (i := 908) (by decide +kernel), List.mem_of_getElem? (i := 909) (by decide +kernel)⟩
theorem lw_p14 : lw_okq (⟨"CleanSeedModel", "nearness", "(II)I"⟩, 49) := ⟨⟨by decide +kernel, by decide +kernel⟩, List.mem_of_getElem? (i := 741) (by decide +kernel), List.mem_of_getElem? (i := 912) (by decide +kernel), List.mem_of_getElem? (i := 913) (by decide +kernel)⟩
theorem lw_p15 : lw_okq (⟨"CleanSeedModel", "isYear", "(I)Z"⟩, 49) := ⟨⟨by decide +kernel, by decide +kernel⟩, List.mem_of_getElem? (i := 741) (by decide +kernel), List.mem_of_getElem? (i := 920) (by decide +kernel), List.mem_of_getElem? (i := 921) (by decide +kernel)⟩
def lw_privs_1 : List (MethodName × Nat) := [(⟨"CleanSeed", "isOutNow", "(LCleanSeed$Lot;)Z"⟩, 5), (⟨"CleanSeed$Assessor", "assess", "(LCleanSeed$Lot;I)V"⟩, 1), (⟨"CleanSeed$Assessor", "reasonToRefuse", "(LCleanSeed$Lot;I)I"⟩, 1), (⟨"CleanSeed$Assessor", "reasonInField", "(LCleanSeed$Lot;I)I"⟩, 1), (⟨"CleanSeed$Assessor", "isCrowded", "(LCleanSeed$Lot;I)Z"⟩, 1), (⟨"CleanSeed$Assessor", "isAsGood", "(LCleanSeed$Lot;LCleanSeed$Lot;)Z"⟩, 1), (⟨"CleanSeed", "lotKnownIn", "(II)LCleanSeed$Lot;"⟩, 5), (⟨"CleanSeed$Kin", "markAbove", "(LCleanSeed$Lot;)V"⟩, 1), (⟨"CleanSeed$Kin", "markAkin", "(LCleanSeed$Lot;)V"⟩, 1), (⟨"CleanSeed$Planner", "markMayTake", "(II)V"⟩, 8), (⟨"CleanSeed$Planner", "markTooNear", "(I)V"⟩, 8), (⟨"CleanSeed$Planner", "search", "(II)V"⟩, 8), (⟨"CleanSeed$Planner", "fits", "(II)Z"⟩, 8), (⟨"CleanSeedModel", "isField", "(I)Z"⟩, 49), (⟨"CleanSeedModel", "nearness", "(II)I"⟩, 49), (⟨"CleanSeedModel", "isYear", "(I)Z"⟩, 49)]
theorem lw_r1 : ∀ q ∈ lw_privs_1, lw_okq q := List.forall_mem_cons.mpr ⟨lw_p0, List.forall_mem_cons.mpr ⟨lw_p1, List.forall_mem_cons.mpr ⟨lw_p2, List.forall_mem_cons.mpr ⟨lw_p3, List.forall_mem_cons.mpr ⟨lw_p4, List.forall_mem_cons.mpr ⟨lw_p5, List.forall_mem_cons.mpr ⟨lw_p6, List.forall_mem_cons.mpr ⟨lw_p7, List.forall_mem_cons.mpr ⟨lw_p8, List.forall_mem_cons.mpr ⟨lw_p9, List.forall_mem_cons.mpr ⟨lw_p10, List.forall_mem_cons.mpr ⟨lw_p11, List.forall_mem_cons.mpr ⟨lw_p12, List.forall_mem_cons.mpr ⟨lw_p13, List.forall_mem_cons.mpr ⟨lw_p14, List.forall_mem_cons.mpr ⟨lw_p15, fun _ h => absurd h List.not_mem_nil⟩⟩⟩⟩⟩⟩⟩⟩⟩⟩⟩⟩⟩⟩⟩⟩
theorem lw_p16 : lw_okq (⟨"CleanSeedModel", "standing", "(III)I"⟩, 49) := ⟨⟨by decide +kernel, by decide +kernel⟩, List.mem_of_getElem? (i := 741) (by decide +kernel), List.mem_of_getElem? (i := 928) (by decide +kernel), List.mem_of_getElem? (i := 929) (by decide +kernel)⟩
theorem lw_p17 : lw_okq (⟨"CleanSeedModel", "lotIn", "(II)I"⟩, 49) := ⟨⟨by decide +kernel, by decide +kernel⟩, List.mem_of_getElem? (i := 741) (by decide +kernel), List.mem_of_getElem? (i := 932) (by decide +kernel), List.mem_of_getElem? (i := 933) (by decide +kernel)⟩
theorem lw_p18 : lw_okq (⟨"CleanSeedModel", "inForce", "(III)I"⟩, 49) := ⟨⟨by decide +kernel, by decide +kernel⟩, List.mem_of_getElem? (i := 741) (by decide +kernel), List.mem_of_getElem? (i := 947) (by decide +kernel), List.mem_of_getElem? (i := 948) (by decide +kernel)⟩
theorem lw_p19 : lw_okq (⟨"CleanSeedModel", "lot", "(II)I"⟩, 49) := ⟨⟨by decide +kernel, by decide +kernel⟩, List.mem_of_getElem? (i := 741) (by decide +kernel), List.mem_of_getElem? (i := 955) (by decide +kernel), List.mem_of_getElem? (i := 956) (by decide +kernel)⟩
theorem lw_p20 : lw_okq (⟨"CleanSeedModel", "isLot", "(I)Z"⟩, 49) := ⟨⟨by decide +kernel, by decide +kernel⟩, List.mem_of_getElem? (i := 741) (by decide +kernel), List.mem_of_getElem? (i := 963) (by decide +kernel), List.mem_of_getElem? (i := 964) (by decide +kernel)⟩
theorem lw_p21 : lw_okq (⟨"CleanSeedModel", "classOf", "(II)I"⟩, 49) := ⟨⟨by decide +kernel, by decide +kernel⟩, List.mem_of_getElem? (i := 741) (by decide +kernel), List.mem_of_getElem? (i := 980) (by decide +kernel), List.mem_of_getElem? (i := 981) (by decide +kernel)⟩
theorem lw_p22 : lw_okq (⟨"CleanSeedModel", "judgeOne", "(II)V"⟩, 49) := ⟨⟨by decide +kernel, by decide +kernel⟩, List.mem_of_getElem? (i := 741) (by decide +kernel), List.mem_of_getElem? (i := 984) (by decide +kernel), List.mem_of_getElem? (i := 985) (by decide +kernel)⟩
theorem lw_p23 : lw_okq (⟨"CleanSeedModel", "wrongField", "(II)I"⟩, 49) := ⟨⟨by decide +kernel, by decide +kernel⟩, List.mem_of_getElem? (i := 741) (by decide +kernel), List.mem_of_getElem? (i := 988) (by decide +kernel), List.mem_of_getElem? (i := 989) (by decide +kernel)⟩
theorem lw_p24 : lw_okq (⟨"CleanSeedModel", "looksOf", "(II)I"⟩, 49) := ⟨⟨by decide +kernel, by decide +kernel⟩, List.mem_of_getElem? (i := 741) (by decide +kernel), List.mem_of_getElem? (i := 992) (by decide +kernel), List.mem_of_getElem? (i := 993) (by decide +kernel)⟩
theorem lw_p25 : lw_okq (⟨"CleanSeedModel", "isBag", "(I)Z"⟩, 49) := ⟨⟨by decide +kernel, by decide +kernel⟩, List.mem_of_getElem? (i := 741) (by decide +kernel), List.mem_of_getElem? (i := 1001) (by decide +kernel), List.mem_of_getElem? (i := 1002) (by decide +kernel)⟩
theorem lw_p26 : lw_okq (⟨"CleanSeedModel", "isJudged", "(II)Z"⟩, 49) := ⟨⟨by decide +kernel, by decide +kernel⟩, List.mem_of_getElem? (i := 741) (by decide +kernel), List.mem_of_getElem? (i := 1039) (by decide +kernel), List.mem_of_getElem? (i := 1040) (by decide +kernel)⟩
theorem lw_p27 : lw_okq (⟨"CleanSeedModel", "rowsTo", "(I)V"⟩, 49) := ⟨⟨by decide +kernel, by decide +kernel⟩, List.mem_of_getElem? (i := 741) (by decide +kernel), List.mem_of_getElem? (i := 1051) (by decide +kernel), List.mem_of_getElem? (i := 1052) (by decide +kernel)⟩
theorem lw_p28 : lw_okq (⟨"CleanSeedModel", "isIn", "(III)Z"⟩, 49) := ⟨⟨by decide +kernel, by decide +kernel⟩, List.mem_of_getElem? (i := 741) (by decide +kernel), List.mem_of_getElem? (i := 1060) (by decide +kernel), List.mem_of_getElem? (i := 1061) (by decide +kernel)⟩
theorem lw_p29 : lw_okq (⟨"CleanSeedModel", "isOf", "(II)Z"⟩, 49) := ⟨⟨by decide +kernel, by decide +kernel⟩, List.mem_of_getElem? (i := 741) (by decide +kernel), List.mem_of_getElem? (i := 1064) (by decide +kernel), List.mem_of_getElem? (i := 1065) (by decide +kernel)⟩
theorem lw_p30 : lw_okq (⟨"CleanSeedModel", "findPlan", "()V"⟩, 49) := ⟨⟨by decide +kernel, by decide +kernel⟩, List.mem_of_getElem? (i := 741) (by decide +kernel), List.mem_of_getElem? (i := 1080) (by decide +kernel), List.mem_of_getElem? (i := 1081) (by decide +kernel)⟩
theorem lw_p31 : lw_okq (⟨"CleanSeedModel", "isGood", "(I)Z"⟩, 49) := ⟨⟨by decide +kernel, by decide +kernel⟩, List.mem_of_getElem? (i := 741) (by decide +kernel), List.mem_of_getElem? (i := 1084) (by decide +kernel), List.mem_of_getElem? (i := 1085) (by decide +kernel)⟩
def lw_privs_2 : List (MethodName × Nat) := [(⟨"CleanSeedModel", "standing", "(III)I"⟩, 49), (⟨"CleanSeedModel", "lotIn", "(II)I"⟩, 49), (⟨"CleanSeedModel", "inForce", "(III)I"⟩, 49), (⟨"CleanSeedModel", "lot", "(II)I"⟩, 49), (⟨"CleanSeedModel", "isLot", "(I)Z"⟩, 49), (⟨"CleanSeedModel", "classOf", "(II)I"⟩, 49), (⟨"CleanSeedModel", "judgeOne", "(II)V"⟩, 49), (⟨"CleanSeedModel", "wrongField", "(II)I"⟩, 49), (⟨"CleanSeedModel", "looksOf", "(II)I"⟩, 49), (⟨"CleanSeedModel", "isBag", "(I)Z"⟩, 49), (⟨"CleanSeedModel", "isJudged", "(II)Z"⟩, 49), (⟨"CleanSeedModel", "rowsTo", "(I)V"⟩, 49), (⟨"CleanSeedModel", "isIn", "(III)Z"⟩, 49), (⟨"CleanSeedModel", "isOf", "(II)Z"⟩, 49), (⟨"CleanSeedModel", "findPlan", "()V"⟩, 49), (⟨"CleanSeedModel", "isGood", "(I)Z"⟩, 49)]
theorem lw_r2 : ∀ q ∈ lw_privs_2, lw_okq q := List.forall_mem_cons.mpr ⟨lw_p16, List.forall_mem_cons.mpr ⟨lw_p17, List.forall_mem_cons.mpr ⟨lw_p18, List.forall_mem_cons.mpr ⟨lw_p19, List.forall_mem_cons.mpr ⟨lw_p20, List.forall_mem_cons.mpr ⟨lw_p21, List.forall_mem_cons.mpr ⟨lw_p22, List.forall_mem_cons.mpr ⟨lw_p23, List.forall_mem_cons.mpr ⟨lw_p24, List.forall_mem_cons.mpr ⟨lw_p25, List.forall_mem_cons.mpr ⟨lw_p26, List.forall_mem_cons.mpr ⟨lw_p27, List.forall_mem_cons.mpr ⟨lw_p28, List.forall_mem_cons.mpr ⟨lw_p29, List.forall_mem_cons.mpr ⟨lw_p30, List.forall_mem_cons.mpr ⟨lw_p31, fun _ h => absurd h List.not_mem_nil⟩⟩⟩⟩⟩⟩⟩⟩⟩⟩⟩⟩⟩⟩⟩⟩
theorem lw_p32 : lw_okq (⟨"CleanSeedModel", "isFree", "(II)Z"⟩, 49) := ⟨⟨by decide +kernel, by decide +kernel⟩, List.mem_of_getElem? (i := 741) (by decide +kernel), List.mem_of_getElem? (i := 1088) (by decide +kernel), List.mem_of_getElem? (i := 1089) (by decide +kernel)⟩
theorem lw_p33 : lw_okq (⟨"CleanSeedModel", "outs", "()I"⟩, 49) := ⟨⟨by decide +kernel, by decide +kernel⟩, List.mem_of_getElem? (i := 741) (by decide +kernel), List.mem_of_getElem? (i := 1104) (by decide +kernel), List.mem_of_getElem? (i := 1105) (by decide +kernel)⟩
def lw_privs_3 : List (MethodName × Nat) := [(⟨"CleanSeedModel", "isFree", "(II)Z"⟩, 49), (⟨"CleanSeedModel", "outs", "()I"⟩, 49)]
theorem lw_r3 : ∀ q ∈ lw_privs_3, lw_okq q := List.forall_mem_cons.mpr ⟨lw_p32, List.forall_mem_cons.mpr ⟨lw_p33, fun _ h => absurd h List.not_mem_nil⟩⟩
def lw_privs : List (MethodName × Nat) := lw_privs_1 ++ (lw_privs_2 ++ (lw_privs_3))
def lw_tbl : List Cond := k2_sels lw_privs ++ tables_1
theorem lw_privs_ok : ∀ q ∈ lw_privs, lw_okq q := by
  show ∀ q ∈ lw_privs_1 ++ (lw_privs_2 ++ (lw_privs_3)), lw_okq q
  exact List.forall_mem_append.mpr ⟨lw_r1, List.forall_mem_append.mpr ⟨lw_r2, lw_r3⟩⟩
end
section
def RX0 : String := "CleanSeed$Assessor"
def TX0 : u_T := fun k => match k with
  | _ => ("CleanSeed$Assessor", "book", "LCleanSeed$Book;", true)
def tyX0 : Nat → FieldType := fun k => match k with
  | _ => .object "CleanSeed$Book"
theorem nmX0 : ∀ a, a < 1 → ∀ b, b < 1 → a ≠ b → (TX0 a).2.1 ≠ (TX0 b).2.1 := by decide +kernel
theorem tyX0_ok : ∀ k, k < 1 → parseFieldDescriptor (TX0 k).2.2.1 = some (tyX0 k) := by decide +kernel
abbrev cX0_init : ByteArray := prog_2_method_1_code
def yX0_init : MethodName := ⟨RX0, "<init>", "(LCleanSeed$Book;)V"⟩
abbrev cX0_assessUpTo : ByteArray := prog_2_method_2_code
def yX0_assessUpTo : MethodName := ⟨RX0, "assessUpTo", "(II)V"⟩
abbrev cX0_countOut : ByteArray := prog_2_method_3_code
def yX0_countOut : MethodName := ⟨RX0, "countOut", "(I)I"⟩
abbrev cX0_assess : ByteArray := prog_2_method_4_code
def yX0_assess : MethodName := ⟨RX0, "assess", "(LCleanSeed$Lot;I)V"⟩
abbrev cX0_reasonToRefuse : ByteArray := prog_2_method_5_code
def yX0_reasonToRefuse : MethodName := ⟨RX0, "reasonToRefuse", "(LCleanSeed$Lot;I)I"⟩
abbrev cX0_reasonInField : ByteArray := prog_2_method_6_code
def yX0_reasonInField : MethodName := ⟨RX0, "reasonInField", "(LCleanSeed$Lot;I)I"⟩
abbrev cX0_isCrowded : ByteArray := prog_2_method_7_code
def yX0_isCrowded : MethodName := ⟨RX0, "isCrowded", "(LCleanSeed$Lot;I)Z"⟩
abbrev cX0_isAsGood : ByteArray := prog_2_method_8_code
def yX0_isAsGood : MethodName := ⟨RX0, "isAsGood", "(LCleanSeed$Lot;LCleanSeed$Lot;)Z"⟩
def RX1 : String := "CleanSeed$Bag"
def TX1 : u_T := fun k => match k with
  | 0 => ("CleanSeed$Bag", "lot", "LCleanSeed$Lot;", true)
  | 1 => ("CleanSeed$Bag", "grams", "I", true)
  | 2 => ("CleanSeed$Bag", "seal", "I", false)
  | _ => ("CleanSeed$Bag", "buyer", "I", false)
def tyX1 : Nat → FieldType := fun k => match k with
  | 0 => .object "CleanSeed$Lot"
  | 1 => .int
  | 2 => .int
  | _ => .int
theorem nmX1 : ∀ a, a < 4 → ∀ b, b < 4 → a ≠ b → (TX1 a).2.1 ≠ (TX1 b).2.1 := by decide +kernel
theorem tyX1_ok : ∀ k, k < 4 → parseFieldDescriptor (TX1 k).2.2.1 = some (tyX1 k) := by decide +kernel
abbrev cX1_init : ByteArray := prog_3_method_1_code
def yX1_init : MethodName := ⟨RX1, "<init>", "(LCleanSeed$Lot;II)V"⟩
abbrev cX1_isOpened : ByteArray := prog_3_method_2_code
def yX1_isOpened : MethodName := ⟨RX1, "isOpened", "()Z"⟩
abbrev cX1_isSold : ByteArray := prog_3_method_3_code
def yX1_isSold : MethodName := ⟨RX1, "isSold", "()Z"⟩
abbrev cX1_about : ByteArray := prog_3_method_4_code
def yX1_about : MethodName := ⟨RX1, "about", "(I)I"⟩
def RX2 : String := "CleanSeed$Book"
def TX2 : u_T := fun k => match k with
  | 0 => ("CleanSeed$Book", "now", "I", false)
  | 1 => ("CleanSeed$Book", "fields", "[LCleanSeed$Field;", true)
  | 2 => ("CleanSeed$Book", "fieldCount", "I", false)
  | 3 => ("CleanSeed$Book", "lots", "[LCleanSeed$Lot;", true)
  | 4 => ("CleanSeed$Book", "lotCount", "I", false)
  | 5 => ("CleanSeed$Book", "bags", "[LCleanSeed$Bag;", true)
  | 6 => ("CleanSeed$Book", "bagCount", "I", false)
  | 7 => ("CleanSeed$Book", "sealsSoFar", "I", false)
  | 8 => ("CleanSeed$Book", "lastStatutes", "[LCleanSeed$Statute;", true)
  | 9 => ("CleanSeed$Book", "statutesTold", "I", false)
  | 10 => ("CleanSeed$Book", "standsTold", "I", false)
  | _ => ("CleanSeed$Book", "looksTold", "I", false)
def tyX2 : Nat → FieldType := fun k => match k with
  | 0 => .int
  | 1 => .array (.object "CleanSeed$Field")
  | 2 => .int
  | 3 => .array (.object "CleanSeed$Lot")
  | 4 => .int
  | 5 => .array (.object "CleanSeed$Bag")
  | 6 => .int
  | 7 => .int
  | 8 => .array (.object "CleanSeed$Statute")
  | 9 => .int
  | 10 => .int
  | _ => .int
theorem nmX2 : ∀ a, a < 12 → ∀ b, b < 12 → a ≠ b → (TX2 a).2.1 ≠ (TX2 b).2.1 := by decide +kernel
theorem tyX2_ok : ∀ k, k < 12 → parseFieldDescriptor (TX2 k).2.2.1 = some (tyX2 k) := by decide +kernel
abbrev cX2_init : ByteArray := prog_4_method_1_code
def yX2_init : MethodName := ⟨RX2, "<init>", "()V"⟩
abbrev cX2_fieldAt : ByteArray := prog_4_method_2_code
def yX2_fieldAt : MethodName := ⟨RX2, "fieldAt", "(I)LCleanSeed$Field;"⟩
abbrev cX2_lotAt : ByteArray := prog_4_method_3_code
def yX2_lotAt : MethodName := ⟨RX2, "lotAt", "(I)LCleanSeed$Lot;"⟩
abbrev cX2_bagAt : ByteArray := prog_4_method_4_code
def yX2_bagAt : MethodName := ⟨RX2, "bagAt", "(I)LCleanSeed$Bag;"⟩
abbrev cX2_addField : ByteArray := prog_4_method_5_code
def yX2_addField : MethodName := ⟨RX2, "addField", "(LCleanSeed$Field;)I"⟩
abbrev cX2_addLot : ByteArray := prog_4_method_6_code
def yX2_addLot : MethodName := ⟨RX2, "addLot", "(LCleanSeed$Lot;)I"⟩
abbrev cX2_addBag : ByteArray := prog_4_method_7_code
def yX2_addBag : MethodName := ⟨RX2, "addBag", "(LCleanSeed$Bag;)I"⟩
abbrev cX2_nextSeal : ByteArray := prog_4_method_8_code
def yX2_nextSeal : MethodName := ⟨RX2, "nextSeal", "()I"⟩
abbrev cX2_addStatute : ByteArray := prog_4_method_9_code
def yX2_addStatute : MethodName := ⟨RX2, "addStatute", "(III)I"⟩
abbrev cX2_inForce : ByteArray := prog_4_method_10_code
def yX2_inForce : MethodName := ⟨RX2, "inForce", "(III)I"⟩
def RX3 : String := "CleanSeed$Field"
def TX3 : u_T := fun k => match k with
  | 0 => ("CleanSeed$Field", "number", "I", true)
  | 1 => ("CleanSeed$Field", "left", "I", true)
  | 2 => ("CleanSeed$Field", "right", "I", true)
  | 3 => ("CleanSeed$Field", "low", "I", true)
  | 4 => ("CleanSeed$Field", "high", "I", true)
  | 5 => ("CleanSeed$Field", "grown", "[LCleanSeed$Lot;", true)
  | _ => ("CleanSeed$Field", "lastTold", "[LCleanSeed$Telling;", true)
def tyX3 : Nat → FieldType := fun k => match k with
  | 0 => .int
  | 1 => .int
  | 2 => .int
  | 3 => .int
  | 4 => .int
  | 5 => .array (.object "CleanSeed$Lot")
  | _ => .array (.object "CleanSeed$Telling")
theorem nmX3 : ∀ a, a < 7 → ∀ b, b < 7 → a ≠ b → (TX3 a).2.1 ≠ (TX3 b).2.1 := by decide +kernel
theorem tyX3_ok : ∀ k, k < 7 → parseFieldDescriptor (TX3 k).2.2.1 = some (tyX3 k) := by decide +kernel
abbrev cX3_init : ByteArray := prog_5_method_1_code
def yX3_init : MethodName := ⟨RX3, "<init>", "(IIIII)V"⟩
abbrev cX3_squareTo : ByteArray := prog_5_method_2_code
def yX3_squareTo : MethodName := ⟨RX3, "squareTo", "(LCleanSeed$Field;)I"⟩
abbrev cX3_grow : ByteArray := prog_5_method_3_code
def yX3_grow : MethodName := ⟨RX3, "grow", "(LCleanSeed$Lot;)V"⟩
abbrev cX3_tell : ByteArray := prog_5_method_4_code
def yX3_tell : MethodName := ⟨RX3, "tell", "(III)V"⟩
abbrev cX3_grownIn : ByteArray := prog_5_method_5_code
def yX3_grownIn : MethodName := ⟨RX3, "grownIn", "(I)LCleanSeed$Lot;"⟩
abbrev cX3_cropIn : ByteArray := prog_5_method_6_code
def yX3_cropIn : MethodName := ⟨RX3, "cropIn", "(II)I"⟩
abbrev cX3_stoodAheadOf : ByteArray := prog_5_method_7_code
def yX3_stoodAheadOf : MethodName := ⟨RX3, "stoodAheadOf", "(IIII)Z"⟩
def RX4 : String := "CleanSeed$Kin"
def TX4 : u_T := fun k => match k with
  | _ => ("CleanSeed$Kin", "book", "LCleanSeed$Book;", true)
def tyX4 : Nat → FieldType := fun k => match k with
  | _ => .object "CleanSeed$Book"
theorem nmX4 : ∀ a, a < 1 → ∀ b, b < 1 → a ≠ b → (TX4 a).2.1 ≠ (TX4 b).2.1 := by decide +kernel
theorem tyX4_ok : ∀ k, k < 1 → parseFieldDescriptor (TX4 k).2.2.1 = some (tyX4 k) := by decide +kernel
abbrev cX4_init : ByteArray := prog_6_method_1_code
def yX4_init : MethodName := ⟨RX4, "<init>", "(LCleanSeed$Book;)V"⟩
abbrev cX4_traceBelow : ByteArray := prog_6_method_2_code
def yX4_traceBelow : MethodName := ⟨RX4, "traceBelow", "(LCleanSeed$Lot;)V"⟩
abbrev cX4_buyersBelow : ByteArray := prog_6_method_3_code
def yX4_buyersBelow : MethodName := ⟨RX4, "buyersBelow", "(LCleanSeed$Lot;)I"⟩
abbrev cX4_touchedBy : ByteArray := prog_6_method_4_code
def yX4_touchedBy : MethodName := ⟨RX4, "touchedBy", "(LCleanSeed$Lot;II)I"⟩
abbrev cX4_markAbove : ByteArray := prog_6_method_5_code
def yX4_markAbove : MethodName := ⟨RX4, "markAbove", "(LCleanSeed$Lot;)V"⟩
abbrev cX4_markOneAbove : ByteArray := prog_6_method_6_code
def yX4_markOneAbove : MethodName := ⟨RX4, "markOneAbove", "(LCleanSeed$Lot;)V"⟩
abbrev cX4_markAkin : ByteArray := prog_6_method_7_code
def yX4_markAkin : MethodName := ⟨RX4, "markAkin", "(LCleanSeed$Lot;)V"⟩
abbrev cX4_rowOf : ByteArray := prog_6_method_8_code
def yX4_rowOf : MethodName := ⟨RX4, "rowOf", "(LCleanSeed$Lot;)I"⟩
abbrev cX4_linesOf : ByteArray := prog_6_method_9_code
def yX4_linesOf : MethodName := ⟨RX4, "linesOf", "(LCleanSeed$Lot;)I"⟩
abbrev cX4_isAkin : ByteArray := prog_6_method_10_code
def yX4_isAkin : MethodName := ⟨RX4, "isAkin", "(LCleanSeed$Lot;)Z"⟩
def RX5 : String := "CleanSeed$Look"
def TX5 : u_T := fun k => match k with
  | 0 => ("CleanSeed$Look", "before", "LCleanSeed$Look;", true)
  | 1 => ("CleanSeed$Look", "toldIn", "I", true)
  | 2 => ("CleanSeed$Look", "number", "I", true)
  | 3 => ("CleanSeed$Look", "plants", "I", true)
  | _ => ("CleanSeed$Look", "ill", "I", true)
def tyX5 : Nat → FieldType := fun k => match k with
  | 0 => .object "CleanSeed$Look"
  | 1 => .int
  | 2 => .int
  | 3 => .int
  | _ => .int
theorem nmX5 : ∀ a, a < 5 → ∀ b, b < 5 → a ≠ b → (TX5 a).2.1 ≠ (TX5 b).2.1 := by decide +kernel
theorem tyX5_ok : ∀ k, k < 5 → parseFieldDescriptor (TX5 k).2.2.1 = some (tyX5 k) := by decide +kernel
abbrev cX5_init : ByteArray := prog_7_method_1_code
def yX5_init : MethodName := ⟨RX5, "<init>", "(LCleanSeed$Look;III)V"⟩
def RX6 : String := "CleanSeed$Lot"
def TX6 : u_T := fun k => match k with
  | 0 => ("CleanSeed$Lot", "number", "I", true)
  | 1 => ("CleanSeed$Lot", "sort", "I", true)
  | 2 => ("CleanSeed$Lot", "crop", "I", true)
  | 3 => ("CleanSeed$Lot", "year", "I", true)
  | 4 => ("CleanSeed$Lot", "place", "LCleanSeed$Field;", false)
  | 5 => ("CleanSeed$Lot", "mother", "LCleanSeed$Lot;", false)
  | 6 => ("CleanSeed$Lot", "second", "LCleanSeed$Lot;", false)
  | 7 => ("CleanSeed$Lot", "grams", "I", false)
  | 8 => ("CleanSeed$Lot", "first", "I", false)
  | 9 => ("CleanSeed$Lot", "sown", "I", false)
  | 10 => ("CleanSeed$Lot", "mixed", "I", false)
  | 11 => ("CleanSeed$Lot", "bagged", "I", false)
  | 12 => ("CleanSeed$Lot", "tossed", "I", false)
  | 13 => ("CleanSeed$Lot", "lastLook", "LCleanSeed$Look;", false)
  | 14 => ("CleanSeed$Lot", "falseIn", "I", false)
  | 15 => ("CleanSeed$Lot", "rank", "I", false)
  | 16 => ("CleanSeed$Lot", "reason", "I", false)
  | 17 => ("CleanSeed$Lot", "lines", "I", false)
  | 18 => ("CleanSeed$Lot", "above", "Z", false)
  | _ => ("CleanSeed$Lot", "akin", "Z", false)
def tyX6 : Nat → FieldType := fun k => match k with
  | 0 => .int
  | 1 => .int
  | 2 => .int
  | 3 => .int
  | 4 => .object "CleanSeed$Field"
  | 5 => .object "CleanSeed$Lot"
  | 6 => .object "CleanSeed$Lot"
  | 7 => .int
  | 8 => .int
  | 9 => .int
  | 10 => .int
  | 11 => .int
  | 12 => .int
  | 13 => .object "CleanSeed$Look"
  | 14 => .int
  | 15 => .int
  | 16 => .int
  | 17 => .int
  | 18 => .boolean
  | _ => .boolean
theorem nmX6 : ∀ a, a < 20 → ∀ b, b < 20 → a ≠ b → (TX6 a).2.1 ≠ (TX6 b).2.1 := by decide +kernel
theorem tyX6_ok : ∀ k, k < 20 → parseFieldDescriptor (TX6 k).2.2.1 = some (tyX6 k) := by decide +kernel
abbrev cX6_init : ByteArray := prog_8_method_1_code
def yX6_init : MethodName := ⟨RX6, "<init>", "(IIII)V"⟩
abbrev cX6_gain : ByteArray := prog_8_method_2_code
def yX6_gain : MethodName := ⟨RX6, "gain", "(I)V"⟩
abbrev cX6_has : ByteArray := prog_8_method_3_code
def yX6_has : MethodName := ⟨RX6, "has", "(I)Z"⟩
abbrev cX6_isFalseAsKnownIn : ByteArray := prog_8_method_4_code
def yX6_isFalseAsKnownIn : MethodName := ⟨RX6, "isFalseAsKnownIn", "(I)Z"⟩
abbrev cX6_lookCount : ByteArray := prog_8_method_5_code
def yX6_lookCount : MethodName := ⟨RX6, "lookCount", "()I"⟩
abbrev cX6_lastLookAsKnownIn : ByteArray := prog_8_method_6_code
def yX6_lastLookAsKnownIn : MethodName := ⟨RX6, "lastLookAsKnownIn", "(I)LCleanSeed$Look;"⟩
abbrev cX6_about : ByteArray := prog_8_method_7_code
def yX6_about : MethodName := ⟨RX6, "about", "(I)I"⟩
abbrev cX6_rankOfMothers : ByteArray := prog_8_method_8_code
def yX6_rankOfMothers : MethodName := ⟨RX6, "rankOfMothers", "()I"⟩
def RX7 : String := "CleanSeed$Planner"
def TX7 : u_T := fun k => match k with
  | 0 => ("CleanSeed$Planner", "book", "LCleanSeed$Book;", true)
  | 1 => ("CleanSeed$Planner", "wanted", "[LCleanSeed$Lot;", true)
  | 2 => ("CleanSeed$Planner", "mayTake", "[I", true)
  | 3 => ("CleanSeed$Planner", "tooNear", "[I", true)
  | 4 => ("CleanSeed$Planner", "going", "[I", true)
  | 5 => ("CleanSeed$Planner", "best", "[I", true)
  | 6 => ("CleanSeed$Planner", "bestGone", "I", false)
  | _ => ("CleanSeed$Planner", "size", "I", false)
def tyX7 : Nat → FieldType := fun k => match k with
  | 0 => .object "CleanSeed$Book"
  | 1 => .array (.object "CleanSeed$Lot")
  | 2 => .array .int
  | 3 => .array .int
  | 4 => .array .int
  | 5 => .array .int
  | 6 => .int
  | _ => .int
theorem nmX7 : ∀ a, a < 8 → ∀ b, b < 8 → a ≠ b → (TX7 a).2.1 ≠ (TX7 b).2.1 := by decide +kernel
theorem tyX7_ok : ∀ k, k < 8 → parseFieldDescriptor (TX7 k).2.2.1 = some (tyX7 k) := by decide +kernel
abbrev cX7_init : ByteArray := prog_9_method_1_code
def yX7_init : MethodName := ⟨RX7, "<init>", "(LCleanSeed$Book;)V"⟩
abbrev cX7_forgetAll : ByteArray := prog_9_method_2_code
def yX7_forgetAll : MethodName := ⟨RX7, "forgetAll", "()V"⟩
abbrev cX7_add : ByteArray := prog_9_method_3_code
def yX7_add : MethodName := ⟨RX7, "add", "(LCleanSeed$Lot;)I"⟩
abbrev cX7_placeOf : ByteArray := prog_9_method_4_code
def yX7_placeOf : MethodName := ⟨RX7, "placeOf", "(I)I"⟩
abbrev cX7_markMayTake : ByteArray := prog_9_method_5_code
def yX7_markMayTake : MethodName := ⟨RX7, "markMayTake", "(II)V"⟩
abbrev cX7_markTooNear : ByteArray := prog_9_method_6_code
def yX7_markTooNear : MethodName := ⟨RX7, "markTooNear", "(I)V"⟩
abbrev cX7_search : ByteArray := prog_9_method_7_code
def yX7_search : MethodName := ⟨RX7, "search", "(II)V"⟩
abbrev cX7_fits : ByteArray := prog_9_method_8_code
def yX7_fits : MethodName := ⟨RX7, "fits", "(II)Z"⟩
abbrev cX7_areOfOneCrop : ByteArray := prog_9_method_9_code
def yX7_areOfOneCrop : MethodName := ⟨RX7, "areOfOneCrop", "(LCleanSeed$Lot;LCleanSeed$Lot;)Z"⟩
def RX8 : String := "CleanSeed$Statute"
def TX8 : u_T := fun k => match k with
  | 0 => ("CleanSeed$Statute", "before", "LCleanSeed$Statute;", true)
  | 1 => ("CleanSeed$Statute", "toldIn", "I", true)
  | 2 => ("CleanSeed$Statute", "from", "I", true)
  | _ => ("CleanSeed$Statute", "value", "I", true)
def tyX8 : Nat → FieldType := fun k => match k with
  | 0 => .object "CleanSeed$Statute"
  | 1 => .int
  | 2 => .int
  | _ => .int
theorem nmX8 : ∀ a, a < 4 → ∀ b, b < 4 → a ≠ b → (TX8 a).2.1 ≠ (TX8 b).2.1 := by decide +kernel
theorem tyX8_ok : ∀ k, k < 4 → parseFieldDescriptor (TX8 k).2.2.1 = some (tyX8 k) := by decide +kernel
abbrev cX8_init : ByteArray := prog_10_method_1_code
def yX8_init : MethodName := ⟨RX8, "<init>", "(LCleanSeed$Statute;III)V"⟩
def RX9 : String := "CleanSeed$Telling"
def TX9 : u_T := fun k => match k with
  | 0 => ("CleanSeed$Telling", "before", "LCleanSeed$Telling;", true)
  | 1 => ("CleanSeed$Telling", "toldIn", "I", true)
  | _ => ("CleanSeed$Telling", "crop", "I", true)
def tyX9 : Nat → FieldType := fun k => match k with
  | 0 => .object "CleanSeed$Telling"
  | 1 => .int
  | _ => .int
theorem nmX9 : ∀ a, a < 3 → ∀ b, b < 3 → a ≠ b → (TX9 a).2.1 ≠ (TX9 b).2.1 := by decide +kernel
theorem tyX9_ok : ∀ k, k < 3 → parseFieldDescriptor (TX9 k).2.2.1 = some (tyX9 k) := by decide +kernel
abbrev cX9_init : ByteArray := prog_11_method_1_code
def yX9_init : MethodName := ⟨RX9, "<init>", "(LCleanSeed$Telling;II)V"⟩
def RX10 : String := "CleanSeed"
def TX10 : u_T := fun k => match k with
  | 0 => ("CleanSeed", "book", "LCleanSeed$Book;", true)
  | 1 => ("CleanSeed", "assessor", "LCleanSeed$Assessor;", true)
  | 2 => ("CleanSeed", "kin", "LCleanSeed$Kin;", true)
  | 3 => ("CleanSeed", "planner", "LCleanSeed$Planner;", true)
  | _ => ("CleanSeed", "line", "[I", true)
def tyX10 : Nat → FieldType := fun k => match k with
  | 0 => .object "CleanSeed$Book"
  | 1 => .object "CleanSeed$Assessor"
  | 2 => .object "CleanSeed$Kin"
  | 3 => .object "CleanSeed$Planner"
  | _ => .array .int
theorem nmX10 : ∀ a, a < 5 → ∀ b, b < 5 → a ≠ b → (TX10 a).2.1 ≠ (TX10 b).2.1 := by decide +kernel
theorem tyX10_ok : ∀ k, k < 5 → parseFieldDescriptor (TX10 k).2.2.1 = some (tyX10 k) := by decide +kernel
abbrev cX10_init : ByteArray := prog_1_method_1_code
def yX10_init : MethodName := ⟨RX10, "<init>", "()V"⟩
abbrev cX10_field : ByteArray := prog_1_method_2_code
def yX10_field : MethodName := ⟨RX10, "field", "(IIII)I"⟩
abbrev cX10_near : ByteArray := prog_1_method_3_code
def yX10_near : MethodName := ⟨RX10, "near", "(II)I"⟩
abbrev cX10_stand : ByteArray := prog_1_method_4_code
def yX10_stand : MethodName := ⟨RX10, "stand", "(III)Z"⟩
abbrev cX10_stands : ByteArray := prog_1_method_5_code
def yX10_stands : MethodName := ⟨RX10, "stands", "(III)I"⟩
abbrev cX10_statute : ByteArray := prog_1_method_6_code
def yX10_statute : MethodName := ⟨RX10, "statute", "(III)I"⟩
abbrev cX10_force : ByteArray := prog_1_method_7_code
def yX10_force : MethodName := ⟨RX10, "force", "(III)I"⟩
abbrev cX10_tube : ByteArray := prog_1_method_8_code
def yX10_tube : MethodName := ⟨RX10, "tube", "(I)I"⟩
abbrev cX10_sow : ByteArray := prog_1_method_9_code
def yX10_sow : MethodName := ⟨RX10, "sow", "(III)I"⟩
abbrev cX10_harvest : ByteArray := prog_1_method_10_code
def yX10_harvest : MethodName := ⟨RX10, "harvest", "(II)Z"⟩
abbrev cX10_mix : ByteArray := prog_1_method_11_code
def yX10_mix : MethodName := ⟨RX10, "mix", "(IIII)I"⟩
abbrev cX10_bag : ByteArray := prog_1_method_12_code
def yX10_bag : MethodName := ⟨RX10, "bag", "(II)I"⟩
abbrev cX10_open : ByteArray := prog_1_method_13_code
def yX10_open : MethodName := ⟨RX10, "open", "(I)Z"⟩
abbrev cX10_seal : ByteArray := prog_1_method_14_code
def yX10_seal : MethodName := ⟨RX10, "seal", "(I)I"⟩
abbrev cX10_sell : ByteArray := prog_1_method_15_code
def yX10_sell : MethodName := ⟨RX10, "sell", "(II)Z"⟩
abbrev cX10_toss : ByteArray := prog_1_method_16_code
def yX10_toss : MethodName := ⟨RX10, "toss", "(II)Z"⟩
abbrev cX10_look : ByteArray := prog_1_method_17_code
def yX10_look : MethodName := ⟨RX10, "look", "(III)I"⟩
abbrev cX10_drawn : ByteArray := prog_1_method_18_code
def yX10_drawn : MethodName := ⟨RX10, "drawn", "(IIJI)I"⟩
abbrev cX10_prove : ByteArray := prog_1_method_19_code
def yX10_prove : MethodName := ⟨RX10, "prove", "(I)Z"⟩
abbrev cX10_year : ByteArray := prog_1_method_20_code
def yX10_year : MethodName := ⟨RX10, "year", "()I"⟩
abbrev cX10_judge : ByteArray := prog_1_method_21_code
def yX10_judge : MethodName := ⟨RX10, "judge", "(II)I"⟩
abbrev cX10_why : ByteArray := prog_1_method_22_code
def yX10_why : MethodName := ⟨RX10, "why", "(II)I"⟩
abbrev cX10_ways : ByteArray := prog_1_method_23_code
def yX10_ways : MethodName := ⟨RX10, "ways", "(II)I"⟩
abbrev cX10_touched : ByteArray := prog_1_method_24_code
def yX10_touched : MethodName := ⟨RX10, "touched", "(III)I"⟩
abbrev cX10_buyers : ByteArray := prog_1_method_25_code
def yX10_buyers : MethodName := ⟨RX10, "buyers", "(I)I"⟩
abbrev cX10_want : ByteArray := prog_1_method_26_code
def yX10_want : MethodName := ⟨RX10, "want", "(I)I"⟩
abbrev cX10_plan : ByteArray := prog_1_method_27_code
def yX10_plan : MethodName := ⟨RX10, "plan", "(I)I"⟩
abbrev cX10_told : ByteArray := prog_1_method_28_code
def yX10_told : MethodName := ⟨RX10, "told", "(II)I"⟩
abbrev cX10_sack : ByteArray := prog_1_method_29_code
def yX10_sack : MethodName := ⟨RX10, "sack", "(II)I"⟩
abbrev cX10_count : ByteArray := prog_1_method_30_code
def yX10_count : MethodName := ⟨RX10, "count", "(I)I"⟩
abbrev cX10_within : ByteArray := prog_1_method_31_code
def yX10_within : MethodName := ⟨RX10, "within", "(III)Z"⟩
abbrev cX10_lotKnownIn : ByteArray := prog_1_method_32_code
def yX10_lotKnownIn : MethodName := ⟨RX10, "lotKnownIn", "(II)LCleanSeed$Lot;"⟩
abbrev cX10_isOutNow : ByteArray := prog_1_method_33_code
def yX10_isOutNow : MethodName := ⟨RX10, "isOutNow", "(LCleanSeed$Lot;)Z"⟩
def RX11 : String := "CleanSeedModel"
def TX11 : u_T := fun k => match k with
  | 0 => ("CleanSeedModel", "now", "I", false)
  | 1 => ("CleanSeedModel", "fields", "I", false)
  | 2 => ("CleanSeedModel", "lots", "I", false)
  | 3 => ("CleanSeedModel", "bags", "I", false)
  | 4 => ("CleanSeedModel", "seals", "I", false)
  | 5 => ("CleanSeedModel", "stood", "I", false)
  | 6 => ("CleanSeedModel", "statutes", "I", false)
  | 7 => ("CleanSeedModel", "looks", "I", false)
  | 8 => ("CleanSeedModel", "wants", "I", false)
  | 9 => ("CleanSeedModel", "lowX", "[I", true)
  | 10 => ("CleanSeedModel", "lowY", "[I", true)
  | 11 => ("CleanSeedModel", "highX", "[I", true)
  | 12 => ("CleanSeedModel", "highY", "[I", true)
  | 13 => ("CleanSeedModel", "stoodField", "[I", true)
  | 14 => ("CleanSeedModel", "stoodYear", "[I", true)
  | 15 => ("CleanSeedModel", "stoodCrop", "[I", true)
  | 16 => ("CleanSeedModel", "stoodTold", "[I", true)
  | 17 => ("CleanSeedModel", "statuteKind", "[I", true)
  | 18 => ("CleanSeedModel", "statuteFrom", "[I", true)
  | 19 => ("CleanSeedModel", "statuteValue", "[I", true)
  | 20 => ("CleanSeedModel", "statuteTold", "[I", true)
  | 21 => ("CleanSeedModel", "sort", "[I", true)
  | 22 => ("CleanSeedModel", "crop", "[I", true)
  | 23 => ("CleanSeedModel", "grams", "[I", true)
  | 24 => ("CleanSeedModel", "came", "[I", true)
  | 25 => ("CleanSeedModel", "grownIn", "[I", true)
  | 26 => ("CleanSeedModel", "mother", "[I", true)
  | 27 => ("CleanSeedModel", "mother2", "[I", true)
  | 28 => ("CleanSeedModel", "first", "[I", true)
  | 29 => ("CleanSeedModel", "sown", "[I", true)
  | 30 => ("CleanSeedModel", "mixed", "[I", true)
  | 31 => ("CleanSeedModel", "bagged", "[I", true)
  | 32 => ("CleanSeedModel", "tossed", "[I", true)
  | 33 => ("CleanSeedModel", "falseIn", "[I", true)
  | 34 => ("CleanSeedModel", "lookLot", "[I", true)
  | 35 => ("CleanSeedModel", "lookPlants", "[I", true)
  | 36 => ("CleanSeedModel", "lookIll", "[I", true)
  | 37 => ("CleanSeedModel", "lookTold", "[I", true)
  | 38 => ("CleanSeedModel", "bagLot", "[I", true)
  | 39 => ("CleanSeedModel", "bagGrams", "[I", true)
  | 40 => ("CleanSeedModel", "bagSeal", "[I", true)
  | 41 => ("CleanSeedModel", "bagBuyer", "[I", true)
  | 42 => ("CleanSeedModel", "wanted", "[I", true)
  | 43 => ("CleanSeedModel", "line", "[I", true)
  | 44 => ("CleanSeedModel", "rank", "[I", true)
  | 45 => ("CleanSeedModel", "reason", "[I", true)
  | 46 => ("CleanSeedModel", "rows", "[I", true)
  | 47 => ("CleanSeedModel", "goes", "[I", true)
  | _ => ("CleanSeedModel", "best", "[I", true)
def tyX11 : Nat → FieldType := fun k => match k with
  | 0 => .int
  | 1 => .int
  | 2 => .int
  | 3 => .int
  | 4 => .int
  | 5 => .int
  | 6 => .int
  | 7 => .int
  | 8 => .int
  | 9 => .array .int
  | 10 => .array .int
  | 11 => .array .int
  | 12 => .array .int
  | 13 => .array .int
  | 14 => .array .int
  | 15 => .array .int
  | 16 => .array .int
  | 17 => .array .int
  | 18 => .array .int
  | 19 => .array .int
  | 20 => .array .int
  | 21 => .array .int
  | 22 => .array .int
  | 23 => .array .int
  | 24 => .array .int
  | 25 => .array .int
  | 26 => .array .int
  | 27 => .array .int
  | 28 => .array .int
  | 29 => .array .int
  | 30 => .array .int
  | 31 => .array .int
  | 32 => .array .int
  | 33 => .array .int
  | 34 => .array .int
  | 35 => .array .int
  | 36 => .array .int
  | 37 => .array .int
  | 38 => .array .int
  | 39 => .array .int
  | 40 => .array .int
  | 41 => .array .int
  | 42 => .array .int
  | 43 => .array .int
  | 44 => .array .int
  | 45 => .array .int
  | 46 => .array .int
  | 47 => .array .int
  | _ => .array .int
theorem nmX11 : ∀ a, a < 49 → ∀ b, b < 49 → a ≠ b → (TX11 a).2.1 ≠ (TX11 b).2.1 := by decide +kernel
theorem tyX11_ok : ∀ k, k < 49 → parseFieldDescriptor (TX11 k).2.2.1 = some (tyX11 k) := by decide +kernel
abbrev cX11_init : ByteArray := prog_13_method_1_code
def yX11_init : MethodName := ⟨RX11, "<init>", "()V"⟩
abbrev cX11_in : ByteArray := prog_13_method_2_code
def yX11_in : MethodName := ⟨RX11, "in", "(III)Z"⟩
abbrev cX11_isField : ByteArray := prog_13_method_3_code
def yX11_isField : MethodName := ⟨RX11, "isField", "(I)Z"⟩
abbrev cX11_isLot : ByteArray := prog_13_method_4_code
def yX11_isLot : MethodName := ⟨RX11, "isLot", "(I)Z"⟩
abbrev cX11_isYear : ByteArray := prog_13_method_5_code
def yX11_isYear : MethodName := ⟨RX11, "isYear", "(I)Z"⟩
abbrev cX11_field : ByteArray := prog_13_method_6_code
def yX11_field : MethodName := ⟨RX11, "field", "(IIII)I"⟩
abbrev cX11_nearness : ByteArray := prog_13_method_7_code
def yX11_nearness : MethodName := ⟨RX11, "nearness", "(II)I"⟩
abbrev cX11_near : ByteArray := prog_13_method_8_code
def yX11_near : MethodName := ⟨RX11, "near", "(II)I"⟩
abbrev cX11_stand : ByteArray := prog_13_method_9_code
def yX11_stand : MethodName := ⟨RX11, "stand", "(III)Z"⟩
abbrev cX11_lotIn : ByteArray := prog_13_method_10_code
def yX11_lotIn : MethodName := ⟨RX11, "lotIn", "(II)I"⟩
abbrev cX11_standing : ByteArray := prog_13_method_11_code
def yX11_standing : MethodName := ⟨RX11, "standing", "(III)I"⟩
abbrev cX11_stands : ByteArray := prog_13_method_12_code
def yX11_stands : MethodName := ⟨RX11, "stands", "(III)I"⟩
abbrev cX11_isValue : ByteArray := prog_13_method_13_code
def yX11_isValue : MethodName := ⟨RX11, "isValue", "(II)Z"⟩
abbrev cX11_statute : ByteArray := prog_13_method_14_code
def yX11_statute : MethodName := ⟨RX11, "statute", "(III)I"⟩
abbrev cX11_inForce : ByteArray := prog_13_method_15_code
def yX11_inForce : MethodName := ⟨RX11, "inForce", "(III)I"⟩
abbrev cX11_force : ByteArray := prog_13_method_16_code
def yX11_force : MethodName := ⟨RX11, "force", "(III)I"⟩
abbrev cX11_lot : ByteArray := prog_13_method_17_code
def yX11_lot : MethodName := ⟨RX11, "lot", "(II)I"⟩
abbrev cX11_tube : ByteArray := prog_13_method_18_code
def yX11_tube : MethodName := ⟨RX11, "tube", "(I)I"⟩
abbrev cX11_sow : ByteArray := prog_13_method_19_code
def yX11_sow : MethodName := ⟨RX11, "sow", "(III)I"⟩
abbrev cX11_harvest : ByteArray := prog_13_method_20_code
def yX11_harvest : MethodName := ⟨RX11, "harvest", "(II)Z"⟩
abbrev cX11_mix : ByteArray := prog_13_method_21_code
def yX11_mix : MethodName := ⟨RX11, "mix", "(IIII)I"⟩
abbrev cX11_bag : ByteArray := prog_13_method_22_code
def yX11_bag : MethodName := ⟨RX11, "bag", "(II)I"⟩
abbrev cX11_isBag : ByteArray := prog_13_method_23_code
def yX11_isBag : MethodName := ⟨RX11, "isBag", "(I)Z"⟩
abbrev cX11_open : ByteArray := prog_13_method_24_code
def yX11_open : MethodName := ⟨RX11, "open", "(I)Z"⟩
abbrev cX11_seal : ByteArray := prog_13_method_25_code
def yX11_seal : MethodName := ⟨RX11, "seal", "(I)I"⟩
abbrev cX11_sell : ByteArray := prog_13_method_26_code
def yX11_sell : MethodName := ⟨RX11, "sell", "(II)Z"⟩
abbrev cX11_toss : ByteArray := prog_13_method_27_code
def yX11_toss : MethodName := ⟨RX11, "toss", "(II)Z"⟩
abbrev cX11_looksOf : ByteArray := prog_13_method_28_code
def yX11_looksOf : MethodName := ⟨RX11, "looksOf", "(II)I"⟩
abbrev cX11_look : ByteArray := prog_13_method_29_code
def yX11_look : MethodName := ⟨RX11, "look", "(III)I"⟩
abbrev cX11_drawn : ByteArray := prog_13_method_30_code
def yX11_drawn : MethodName := ⟨RX11, "drawn", "(IIJI)I"⟩
abbrev cX11_prove : ByteArray := prog_13_method_31_code
def yX11_prove : MethodName := ⟨RX11, "prove", "(I)Z"⟩
abbrev cX11_year : ByteArray := prog_13_method_32_code
def yX11_year : MethodName := ⟨RX11, "year", "()I"⟩
abbrev cX11_classOf : ByteArray := prog_13_method_33_code
def yX11_classOf : MethodName := ⟨RX11, "classOf", "(II)I"⟩
abbrev cX11_judgeOne : ByteArray := prog_13_method_34_code
def yX11_judgeOne : MethodName := ⟨RX11, "judgeOne", "(II)V"⟩
abbrev cX11_wrongField : ByteArray := prog_13_method_35_code
def yX11_wrongField : MethodName := ⟨RX11, "wrongField", "(II)I"⟩
abbrev cX11_isJudged : ByteArray := prog_13_method_36_code
def yX11_isJudged : MethodName := ⟨RX11, "isJudged", "(II)Z"⟩
abbrev cX11_judge : ByteArray := prog_13_method_37_code
def yX11_judge : MethodName := ⟨RX11, "judge", "(II)I"⟩
abbrev cX11_why : ByteArray := prog_13_method_38_code
def yX11_why : MethodName := ⟨RX11, "why", "(II)I"⟩
abbrev cX11_rowsTo : ByteArray := prog_13_method_39_code
def yX11_rowsTo : MethodName := ⟨RX11, "rowsTo", "(I)V"⟩
abbrev cX11_ways : ByteArray := prog_13_method_40_code
def yX11_ways : MethodName := ⟨RX11, "ways", "(II)I"⟩
abbrev cX11_isOf : ByteArray := prog_13_method_41_code
def yX11_isOf : MethodName := ⟨RX11, "isOf", "(II)Z"⟩
abbrev cX11_isIn : ByteArray := prog_13_method_42_code
def yX11_isIn : MethodName := ⟨RX11, "isIn", "(III)Z"⟩
abbrev cX11_touched : ByteArray := prog_13_method_43_code
def yX11_touched : MethodName := ⟨RX11, "touched", "(III)I"⟩
abbrev cX11_buyers : ByteArray := prog_13_method_44_code
def yX11_buyers : MethodName := ⟨RX11, "buyers", "(I)I"⟩
abbrev cX11_want : ByteArray := prog_13_method_45_code
def yX11_want : MethodName := ⟨RX11, "want", "(I)I"⟩
abbrev cX11_isFree : ByteArray := prog_13_method_46_code
def yX11_isFree : MethodName := ⟨RX11, "isFree", "(II)Z"⟩
abbrev cX11_isGood : ByteArray := prog_13_method_47_code
def yX11_isGood : MethodName := ⟨RX11, "isGood", "(I)Z"⟩
abbrev cX11_findPlan : ByteArray := prog_13_method_48_code
def yX11_findPlan : MethodName := ⟨RX11, "findPlan", "()V"⟩
abbrev cX11_plan : ByteArray := prog_13_method_49_code
def yX11_plan : MethodName := ⟨RX11, "plan", "(I)I"⟩
abbrev cX11_told : ByteArray := prog_13_method_50_code
def yX11_told : MethodName := ⟨RX11, "told", "(II)I"⟩
abbrev cX11_sack : ByteArray := prog_13_method_51_code
def yX11_sack : MethodName := ⟨RX11, "sack", "(II)I"⟩
abbrev cX11_outs : ByteArray := prog_13_method_52_code
def yX11_outs : MethodName := ⟨RX11, "outs", "()I"⟩
abbrev cX11_count : ByteArray := prog_13_method_53_code
def yX11_count : MethodName := ⟨RX11, "count", "(I)I"⟩
def RL : String := "CleanSeedLaw"
abbrev cL_law : ByteArray := code
def yL_law : MethodName := ⟨RL, "law", "([I)Z"⟩
abbrev vwCl : List vw_C := [(RX0, TX0, 1), (RX1, TX1, 4), (RX2, TX2, 12), (RX3, TX3, 7), (RX4, TX4, 1), (RX5, TX5, 5), (RX6, TX6, 20), (RX7, TX7, 8), (RX8, TX8, 4), (RX9, TX9, 3), (RX10, TX10, 5), (RX11, TX11, 49)]
end
section
/-- all the words of the tables that a method may hand on -/
def wall : List Cond := lw_tbl.filter goodWord
theorem wl_m {w : Cond} (i : Nat) (h : tables_1[i]? = some w) (g : goodWord w = true) : w ∈ wall := List.mem_filter.mpr ⟨List.mem_append_right _ (List.mem_of_getElem? h), g⟩
theorem wl_s {w : Cond} (i : Nat) (h : (k2_sels lw_privs)[i]? = some w) (g : goodWord w = true) : w ∈ wall := List.mem_filter.mpr ⟨List.mem_append_left _ (List.mem_of_getElem? h), g⟩
theorem wl_good {w : Cond} (h : w ∈ wall) : (w.onTables && w.keeps) = true ∨ ∃ ty, w = .arrayClass ty := good_of_word (List.mem_filter.mp h).2
theorem wl_in {c d : Cond} (h : d ∈ wall) : GoodIn (c :: wall) (d :: wall) := fun w hw => by
  rcases List.mem_cons.mp hw with rfl | h2
  · exact ⟨List.mem_cons_of_mem _ h, wl_good h⟩
  · exact ⟨List.mem_cons_of_mem _ h2, wl_good h2⟩
theorem i_X0 : ∀ w ∈ u_ws RX0 TX0 1, w ∈ wall := by decide +kernel
theorem i_X1 : ∀ w ∈ u_ws RX1 TX1 4, w ∈ wall := by decide +kernel
theorem i_X2 : ∀ w ∈ u_ws RX2 TX2 12, w ∈ wall := by decide +kernel
theorem i_X3 : ∀ w ∈ u_ws RX3 TX3 7, w ∈ wall := by decide +kernel
theorem i_X4 : ∀ w ∈ u_ws RX4 TX4 1, w ∈ wall := by decide +kernel
theorem i_X5 : ∀ w ∈ u_ws RX5 TX5 5, w ∈ wall := by decide +kernel
theorem i_X6 : ∀ w ∈ u_ws RX6 TX6 20, w ∈ wall := by decide +kernel
theorem i_X7 : ∀ w ∈ u_ws RX7 TX7 8, w ∈ wall := by decide +kernel
theorem i_X8 : ∀ w ∈ u_ws RX8 TX8 4, w ∈ wall := by decide +kernel
theorem i_X9 : ∀ w ∈ u_ws RX9 TX9 3, w ∈ wall := by decide +kernel
theorem i_X10 : ∀ w ∈ u_ws RX10 TX10 5, w ∈ wall := by decide +kernel
theorem i_X11 : ∀ w ∈ u_ws RX11 TX11 49, w ∈ wall := by decide +kernel
theorem kN_X10 : Cond.initialized RX10 ∈ wall := wl_m 1 (by decide +kernel) rfl
theorem kN_X2 : Cond.initialized RX2 ∈ wall := wl_m 2 (by decide +kernel) rfl
theorem kN_X0 : Cond.initialized RX0 ∈ wall := wl_m 3 (by decide +kernel) rfl
theorem kN_X4 : Cond.initialized RX4 ∈ wall := wl_m 4 (by decide +kernel) rfl
theorem kN_X7 : Cond.initialized RX7 ∈ wall := wl_m 5 (by decide +kernel) rfl
theorem kN_X11 : Cond.initialized RX11 ∈ wall := wl_m 6 (by decide +kernel) rfl
theorem kN_X3 : Cond.initialized RX3 ∈ wall := wl_m 7 (by decide +kernel) rfl
theorem kN_Math : Cond.initialized "java/lang/Math" ∈ wall := wl_m 8 (by decide +kernel) rfl
theorem kN_X9 : Cond.initialized RX9 ∈ wall := wl_m 9 (by decide +kernel) rfl
theorem kN_X8 : Cond.initialized RX8 ∈ wall := wl_m 10 (by decide +kernel) rfl
theorem kN_X6 : Cond.initialized RX6 ∈ wall := wl_m 11 (by decide +kernel) rfl
theorem kN_X1 : Cond.initialized RX1 ∈ wall := wl_m 12 (by decide +kernel) rfl
theorem kN_X5 : Cond.initialized RX5 ∈ wall := wl_m 13 (by decide +kernel) rfl
theorem kL_L_7 : Cond.classLink RL 7 RX10 ∈ wall := wl_m 15 (by decide +kernel) rfl
theorem kT_X10 : Cond.instantiable RX10 5 ∈ wall := wl_m 16 (by decide +kernel) rfl
theorem kM_L_9 : Cond.methodLink RL 9 yX10_init ∈ wall := wl_m 17 (by decide +kernel) rfl
theorem kI_yX10_init : Cond.instanceMethod yX10_init ∈ wall := wl_m 18 (by decide +kernel) rfl
theorem kC_yX10_init : Cond.code yX10_init cX10_init 1 (Option.none : Option Jvm.ClassFile.FieldType) ∈ wall := wl_m 19 (by decide +kernel) rfl
theorem kM_X10_1 : Cond.methodLink RX10 1 objectInit ∈ wall := wl_m 20 (by decide +kernel) rfl
theorem kI_objectInit : Cond.instanceMethod objectInit ∈ wall := wl_m 21 (by decide +kernel) rfl
theorem kL_X10_7 : Cond.classLink RX10 7 RX2 ∈ wall := wl_m 23 (by decide +kernel) rfl
theorem kT_X2 : Cond.instantiable RX2 12 ∈ wall := wl_m 24 (by decide +kernel) rfl
theorem kI_yX2_init : Cond.instanceMethod yX2_init ∈ wall := wl_m 26 (by decide +kernel) rfl
theorem kC_yX2_init : Cond.code yX2_init cX2_init 1 (Option.none : Option Jvm.ClassFile.FieldType) ∈ wall := wl_m 27 (by decide +kernel) rfl
theorem kM_X2_3 : Cond.methodLink RX2 3 objectInit ∈ wall := wl_m 28 (by decide +kernel) rfl
theorem kL_X2_15 : Cond.classLink RX2 15 RX3 ∈ wall := wl_m 29 (by decide +kernel) rfl
theorem kL_X2_24 : Cond.classLink RX2 24 RX6 ∈ wall := wl_m 31 (by decide +kernel) rfl
theorem kL_X2_33 : Cond.classLink RX2 33 RX1 ∈ wall := wl_m 33 (by decide +kernel) rfl
theorem kL_X2_49 : Cond.classLink RX2 49 RX8 ∈ wall := wl_m 37 (by decide +kernel) rfl
theorem kF_X2_9 : Cond.fieldLink RX2 9 "CleanSeed$Book" "now" "I" ∈ wall := wl_m 39 (by decide +kernel) rfl
theorem kF_X10_67 : Cond.fieldLink RX10 67 "CleanSeed$Book" "now" "I" ∈ wall := wl_m 40 (by decide +kernel) rfl
theorem kF_X7_41 : Cond.fieldLink RX7 41 "CleanSeed$Book" "now" "I" ∈ wall := wl_m 41 (by decide +kernel) rfl
theorem kF_X2_17 : Cond.fieldLink RX2 17 "CleanSeed$Book" "fields" "[LCleanSeed$Field;" ∈ wall := wl_m 42 (by decide +kernel) rfl
theorem kF_X2_21 : Cond.fieldLink RX2 21 "CleanSeed$Book" "fieldCount" "I" ∈ wall := wl_m 43 (by decide +kernel) rfl
theorem kF_X10_47 : Cond.fieldLink RX10 47 "CleanSeed$Book" "fieldCount" "I" ∈ wall := wl_m 44 (by decide +kernel) rfl
theorem kF_X0_100 : Cond.fieldLink RX0 100 "CleanSeed$Book" "fieldCount" "I" ∈ wall := wl_m 45 (by decide +kernel) rfl
theorem kF_X2_26 : Cond.fieldLink RX2 26 "CleanSeed$Book" "lots" "[LCleanSeed$Lot;" ∈ wall := wl_m 46 (by decide +kernel) rfl
theorem kF_X2_30 : Cond.fieldLink RX2 30 "CleanSeed$Book" "lotCount" "I" ∈ wall := wl_m 47 (by decide +kernel) rfl
theorem kF_X0_15 : Cond.fieldLink RX0 15 "CleanSeed$Book" "lotCount" "I" ∈ wall := wl_m 48 (by decide +kernel) rfl
theorem kF_X4_15 : Cond.fieldLink RX4 15 "CleanSeed$Book" "lotCount" "I" ∈ wall := wl_m 49 (by decide +kernel) rfl
theorem kF_X10_91 : Cond.fieldLink RX10 91 "CleanSeed$Book" "lotCount" "I" ∈ wall := wl_m 50 (by decide +kernel) rfl
theorem kF_X2_35 : Cond.fieldLink RX2 35 "CleanSeed$Book" "bags" "[LCleanSeed$Bag;" ∈ wall := wl_m 51 (by decide +kernel) rfl
theorem kF_X2_39 : Cond.fieldLink RX2 39 "CleanSeed$Book" "bagCount" "I" ∈ wall := wl_m 52 (by decide +kernel) rfl
theorem kF_X4_52 : Cond.fieldLink RX4 52 "CleanSeed$Book" "bagCount" "I" ∈ wall := wl_m 53 (by decide +kernel) rfl
theorem kF_X10_155 : Cond.fieldLink RX10 155 "CleanSeed$Book" "bagCount" "I" ∈ wall := wl_m 54 (by decide +kernel) rfl
theorem kF_X2_42 : Cond.fieldLink RX2 42 "CleanSeed$Book" "sealsSoFar" "I" ∈ wall := wl_m 55 (by decide +kernel) rfl
theorem kF_X10_275 : Cond.fieldLink RX10 275 "CleanSeed$Book" "sealsSoFar" "I" ∈ wall := wl_m 56 (by decide +kernel) rfl
theorem kF_X2_51 : Cond.fieldLink RX2 51 "CleanSeed$Book" "lastStatutes" "[LCleanSeed$Statute;" ∈ wall := wl_m 57 (by decide +kernel) rfl
theorem kF_X2_55 : Cond.fieldLink RX2 55 "CleanSeed$Book" "statutesTold" "I" ∈ wall := wl_m 58 (by decide +kernel) rfl
theorem kF_X10_278 : Cond.fieldLink RX10 278 "CleanSeed$Book" "statutesTold" "I" ∈ wall := wl_m 59 (by decide +kernel) rfl
theorem kF_X2_58 : Cond.fieldLink RX2 58 "CleanSeed$Book" "standsTold" "I" ∈ wall := wl_m 60 (by decide +kernel) rfl
theorem kF_X10_70 : Cond.fieldLink RX10 70 "CleanSeed$Book" "standsTold" "I" ∈ wall := wl_m 61 (by decide +kernel) rfl
theorem kF_X2_61 : Cond.fieldLink RX2 61 "CleanSeed$Book" "looksTold" "I" ∈ wall := wl_m 62 (by decide +kernel) rfl
theorem kF_X10_201 : Cond.fieldLink RX10 201 "CleanSeed$Book" "looksTold" "I" ∈ wall := wl_m 63 (by decide +kernel) rfl
theorem kL_X10_16 : Cond.classLink RX10 16 RX0 ∈ wall := wl_m 89 (by decide +kernel) rfl
theorem kT_X0 : Cond.instantiable RX0 1 ∈ wall := wl_m 90 (by decide +kernel) rfl
theorem kM_X10_18 : Cond.methodLink RX10 18 yX0_init ∈ wall := wl_m 91 (by decide +kernel) rfl
theorem kI_yX0_init : Cond.instanceMethod yX0_init ∈ wall := wl_m 92 (by decide +kernel) rfl
theorem kC_yX0_init : Cond.code yX0_init cX0_init 2 (Option.none : Option Jvm.ClassFile.FieldType) ∈ wall := wl_m 93 (by decide +kernel) rfl
theorem kM_X0_3 : Cond.methodLink RX0 3 objectInit ∈ wall := wl_m 94 (by decide +kernel) rfl
theorem kF_X0_9 : Cond.fieldLink RX0 9 "CleanSeed$Assessor" "book" "LCleanSeed$Book;" ∈ wall := wl_m 95 (by decide +kernel) rfl
theorem kL_X10_25 : Cond.classLink RX10 25 RX4 ∈ wall := wl_m 99 (by decide +kernel) rfl
theorem kT_X4 : Cond.instantiable RX4 1 ∈ wall := wl_m 100 (by decide +kernel) rfl
theorem kM_X10_27 : Cond.methodLink RX10 27 yX4_init ∈ wall := wl_m 101 (by decide +kernel) rfl
theorem kI_yX4_init : Cond.instanceMethod yX4_init ∈ wall := wl_m 102 (by decide +kernel) rfl
theorem kC_yX4_init : Cond.code yX4_init cX4_init 2 (Option.none : Option Jvm.ClassFile.FieldType) ∈ wall := wl_m 103 (by decide +kernel) rfl
theorem kM_X4_3 : Cond.methodLink RX4 3 objectInit ∈ wall := wl_m 104 (by decide +kernel) rfl
theorem kF_X4_9 : Cond.fieldLink RX4 9 "CleanSeed$Kin" "book" "LCleanSeed$Book;" ∈ wall := wl_m 105 (by decide +kernel) rfl
theorem kL_X10_32 : Cond.classLink RX10 32 RX7 ∈ wall := wl_m 109 (by decide +kernel) rfl
theorem kT_X7 : Cond.instantiable RX7 8 ∈ wall := wl_m 110 (by decide +kernel) rfl
theorem kM_X10_34 : Cond.methodLink RX10 34 yX7_init ∈ wall := wl_m 111 (by decide +kernel) rfl
theorem kI_yX7_init : Cond.instanceMethod yX7_init ∈ wall := wl_m 112 (by decide +kernel) rfl
theorem kC_yX7_init : Cond.code yX7_init cX7_init 2 (Option.none : Option Jvm.ClassFile.FieldType) ∈ wall := wl_m 113 (by decide +kernel) rfl
theorem kM_X7_3 : Cond.methodLink RX7 3 objectInit ∈ wall := wl_m 114 (by decide +kernel) rfl
theorem kL_X7_9 : Cond.classLink RX7 9 RX6 ∈ wall := wl_m 115 (by decide +kernel) rfl
theorem kF_X7_37 : Cond.fieldLink RX7 37 "CleanSeed$Planner" "book" "LCleanSeed$Book;" ∈ wall := wl_m 116 (by decide +kernel) rfl
theorem kF_X7_11 : Cond.fieldLink RX7 11 "CleanSeed$Planner" "wanted" "[LCleanSeed$Lot;" ∈ wall := wl_m 117 (by decide +kernel) rfl
theorem kF_X7_17 : Cond.fieldLink RX7 17 "CleanSeed$Planner" "mayTake" "[I" ∈ wall := wl_m 118 (by decide +kernel) rfl
theorem kF_X7_21 : Cond.fieldLink RX7 21 "CleanSeed$Planner" "tooNear" "[I" ∈ wall := wl_m 119 (by decide +kernel) rfl
theorem kF_X7_24 : Cond.fieldLink RX7 24 "CleanSeed$Planner" "going" "[I" ∈ wall := wl_m 120 (by decide +kernel) rfl
theorem kF_X7_27 : Cond.fieldLink RX7 27 "CleanSeed$Planner" "best" "[I" ∈ wall := wl_m 121 (by decide +kernel) rfl
theorem kF_X7_30 : Cond.fieldLink RX7 30 "CleanSeed$Planner" "bestGone" "I" ∈ wall := wl_m 122 (by decide +kernel) rfl
theorem kF_X7_34 : Cond.fieldLink RX7 34 "CleanSeed$Planner" "size" "I" ∈ wall := wl_m 123 (by decide +kernel) rfl
theorem kF_X10_264 : Cond.fieldLink RX10 264 "CleanSeed$Planner" "size" "I" ∈ wall := wl_m 124 (by decide +kernel) rfl
theorem kA_142 : Cond.arrayClass Jvm.ClassFile.FieldType.int ∈ wall := wl_m 142 (by decide +kernel) rfl
theorem kF_X10_10 : Cond.fieldLink RX10 10 "CleanSeed" "book" "LCleanSeed$Book;" ∈ wall := wl_m 143 (by decide +kernel) rfl
theorem kF_X10_21 : Cond.fieldLink RX10 21 "CleanSeed" "assessor" "LCleanSeed$Assessor;" ∈ wall := wl_m 144 (by decide +kernel) rfl
theorem kF_X10_28 : Cond.fieldLink RX10 28 "CleanSeed" "kin" "LCleanSeed$Kin;" ∈ wall := wl_m 145 (by decide +kernel) rfl
theorem kF_X10_35 : Cond.fieldLink RX10 35 "CleanSeed" "planner" "LCleanSeed$Planner;" ∈ wall := wl_m 146 (by decide +kernel) rfl
theorem kF_X10_39 : Cond.fieldLink RX10 39 "CleanSeed" "line" "[I" ∈ wall := wl_m 147 (by decide +kernel) rfl
theorem kM_L_13 : Cond.methodLink RL 13 yX10_field ∈ wall := wl_m 159 (by decide +kernel) rfl
theorem kI_yX10_field : Cond.instanceMethod yX10_field ∈ wall := wl_m 160 (by decide +kernel) rfl
theorem kV_yX10_field : Cond.selects RX10 yX10_field yX10_field ∈ wall := wl_m 161 (by decide +kernel) rfl
theorem kC_yX10_field : Cond.code yX10_field cX10_field 6 (Option.some Jvm.ClassFile.FieldType.int) ∈ wall := wl_m 162 (by decide +kernel) rfl
theorem kM_X10_43 : Cond.methodLink RX10 43 yX10_within ∈ wall := wl_m 163 (by decide +kernel) rfl
theorem kS_yX10_within : Cond.static yX10_within ∈ wall := wl_m 164 (by decide +kernel) rfl
theorem kC_yX10_within : Cond.code yX10_within cX10_within 3 (Option.some Jvm.ClassFile.FieldType.boolean) ∈ wall := wl_m 165 (by decide +kernel) rfl
theorem kL_X10_51 : Cond.classLink RX10 51 RX3 ∈ wall := wl_m 166 (by decide +kernel) rfl
theorem kT_X3 : Cond.instantiable RX3 7 ∈ wall := wl_m 167 (by decide +kernel) rfl
theorem kM_X10_53 : Cond.methodLink RX10 53 yX3_init ∈ wall := wl_m 168 (by decide +kernel) rfl
theorem kI_yX3_init : Cond.instanceMethod yX3_init ∈ wall := wl_m 169 (by decide +kernel) rfl
theorem kC_yX3_init : Cond.code yX3_init cX3_init 6 (Option.none : Option Jvm.ClassFile.FieldType) ∈ wall := wl_m 170 (by decide +kernel) rfl
theorem kM_X3_3 : Cond.methodLink RX3 3 objectInit ∈ wall := wl_m 171 (by decide +kernel) rfl
theorem kL_X3_9 : Cond.classLink RX3 9 RX6 ∈ wall := wl_m 172 (by decide +kernel) rfl
theorem kL_X3_17 : Cond.classLink RX3 17 RX9 ∈ wall := wl_m 173 (by decide +kernel) rfl
theorem kM_X3_27 : Cond.methodLink RX3 27 Lib.Math.min.name ∈ wall := wl_m 175 (by decide +kernel) rfl
theorem kS_Lib_Math_min_name : Cond.static Lib.Math.min.name ∈ wall := wl_m 176 (by decide +kernel) rfl
theorem kM_X3_36 : Cond.methodLink RX3 36 Lib.Math.max.name ∈ wall := wl_m 178 (by decide +kernel) rfl
theorem kS_Lib_Math_max_name : Cond.static Lib.Math.max.name ∈ wall := wl_m 179 (by decide +kernel) rfl
theorem kF_X3_23 : Cond.fieldLink RX3 23 "CleanSeed$Field" "number" "I" ∈ wall := wl_m 181 (by decide +kernel) rfl
theorem kF_X6_85 : Cond.fieldLink RX6 85 "CleanSeed$Field" "number" "I" ∈ wall := wl_m 182 (by decide +kernel) rfl
theorem kF_X3_33 : Cond.fieldLink RX3 33 "CleanSeed$Field" "left" "I" ∈ wall := wl_m 183 (by decide +kernel) rfl
theorem kF_X3_39 : Cond.fieldLink RX3 39 "CleanSeed$Field" "right" "I" ∈ wall := wl_m 184 (by decide +kernel) rfl
theorem kF_X3_42 : Cond.fieldLink RX3 42 "CleanSeed$Field" "low" "I" ∈ wall := wl_m 185 (by decide +kernel) rfl
theorem kF_X3_45 : Cond.fieldLink RX3 45 "CleanSeed$Field" "high" "I" ∈ wall := wl_m 186 (by decide +kernel) rfl
theorem kF_X3_11 : Cond.fieldLink RX3 11 "CleanSeed$Field" "grown" "[LCleanSeed$Lot;" ∈ wall := wl_m 187 (by decide +kernel) rfl
theorem kF_X3_19 : Cond.fieldLink RX3 19 "CleanSeed$Field" "lastTold" "[LCleanSeed$Telling;" ∈ wall := wl_m 188 (by decide +kernel) rfl
theorem kM_X10_56 : Cond.methodLink RX10 56 yX2_addField ∈ wall := wl_m 204 (by decide +kernel) rfl
theorem kI_yX2_addField : Cond.instanceMethod yX2_addField ∈ wall := wl_m 205 (by decide +kernel) rfl
theorem kV_yX2_addField : Cond.selects RX2 yX2_addField yX2_addField ∈ wall := wl_m 206 (by decide +kernel) rfl
theorem kC_yX2_addField : Cond.code yX2_addField cX2_addField 2 (Option.some Jvm.ClassFile.FieldType.int) ∈ wall := wl_m 207 (by decide +kernel) rfl
theorem kM_L_18 : Cond.methodLink RL 18 yX10_near ∈ wall := wl_m 208 (by decide +kernel) rfl
theorem kI_yX10_near : Cond.instanceMethod yX10_near ∈ wall := wl_m 209 (by decide +kernel) rfl
theorem kV_yX10_near : Cond.selects RX10 yX10_near yX10_near ∈ wall := wl_m 210 (by decide +kernel) rfl
theorem kC_yX10_near : Cond.code yX10_near cX10_near 5 (Option.some Jvm.ClassFile.FieldType.int) ∈ wall := wl_m 211 (by decide +kernel) rfl
theorem kM_X10_60 : Cond.methodLink RX10 60 yX2_fieldAt ∈ wall := wl_m 212 (by decide +kernel) rfl
theorem kI_yX2_fieldAt : Cond.instanceMethod yX2_fieldAt ∈ wall := wl_m 213 (by decide +kernel) rfl
theorem kV_yX2_fieldAt : Cond.selects RX2 yX2_fieldAt yX2_fieldAt ∈ wall := wl_m 214 (by decide +kernel) rfl
theorem kC_yX2_fieldAt : Cond.code yX2_fieldAt cX2_fieldAt 2 (Option.some (Jvm.ClassFile.FieldType.object "CleanSeed$Field")) ∈ wall := wl_m 215 (by decide +kernel) rfl
theorem kM_X10_64 : Cond.methodLink RX10 64 yX3_squareTo ∈ wall := wl_m 216 (by decide +kernel) rfl
theorem kI_yX3_squareTo : Cond.instanceMethod yX3_squareTo ∈ wall := wl_m 217 (by decide +kernel) rfl
theorem kV_yX3_squareTo : Cond.selects RX3 yX3_squareTo yX3_squareTo ∈ wall := wl_m 218 (by decide +kernel) rfl
theorem kC_yX3_squareTo : Cond.code yX3_squareTo cX3_squareTo 4 (Option.some Jvm.ClassFile.FieldType.int) ∈ wall := wl_m 219 (by decide +kernel) rfl
theorem kM_L_23 : Cond.methodLink RL 23 yX10_stand ∈ wall := wl_m 220 (by decide +kernel) rfl
theorem kI_yX10_stand : Cond.instanceMethod yX10_stand ∈ wall := wl_m 221 (by decide +kernel) rfl
theorem kV_yX10_stand : Cond.selects RX10 yX10_stand yX10_stand ∈ wall := wl_m 222 (by decide +kernel) rfl
theorem kC_yX10_stand : Cond.code yX10_stand cX10_stand 5 (Option.some Jvm.ClassFile.FieldType.boolean) ∈ wall := wl_m 223 (by decide +kernel) rfl
theorem kM_X10_73 : Cond.methodLink RX10 73 yX3_tell ∈ wall := wl_m 224 (by decide +kernel) rfl
theorem kI_yX3_tell : Cond.instanceMethod yX3_tell ∈ wall := wl_m 225 (by decide +kernel) rfl
theorem kV_yX3_tell : Cond.selects RX3 yX3_tell yX3_tell ∈ wall := wl_m 226 (by decide +kernel) rfl
theorem kC_yX3_tell : Cond.code yX3_tell cX3_tell 4 (Option.none : Option Jvm.ClassFile.FieldType) ∈ wall := wl_m 227 (by decide +kernel) rfl
theorem kT_X9 : Cond.instantiable RX9 3 ∈ wall := wl_m 228 (by decide +kernel) rfl
theorem kM_X3_51 : Cond.methodLink RX3 51 yX9_init ∈ wall := wl_m 229 (by decide +kernel) rfl
theorem kI_yX9_init : Cond.instanceMethod yX9_init ∈ wall := wl_m 230 (by decide +kernel) rfl
theorem kC_yX9_init : Cond.code yX9_init cX9_init 4 (Option.none : Option Jvm.ClassFile.FieldType) ∈ wall := wl_m 231 (by decide +kernel) rfl
theorem kM_X9_1 : Cond.methodLink RX9 1 objectInit ∈ wall := wl_m 232 (by decide +kernel) rfl
theorem kF_X9_7 : Cond.fieldLink RX9 7 "CleanSeed$Telling" "before" "LCleanSeed$Telling;" ∈ wall := wl_m 233 (by decide +kernel) rfl
theorem kF_X3_65 : Cond.fieldLink RX3 65 "CleanSeed$Telling" "before" "LCleanSeed$Telling;" ∈ wall := wl_m 234 (by decide +kernel) rfl
theorem kF_X9_13 : Cond.fieldLink RX9 13 "CleanSeed$Telling" "toldIn" "I" ∈ wall := wl_m 235 (by decide +kernel) rfl
theorem kF_X3_61 : Cond.fieldLink RX3 61 "CleanSeed$Telling" "toldIn" "I" ∈ wall := wl_m 236 (by decide +kernel) rfl
theorem kF_X9_17 : Cond.fieldLink RX9 17 "CleanSeed$Telling" "crop" "I" ∈ wall := wl_m 237 (by decide +kernel) rfl
theorem kF_X3_64 : Cond.fieldLink RX3 64 "CleanSeed$Telling" "crop" "I" ∈ wall := wl_m 238 (by decide +kernel) rfl
theorem kM_L_28 : Cond.methodLink RL 28 yX10_stands ∈ wall := wl_m 246 (by decide +kernel) rfl
theorem kI_yX10_stands : Cond.instanceMethod yX10_stands ∈ wall := wl_m 247 (by decide +kernel) rfl
theorem kV_yX10_stands : Cond.selects RX10 yX10_stands yX10_stands ∈ wall := wl_m 248 (by decide +kernel) rfl
theorem kC_yX10_stands : Cond.code yX10_stands cX10_stands 5 (Option.some Jvm.ClassFile.FieldType.int) ∈ wall := wl_m 249 (by decide +kernel) rfl
theorem kM_X10_77 : Cond.methodLink RX10 77 yX3_cropIn ∈ wall := wl_m 250 (by decide +kernel) rfl
theorem kI_yX3_cropIn : Cond.instanceMethod yX3_cropIn ∈ wall := wl_m 251 (by decide +kernel) rfl
theorem kV_yX3_cropIn : Cond.selects RX3 yX3_cropIn yX3_cropIn ∈ wall := wl_m 252 (by decide +kernel) rfl
theorem kC_yX3_cropIn : Cond.code yX3_cropIn cX3_cropIn 5 (Option.some Jvm.ClassFile.FieldType.int) ∈ wall := wl_m 253 (by decide +kernel) rfl
theorem kM_X3_54 : Cond.methodLink RX3 54 yX3_grownIn ∈ wall := wl_m 254 (by decide +kernel) rfl
theorem kI_yX3_grownIn : Cond.instanceMethod yX3_grownIn ∈ wall := wl_m 255 (by decide +kernel) rfl
theorem kV_yX3_grownIn : Cond.selects RX3 yX3_grownIn yX3_grownIn ∈ wall := wl_m 256 (by decide +kernel) rfl
theorem kC_yX3_grownIn : Cond.code yX3_grownIn cX3_grownIn 2 (Option.some (Jvm.ClassFile.FieldType.object "CleanSeed$Lot")) ∈ wall := wl_m 257 (by decide +kernel) rfl
theorem kM_L_33 : Cond.methodLink RL 33 yX10_statute ∈ wall := wl_m 258 (by decide +kernel) rfl
theorem kI_yX10_statute : Cond.instanceMethod yX10_statute ∈ wall := wl_m 259 (by decide +kernel) rfl
theorem kV_yX10_statute : Cond.selects RX10 yX10_statute yX10_statute ∈ wall := wl_m 260 (by decide +kernel) rfl
theorem kC_yX10_statute : Cond.code yX10_statute cX10_statute 4 (Option.some Jvm.ClassFile.FieldType.int) ∈ wall := wl_m 261 (by decide +kernel) rfl
theorem kF_X10_81 : Cond.fieldLink RX10 81 "CleanSeed" "STATUTE_TOPS" "[I" ∈ wall := wl_m 262 (by decide +kernel) rfl
theorem kM_X10_84 : Cond.methodLink RX10 84 yX2_addStatute ∈ wall := wl_m 263 (by decide +kernel) rfl
theorem kI_yX2_addStatute : Cond.instanceMethod yX2_addStatute ∈ wall := wl_m 264 (by decide +kernel) rfl
theorem kV_yX2_addStatute : Cond.selects RX2 yX2_addStatute yX2_addStatute ∈ wall := wl_m 265 (by decide +kernel) rfl
theorem kC_yX2_addStatute : Cond.code yX2_addStatute cX2_addStatute 4 (Option.some Jvm.ClassFile.FieldType.int) ∈ wall := wl_m 266 (by decide +kernel) rfl
theorem kT_X8 : Cond.instantiable RX8 4 ∈ wall := wl_m 267 (by decide +kernel) rfl
theorem kM_X2_64 : Cond.methodLink RX2 64 yX8_init ∈ wall := wl_m 268 (by decide +kernel) rfl
theorem kI_yX8_init : Cond.instanceMethod yX8_init ∈ wall := wl_m 269 (by decide +kernel) rfl
theorem kC_yX8_init : Cond.code yX8_init cX8_init 5 (Option.none : Option Jvm.ClassFile.FieldType) ∈ wall := wl_m 270 (by decide +kernel) rfl
theorem kM_X8_1 : Cond.methodLink RX8 1 objectInit ∈ wall := wl_m 271 (by decide +kernel) rfl
theorem kF_X8_7 : Cond.fieldLink RX8 7 "CleanSeed$Statute" "before" "LCleanSeed$Statute;" ∈ wall := wl_m 272 (by decide +kernel) rfl
theorem kF_X2_76 : Cond.fieldLink RX2 76 "CleanSeed$Statute" "before" "LCleanSeed$Statute;" ∈ wall := wl_m 273 (by decide +kernel) rfl
theorem kF_X8_13 : Cond.fieldLink RX8 13 "CleanSeed$Statute" "toldIn" "I" ∈ wall := wl_m 274 (by decide +kernel) rfl
theorem kF_X2_70 : Cond.fieldLink RX2 70 "CleanSeed$Statute" "toldIn" "I" ∈ wall := wl_m 275 (by decide +kernel) rfl
theorem kF_X8_17 : Cond.fieldLink RX8 17 "CleanSeed$Statute" "from" "I" ∈ wall := wl_m 276 (by decide +kernel) rfl
theorem kF_X2_73 : Cond.fieldLink RX2 73 "CleanSeed$Statute" "from" "I" ∈ wall := wl_m 277 (by decide +kernel) rfl
theorem kF_X8_20 : Cond.fieldLink RX8 20 "CleanSeed$Statute" "value" "I" ∈ wall := wl_m 278 (by decide +kernel) rfl
theorem kF_X2_80 : Cond.fieldLink RX2 80 "CleanSeed$Statute" "value" "I" ∈ wall := wl_m 279 (by decide +kernel) rfl
theorem kM_L_37 : Cond.methodLink RL 37 yX10_force ∈ wall := wl_m 289 (by decide +kernel) rfl
theorem kI_yX10_force : Cond.instanceMethod yX10_force ∈ wall := wl_m 290 (by decide +kernel) rfl
theorem kV_yX10_force : Cond.selects RX10 yX10_force yX10_force ∈ wall := wl_m 291 (by decide +kernel) rfl
theorem kC_yX10_force : Cond.code yX10_force cX10_force 4 (Option.some Jvm.ClassFile.FieldType.int) ∈ wall := wl_m 292 (by decide +kernel) rfl
theorem kM_X10_88 : Cond.methodLink RX10 88 yX2_inForce ∈ wall := wl_m 293 (by decide +kernel) rfl
theorem kI_yX2_inForce : Cond.instanceMethod yX2_inForce ∈ wall := wl_m 294 (by decide +kernel) rfl
theorem kV_yX2_inForce : Cond.selects RX2 yX2_inForce yX2_inForce ∈ wall := wl_m 295 (by decide +kernel) rfl
theorem kC_yX2_inForce : Cond.code yX2_inForce cX2_inForce 7 (Option.some Jvm.ClassFile.FieldType.int) ∈ wall := wl_m 296 (by decide +kernel) rfl
theorem kM_L_41 : Cond.methodLink RL 41 yX10_tube ∈ wall := wl_m 299 (by decide +kernel) rfl
theorem kI_yX10_tube : Cond.instanceMethod yX10_tube ∈ wall := wl_m 300 (by decide +kernel) rfl
theorem kV_yX10_tube : Cond.selects RX10 yX10_tube yX10_tube ∈ wall := wl_m 301 (by decide +kernel) rfl
theorem kC_yX10_tube : Cond.code yX10_tube cX10_tube 3 (Option.some Jvm.ClassFile.FieldType.int) ∈ wall := wl_m 302 (by decide +kernel) rfl
theorem kL_X10_94 : Cond.classLink RX10 94 RX6 ∈ wall := wl_m 303 (by decide +kernel) rfl
theorem kT_X6 : Cond.instantiable RX6 20 ∈ wall := wl_m 304 (by decide +kernel) rfl
theorem kM_X10_96 : Cond.methodLink RX10 96 yX6_init ∈ wall := wl_m 305 (by decide +kernel) rfl
theorem kI_yX6_init : Cond.instanceMethod yX6_init ∈ wall := wl_m 306 (by decide +kernel) rfl
theorem kC_yX6_init : Cond.code yX6_init cX6_init 5 (Option.none : Option Jvm.ClassFile.FieldType) ∈ wall := wl_m 307 (by decide +kernel) rfl
theorem kM_X6_3 : Cond.methodLink RX6 3 objectInit ∈ wall := wl_m 308 (by decide +kernel) rfl
theorem kF_X6_64 : Cond.fieldLink RX6 64 "CleanSeed$Lot" "number" "I" ∈ wall := wl_m 309 (by decide +kernel) rfl
theorem kF_X1_25 : Cond.fieldLink RX1 25 "CleanSeed$Lot" "number" "I" ∈ wall := wl_m 310 (by decide +kernel) rfl
theorem kF_X4_84 : Cond.fieldLink RX4 84 "CleanSeed$Lot" "number" "I" ∈ wall := wl_m 311 (by decide +kernel) rfl
theorem kF_X10_232 : Cond.fieldLink RX10 232 "CleanSeed$Lot" "number" "I" ∈ wall := wl_m 312 (by decide +kernel) rfl
theorem kF_X6_67 : Cond.fieldLink RX6 67 "CleanSeed$Lot" "sort" "I" ∈ wall := wl_m 313 (by decide +kernel) rfl
theorem kF_X0_25 : Cond.fieldLink RX0 25 "CleanSeed$Lot" "sort" "I" ∈ wall := wl_m 314 (by decide +kernel) rfl
theorem kF_X10_115 : Cond.fieldLink RX10 115 "CleanSeed$Lot" "sort" "I" ∈ wall := wl_m 315 (by decide +kernel) rfl
theorem kF_X6_70 : Cond.fieldLink RX6 70 "CleanSeed$Lot" "crop" "I" ∈ wall := wl_m 316 (by decide +kernel) rfl
theorem kF_X7_65 : Cond.fieldLink RX7 65 "CleanSeed$Lot" "crop" "I" ∈ wall := wl_m 317 (by decide +kernel) rfl
theorem kF_X3_58 : Cond.fieldLink RX3 58 "CleanSeed$Lot" "crop" "I" ∈ wall := wl_m 318 (by decide +kernel) rfl
theorem kF_X0_74 : Cond.fieldLink RX0 74 "CleanSeed$Lot" "crop" "I" ∈ wall := wl_m 319 (by decide +kernel) rfl
theorem kF_X10_124 : Cond.fieldLink RX10 124 "CleanSeed$Lot" "crop" "I" ∈ wall := wl_m 320 (by decide +kernel) rfl
theorem kF_X6_73 : Cond.fieldLink RX6 73 "CleanSeed$Lot" "year" "I" ∈ wall := wl_m 321 (by decide +kernel) rfl
theorem kF_X3_48 : Cond.fieldLink RX3 48 "CleanSeed$Lot" "year" "I" ∈ wall := wl_m 322 (by decide +kernel) rfl
theorem kF_X0_67 : Cond.fieldLink RX0 67 "CleanSeed$Lot" "year" "I" ∈ wall := wl_m 323 (by decide +kernel) rfl
theorem kF_X10_118 : Cond.fieldLink RX10 118 "CleanSeed$Lot" "year" "I" ∈ wall := wl_m 324 (by decide +kernel) rfl
theorem kF_X6_9 : Cond.fieldLink RX6 9 "CleanSeed$Lot" "place" "LCleanSeed$Field;" ∈ wall := wl_m 325 (by decide +kernel) rfl
theorem kF_X0_59 : Cond.fieldLink RX0 59 "CleanSeed$Lot" "place" "LCleanSeed$Field;" ∈ wall := wl_m 326 (by decide +kernel) rfl
theorem kF_X10_131 : Cond.fieldLink RX10 131 "CleanSeed$Lot" "place" "LCleanSeed$Field;" ∈ wall := wl_m 327 (by decide +kernel) rfl
theorem kF_X6_15 : Cond.fieldLink RX6 15 "CleanSeed$Lot" "mother" "LCleanSeed$Lot;" ∈ wall := wl_m 328 (by decide +kernel) rfl
theorem kF_X4_25 : Cond.fieldLink RX4 25 "CleanSeed$Lot" "mother" "LCleanSeed$Lot;" ∈ wall := wl_m 329 (by decide +kernel) rfl
theorem kF_X10_127 : Cond.fieldLink RX10 127 "CleanSeed$Lot" "mother" "LCleanSeed$Lot;" ∈ wall := wl_m 330 (by decide +kernel) rfl
theorem kF_X6_19 : Cond.fieldLink RX6 19 "CleanSeed$Lot" "second" "LCleanSeed$Lot;" ∈ wall := wl_m 331 (by decide +kernel) rfl
theorem kF_X4_35 : Cond.fieldLink RX4 35 "CleanSeed$Lot" "second" "LCleanSeed$Lot;" ∈ wall := wl_m 332 (by decide +kernel) rfl
theorem kF_X10_149 : Cond.fieldLink RX10 149 "CleanSeed$Lot" "second" "LCleanSeed$Lot;" ∈ wall := wl_m 333 (by decide +kernel) rfl
theorem kF_X6_22 : Cond.fieldLink RX6 22 "CleanSeed$Lot" "grams" "I" ∈ wall := wl_m 334 (by decide +kernel) rfl
theorem kF_X10_139 : Cond.fieldLink RX10 139 "CleanSeed$Lot" "grams" "I" ∈ wall := wl_m 335 (by decide +kernel) rfl
theorem kF_X6_26 : Cond.fieldLink RX6 26 "CleanSeed$Lot" "first" "I" ∈ wall := wl_m 336 (by decide +kernel) rfl
theorem kF_X10_145 : Cond.fieldLink RX10 145 "CleanSeed$Lot" "first" "I" ∈ wall := wl_m 337 (by decide +kernel) rfl
theorem kF_X6_29 : Cond.fieldLink RX6 29 "CleanSeed$Lot" "sown" "I" ∈ wall := wl_m 338 (by decide +kernel) rfl
theorem kF_X10_142 : Cond.fieldLink RX10 142 "CleanSeed$Lot" "sown" "I" ∈ wall := wl_m 339 (by decide +kernel) rfl
theorem kF_X6_32 : Cond.fieldLink RX6 32 "CleanSeed$Lot" "mixed" "I" ∈ wall := wl_m 340 (by decide +kernel) rfl
theorem kF_X10_152 : Cond.fieldLink RX10 152 "CleanSeed$Lot" "mixed" "I" ∈ wall := wl_m 341 (by decide +kernel) rfl
theorem kF_X6_35 : Cond.fieldLink RX6 35 "CleanSeed$Lot" "bagged" "I" ∈ wall := wl_m 342 (by decide +kernel) rfl
theorem kF_X10_162 : Cond.fieldLink RX10 162 "CleanSeed$Lot" "bagged" "I" ∈ wall := wl_m 343 (by decide +kernel) rfl
theorem kF_X6_38 : Cond.fieldLink RX6 38 "CleanSeed$Lot" "tossed" "I" ∈ wall := wl_m 344 (by decide +kernel) rfl
theorem kF_X10_198 : Cond.fieldLink RX10 198 "CleanSeed$Lot" "tossed" "I" ∈ wall := wl_m 345 (by decide +kernel) rfl
theorem kF_X6_41 : Cond.fieldLink RX6 41 "CleanSeed$Lot" "lastLook" "LCleanSeed$Look;" ∈ wall := wl_m 346 (by decide +kernel) rfl
theorem kF_X10_206 : Cond.fieldLink RX10 206 "CleanSeed$Lot" "lastLook" "LCleanSeed$Look;" ∈ wall := wl_m 347 (by decide +kernel) rfl
theorem kF_X6_45 : Cond.fieldLink RX6 45 "CleanSeed$Lot" "falseIn" "I" ∈ wall := wl_m 348 (by decide +kernel) rfl
theorem kF_X10_225 : Cond.fieldLink RX10 225 "CleanSeed$Lot" "falseIn" "I" ∈ wall := wl_m 349 (by decide +kernel) rfl
theorem kF_X6_48 : Cond.fieldLink RX6 48 "CleanSeed$Lot" "rank" "I" ∈ wall := wl_m 350 (by decide +kernel) rfl
theorem kF_X0_38 : Cond.fieldLink RX0 38 "CleanSeed$Lot" "rank" "I" ∈ wall := wl_m 351 (by decide +kernel) rfl
theorem kF_X10_239 : Cond.fieldLink RX10 239 "CleanSeed$Lot" "rank" "I" ∈ wall := wl_m 352 (by decide +kernel) rfl
theorem kF_X6_51 : Cond.fieldLink RX6 51 "CleanSeed$Lot" "reason" "I" ∈ wall := wl_m 353 (by decide +kernel) rfl
theorem kF_X0_45 : Cond.fieldLink RX0 45 "CleanSeed$Lot" "reason" "I" ∈ wall := wl_m 354 (by decide +kernel) rfl
theorem kF_X10_242 : Cond.fieldLink RX10 242 "CleanSeed$Lot" "reason" "I" ∈ wall := wl_m 355 (by decide +kernel) rfl
theorem kF_X6_54 : Cond.fieldLink RX6 54 "CleanSeed$Lot" "lines" "I" ∈ wall := wl_m 356 (by decide +kernel) rfl
theorem kF_X4_45 : Cond.fieldLink RX4 45 "CleanSeed$Lot" "lines" "I" ∈ wall := wl_m 357 (by decide +kernel) rfl
theorem kF_X10_248 : Cond.fieldLink RX10 248 "CleanSeed$Lot" "lines" "I" ∈ wall := wl_m 358 (by decide +kernel) rfl
theorem kF_X6_57 : Cond.fieldLink RX6 57 "CleanSeed$Lot" "above" "Z" ∈ wall := wl_m 359 (by decide +kernel) rfl
theorem kF_X4_80 : Cond.fieldLink RX4 80 "CleanSeed$Lot" "above" "Z" ∈ wall := wl_m 360 (by decide +kernel) rfl
theorem kF_X6_61 : Cond.fieldLink RX6 61 "CleanSeed$Lot" "akin" "Z" ∈ wall := wl_m 361 (by decide +kernel) rfl
theorem kF_X4_94 : Cond.fieldLink RX4 94 "CleanSeed$Lot" "akin" "Z" ∈ wall := wl_m 362 (by decide +kernel) rfl
theorem kM_X10_99 : Cond.methodLink RX10 99 yX6_gain ∈ wall := wl_m 404 (by decide +kernel) rfl
theorem kI_yX6_gain : Cond.instanceMethod yX6_gain ∈ wall := wl_m 405 (by decide +kernel) rfl
theorem kV_yX6_gain : Cond.selects RX6 yX6_gain yX6_gain ∈ wall := wl_m 406 (by decide +kernel) rfl
theorem kC_yX6_gain : Cond.code yX6_gain cX6_gain 2 (Option.none : Option Jvm.ClassFile.FieldType) ∈ wall := wl_m 407 (by decide +kernel) rfl
theorem kM_X10_103 : Cond.methodLink RX10 103 yX2_addLot ∈ wall := wl_m 408 (by decide +kernel) rfl
theorem kI_yX2_addLot : Cond.instanceMethod yX2_addLot ∈ wall := wl_m 409 (by decide +kernel) rfl
theorem kV_yX2_addLot : Cond.selects RX2 yX2_addLot yX2_addLot ∈ wall := wl_m 410 (by decide +kernel) rfl
theorem kC_yX2_addLot : Cond.code yX2_addLot cX2_addLot 2 (Option.some Jvm.ClassFile.FieldType.int) ∈ wall := wl_m 411 (by decide +kernel) rfl
theorem kM_L_46 : Cond.methodLink RL 46 yX10_sow ∈ wall := wl_m 412 (by decide +kernel) rfl
theorem kI_yX10_sow : Cond.instanceMethod yX10_sow ∈ wall := wl_m 413 (by decide +kernel) rfl
theorem kV_yX10_sow : Cond.selects RX10 yX10_sow yX10_sow ∈ wall := wl_m 414 (by decide +kernel) rfl
theorem kC_yX10_sow : Cond.code yX10_sow cX10_sow 8 (Option.some Jvm.ClassFile.FieldType.int) ∈ wall := wl_m 415 (by decide +kernel) rfl
theorem kM_X10_107 : Cond.methodLink RX10 107 yX2_lotAt ∈ wall := wl_m 416 (by decide +kernel) rfl
theorem kI_yX2_lotAt : Cond.instanceMethod yX2_lotAt ∈ wall := wl_m 417 (by decide +kernel) rfl
theorem kV_yX2_lotAt : Cond.selects RX2 yX2_lotAt yX2_lotAt ∈ wall := wl_m 418 (by decide +kernel) rfl
theorem kC_yX2_lotAt : Cond.code yX2_lotAt cX2_lotAt 2 (Option.some (Jvm.ClassFile.FieldType.object "CleanSeed$Lot")) ∈ wall := wl_m 419 (by decide +kernel) rfl
theorem kM_X10_111 : Cond.methodLink RX10 111 yX6_has ∈ wall := wl_m 420 (by decide +kernel) rfl
theorem kI_yX6_has : Cond.instanceMethod yX6_has ∈ wall := wl_m 421 (by decide +kernel) rfl
theorem kV_yX6_has : Cond.selects RX6 yX6_has yX6_has ∈ wall := wl_m 422 (by decide +kernel) rfl
theorem kC_yX6_has : Cond.code yX6_has cX6_has 2 (Option.some Jvm.ClassFile.FieldType.boolean) ∈ wall := wl_m 423 (by decide +kernel) rfl
theorem kM_X10_121 : Cond.methodLink RX10 121 yX3_grownIn ∈ wall := wl_m 424 (by decide +kernel) rfl
theorem kM_X10_135 : Cond.methodLink RX10 135 yX3_grow ∈ wall := wl_m 425 (by decide +kernel) rfl
theorem kI_yX3_grow : Cond.instanceMethod yX3_grow ∈ wall := wl_m 426 (by decide +kernel) rfl
theorem kV_yX3_grow : Cond.selects RX3 yX3_grow yX3_grow ∈ wall := wl_m 427 (by decide +kernel) rfl
theorem kC_yX3_grow : Cond.code yX3_grow cX3_grow 2 (Option.none : Option Jvm.ClassFile.FieldType) ∈ wall := wl_m 428 (by decide +kernel) rfl
theorem kM_L_50 : Cond.methodLink RL 50 yX10_harvest ∈ wall := wl_m 429 (by decide +kernel) rfl
theorem kI_yX10_harvest : Cond.instanceMethod yX10_harvest ∈ wall := wl_m 430 (by decide +kernel) rfl
theorem kV_yX10_harvest : Cond.selects RX10 yX10_harvest yX10_harvest ∈ wall := wl_m 431 (by decide +kernel) rfl
theorem kC_yX10_harvest : Cond.code yX10_harvest cX10_harvest 4 (Option.some Jvm.ClassFile.FieldType.boolean) ∈ wall := wl_m 432 (by decide +kernel) rfl
theorem kM_L_55 : Cond.methodLink RL 55 yX10_mix ∈ wall := wl_m 434 (by decide +kernel) rfl
theorem kI_yX10_mix : Cond.instanceMethod yX10_mix ∈ wall := wl_m 435 (by decide +kernel) rfl
theorem kV_yX10_mix : Cond.selects RX10 yX10_mix yX10_mix ∈ wall := wl_m 436 (by decide +kernel) rfl
theorem kC_yX10_mix : Cond.code yX10_mix cX10_mix 8 (Option.some Jvm.ClassFile.FieldType.int) ∈ wall := wl_m 437 (by decide +kernel) rfl
theorem kM_L_59 : Cond.methodLink RL 59 yX10_bag ∈ wall := wl_m 438 (by decide +kernel) rfl
theorem kI_yX10_bag : Cond.instanceMethod yX10_bag ∈ wall := wl_m 439 (by decide +kernel) rfl
theorem kV_yX10_bag : Cond.selects RX10 yX10_bag yX10_bag ∈ wall := wl_m 440 (by decide +kernel) rfl
theorem kC_yX10_bag : Cond.code yX10_bag cX10_bag 4 (Option.some Jvm.ClassFile.FieldType.int) ∈ wall := wl_m 441 (by decide +kernel) rfl
theorem kM_X10_158 : Cond.methodLink RX10 158 yX10_isOutNow ∈ wall := wl_m 442 (by decide +kernel) rfl
theorem kI_yX10_isOutNow : Cond.instanceMethod yX10_isOutNow ∈ wall := wl_m 444 (by decide +kernel) rfl
theorem kC_yX10_isOutNow : Cond.code yX10_isOutNow cX10_isOutNow 2 (Option.some Jvm.ClassFile.FieldType.boolean) ∈ wall := wl_m 445 (by decide +kernel) rfl
theorem kM_X10_235 : Cond.methodLink RX10 235 yX0_assessUpTo ∈ wall := wl_m 446 (by decide +kernel) rfl
theorem kI_yX0_assessUpTo : Cond.instanceMethod yX0_assessUpTo ∈ wall := wl_m 447 (by decide +kernel) rfl
theorem kV_yX0_assessUpTo : Cond.selects RX0 yX0_assessUpTo yX0_assessUpTo ∈ wall := wl_m 448 (by decide +kernel) rfl
theorem kC_yX0_assessUpTo : Cond.code yX0_assessUpTo cX0_assessUpTo 5 (Option.none : Option Jvm.ClassFile.FieldType) ∈ wall := wl_m 449 (by decide +kernel) rfl
theorem kM_X0_21 : Cond.methodLink RX0 21 yX2_lotAt ∈ wall := wl_m 450 (by decide +kernel) rfl
theorem kM_X0_30 : Cond.methodLink RX0 30 yX0_assess ∈ wall := wl_m 451 (by decide +kernel) rfl
theorem kI_yX0_assess : Cond.instanceMethod yX0_assess ∈ wall := wl_m 453 (by decide +kernel) rfl
theorem kC_yX0_assess : Cond.code yX0_assess cX0_assess 3 (Option.none : Option Jvm.ClassFile.FieldType) ∈ wall := wl_m 454 (by decide +kernel) rfl
theorem kM_X0_41 : Cond.methodLink RX0 41 yX0_reasonToRefuse ∈ wall := wl_m 455 (by decide +kernel) rfl
theorem kI_yX0_reasonToRefuse : Cond.instanceMethod yX0_reasonToRefuse ∈ wall := wl_m 457 (by decide +kernel) rfl
theorem kC_yX0_reasonToRefuse : Cond.code yX0_reasonToRefuse cX0_reasonToRefuse 3 (Option.some Jvm.ClassFile.FieldType.int) ∈ wall := wl_m 458 (by decide +kernel) rfl
theorem kM_X0_52 : Cond.methodLink RX0 52 yX6_isFalseAsKnownIn ∈ wall := wl_m 459 (by decide +kernel) rfl
theorem kI_yX6_isFalseAsKnownIn : Cond.instanceMethod yX6_isFalseAsKnownIn ∈ wall := wl_m 460 (by decide +kernel) rfl
theorem kV_yX6_isFalseAsKnownIn : Cond.selects RX6 yX6_isFalseAsKnownIn yX6_isFalseAsKnownIn ∈ wall := wl_m 461 (by decide +kernel) rfl
theorem kC_yX6_isFalseAsKnownIn : Cond.code yX6_isFalseAsKnownIn cX6_isFalseAsKnownIn 2 (Option.some Jvm.ClassFile.FieldType.boolean) ∈ wall := wl_m 462 (by decide +kernel) rfl
theorem kM_X0_48 : Cond.methodLink RX0 48 yX6_rankOfMothers ∈ wall := wl_m 463 (by decide +kernel) rfl
theorem kI_yX6_rankOfMothers : Cond.instanceMethod yX6_rankOfMothers ∈ wall := wl_m 464 (by decide +kernel) rfl
theorem kV_yX6_rankOfMothers : Cond.selects RX6 yX6_rankOfMothers yX6_rankOfMothers ∈ wall := wl_m 465 (by decide +kernel) rfl
theorem kC_yX6_rankOfMothers : Cond.code yX6_rankOfMothers cX6_rankOfMothers 3 (Option.some Jvm.ClassFile.FieldType.int) ∈ wall := wl_m 466 (by decide +kernel) rfl
theorem kM_X6_92 : Cond.methodLink RX6 92 Lib.Math.max.name ∈ wall := wl_m 467 (by decide +kernel) rfl
theorem kM_X0_56 : Cond.methodLink RX0 56 yX0_reasonInField ∈ wall := wl_m 468 (by decide +kernel) rfl
theorem kI_yX0_reasonInField : Cond.instanceMethod yX0_reasonInField ∈ wall := wl_m 470 (by decide +kernel) rfl
theorem kC_yX0_reasonInField : Cond.code yX0_reasonInField cX0_reasonInField 7 (Option.some Jvm.ClassFile.FieldType.int) ∈ wall := wl_m 471 (by decide +kernel) rfl
theorem kM_X0_63 : Cond.methodLink RX0 63 yX0_isCrowded ∈ wall := wl_m 472 (by decide +kernel) rfl
theorem kI_yX0_isCrowded : Cond.instanceMethod yX0_isCrowded ∈ wall := wl_m 474 (by decide +kernel) rfl
theorem kC_yX0_isCrowded : Cond.code yX0_isCrowded cX0_isCrowded 6 (Option.some Jvm.ClassFile.FieldType.boolean) ∈ wall := wl_m 475 (by decide +kernel) rfl
theorem kM_X0_70 : Cond.methodLink RX0 70 yX2_inForce ∈ wall := wl_m 476 (by decide +kernel) rfl
theorem kM_X0_103 : Cond.methodLink RX0 103 yX2_fieldAt ∈ wall := wl_m 477 (by decide +kernel) rfl
theorem kM_X0_107 : Cond.methodLink RX0 107 yX3_cropIn ∈ wall := wl_m 478 (by decide +kernel) rfl
theorem kM_X0_111 : Cond.methodLink RX0 111 yX3_squareTo ∈ wall := wl_m 479 (by decide +kernel) rfl
theorem kM_X0_115 : Cond.methodLink RX0 115 yX3_grownIn ∈ wall := wl_m 480 (by decide +kernel) rfl
theorem kM_X0_118 : Cond.methodLink RX0 118 yX0_isAsGood ∈ wall := wl_m 481 (by decide +kernel) rfl
theorem kI_yX0_isAsGood : Cond.instanceMethod yX0_isAsGood ∈ wall := wl_m 483 (by decide +kernel) rfl
theorem kC_yX0_isAsGood : Cond.code yX0_isAsGood cX0_isAsGood 3 (Option.some Jvm.ClassFile.FieldType.boolean) ∈ wall := wl_m 484 (by decide +kernel) rfl
theorem kM_X0_77 : Cond.methodLink RX0 77 yX3_stoodAheadOf ∈ wall := wl_m 485 (by decide +kernel) rfl
theorem kI_yX3_stoodAheadOf : Cond.instanceMethod yX3_stoodAheadOf ∈ wall := wl_m 486 (by decide +kernel) rfl
theorem kV_yX3_stoodAheadOf : Cond.selects RX3 yX3_stoodAheadOf yX3_stoodAheadOf ∈ wall := wl_m 487 (by decide +kernel) rfl
theorem kC_yX3_stoodAheadOf : Cond.code yX3_stoodAheadOf cX3_stoodAheadOf 7 (Option.some Jvm.ClassFile.FieldType.boolean) ∈ wall := wl_m 488 (by decide +kernel) rfl
theorem kM_X3_69 : Cond.methodLink RX3 69 yX3_cropIn ∈ wall := wl_m 489 (by decide +kernel) rfl
theorem kM_X0_83 : Cond.methodLink RX0 83 yX6_lastLookAsKnownIn ∈ wall := wl_m 490 (by decide +kernel) rfl
theorem kI_yX6_lastLookAsKnownIn : Cond.instanceMethod yX6_lastLookAsKnownIn ∈ wall := wl_m 491 (by decide +kernel) rfl
theorem kV_yX6_lastLookAsKnownIn : Cond.selects RX6 yX6_lastLookAsKnownIn yX6_lastLookAsKnownIn ∈ wall := wl_m 492 (by decide +kernel) rfl
theorem kC_yX6_lastLookAsKnownIn : Cond.code yX6_lastLookAsKnownIn cX6_lastLookAsKnownIn 3 (Option.some (Jvm.ClassFile.FieldType.object "CleanSeed$Look")) ∈ wall := wl_m 493 (by decide +kernel) rfl
theorem kL_X10_165 : Cond.classLink RX10 165 RX1 ∈ wall := wl_m 495 (by decide +kernel) rfl
theorem kT_X1 : Cond.instantiable RX1 4 ∈ wall := wl_m 496 (by decide +kernel) rfl
theorem kM_X10_167 : Cond.methodLink RX10 167 yX2_nextSeal ∈ wall := wl_m 497 (by decide +kernel) rfl
theorem kI_yX2_nextSeal : Cond.instanceMethod yX2_nextSeal ∈ wall := wl_m 498 (by decide +kernel) rfl
theorem kV_yX2_nextSeal : Cond.selects RX2 yX2_nextSeal yX2_nextSeal ∈ wall := wl_m 499 (by decide +kernel) rfl
theorem kC_yX2_nextSeal : Cond.code yX2_nextSeal cX2_nextSeal 1 (Option.some Jvm.ClassFile.FieldType.int) ∈ wall := wl_m 500 (by decide +kernel) rfl
theorem kM_X10_171 : Cond.methodLink RX10 171 yX1_init ∈ wall := wl_m 501 (by decide +kernel) rfl
theorem kI_yX1_init : Cond.instanceMethod yX1_init ∈ wall := wl_m 502 (by decide +kernel) rfl
theorem kC_yX1_init : Cond.code yX1_init cX1_init 4 (Option.none : Option Jvm.ClassFile.FieldType) ∈ wall := wl_m 503 (by decide +kernel) rfl
theorem kM_X1_3 : Cond.methodLink RX1 3 objectInit ∈ wall := wl_m 504 (by decide +kernel) rfl
theorem kF_X1_15 : Cond.fieldLink RX1 15 "CleanSeed$Bag" "lot" "LCleanSeed$Lot;" ∈ wall := wl_m 505 (by decide +kernel) rfl
theorem kF_X4_65 : Cond.fieldLink RX4 65 "CleanSeed$Bag" "lot" "LCleanSeed$Lot;" ∈ wall := wl_m 506 (by decide +kernel) rfl
theorem kF_X10_192 : Cond.fieldLink RX10 192 "CleanSeed$Bag" "lot" "LCleanSeed$Lot;" ∈ wall := wl_m 507 (by decide +kernel) rfl
theorem kF_X1_19 : Cond.fieldLink RX1 19 "CleanSeed$Bag" "grams" "I" ∈ wall := wl_m 508 (by decide +kernel) rfl
theorem kF_X1_22 : Cond.fieldLink RX1 22 "CleanSeed$Bag" "seal" "I" ∈ wall := wl_m 509 (by decide +kernel) rfl
theorem kF_X10_186 : Cond.fieldLink RX10 186 "CleanSeed$Bag" "seal" "I" ∈ wall := wl_m 510 (by decide +kernel) rfl
theorem kF_X1_9 : Cond.fieldLink RX1 9 "CleanSeed$Bag" "buyer" "I" ∈ wall := wl_m 511 (by decide +kernel) rfl
theorem kF_X4_68 : Cond.fieldLink RX4 68 "CleanSeed$Bag" "buyer" "I" ∈ wall := wl_m 512 (by decide +kernel) rfl
theorem kF_X10_195 : Cond.fieldLink RX10 195 "CleanSeed$Bag" "buyer" "I" ∈ wall := wl_m 513 (by decide +kernel) rfl
theorem kM_X10_174 : Cond.methodLink RX10 174 yX2_addBag ∈ wall := wl_m 523 (by decide +kernel) rfl
theorem kI_yX2_addBag : Cond.instanceMethod yX2_addBag ∈ wall := wl_m 524 (by decide +kernel) rfl
theorem kV_yX2_addBag : Cond.selects RX2 yX2_addBag yX2_addBag ∈ wall := wl_m 525 (by decide +kernel) rfl
theorem kC_yX2_addBag : Cond.code yX2_addBag cX2_addBag 2 (Option.some Jvm.ClassFile.FieldType.int) ∈ wall := wl_m 526 (by decide +kernel) rfl
theorem kM_L_63 : Cond.methodLink RL 63 yX10_open ∈ wall := wl_m 527 (by decide +kernel) rfl
theorem kI_yX10_open : Cond.instanceMethod yX10_open ∈ wall := wl_m 528 (by decide +kernel) rfl
theorem kV_yX10_open : Cond.selects RX10 yX10_open yX10_open ∈ wall := wl_m 529 (by decide +kernel) rfl
theorem kC_yX10_open : Cond.code yX10_open cX10_open 3 (Option.some Jvm.ClassFile.FieldType.boolean) ∈ wall := wl_m 530 (by decide +kernel) rfl
theorem kM_X10_178 : Cond.methodLink RX10 178 yX2_bagAt ∈ wall := wl_m 531 (by decide +kernel) rfl
theorem kI_yX2_bagAt : Cond.instanceMethod yX2_bagAt ∈ wall := wl_m 532 (by decide +kernel) rfl
theorem kV_yX2_bagAt : Cond.selects RX2 yX2_bagAt yX2_bagAt ∈ wall := wl_m 533 (by decide +kernel) rfl
theorem kC_yX2_bagAt : Cond.code yX2_bagAt cX2_bagAt 2 (Option.some (Jvm.ClassFile.FieldType.object "CleanSeed$Bag")) ∈ wall := wl_m 534 (by decide +kernel) rfl
theorem kM_X10_182 : Cond.methodLink RX10 182 yX1_isOpened ∈ wall := wl_m 535 (by decide +kernel) rfl
theorem kI_yX1_isOpened : Cond.instanceMethod yX1_isOpened ∈ wall := wl_m 536 (by decide +kernel) rfl
theorem kV_yX1_isOpened : Cond.selects RX1 yX1_isOpened yX1_isOpened ∈ wall := wl_m 537 (by decide +kernel) rfl
theorem kC_yX1_isOpened : Cond.code yX1_isOpened cX1_isOpened 1 (Option.some Jvm.ClassFile.FieldType.boolean) ∈ wall := wl_m 538 (by decide +kernel) rfl
theorem kM_L_68 : Cond.methodLink RL 68 yX10_seal ∈ wall := wl_m 539 (by decide +kernel) rfl
theorem kI_yX10_seal : Cond.instanceMethod yX10_seal ∈ wall := wl_m 540 (by decide +kernel) rfl
theorem kV_yX10_seal : Cond.selects RX10 yX10_seal yX10_seal ∈ wall := wl_m 541 (by decide +kernel) rfl
theorem kC_yX10_seal : Cond.code yX10_seal cX10_seal 3 (Option.some Jvm.ClassFile.FieldType.int) ∈ wall := wl_m 542 (by decide +kernel) rfl
theorem kM_X10_189 : Cond.methodLink RX10 189 yX1_isSold ∈ wall := wl_m 543 (by decide +kernel) rfl
theorem kI_yX1_isSold : Cond.instanceMethod yX1_isSold ∈ wall := wl_m 544 (by decide +kernel) rfl
theorem kV_yX1_isSold : Cond.selects RX1 yX1_isSold yX1_isSold ∈ wall := wl_m 545 (by decide +kernel) rfl
theorem kC_yX1_isSold : Cond.code yX1_isSold cX1_isSold 1 (Option.some Jvm.ClassFile.FieldType.boolean) ∈ wall := wl_m 546 (by decide +kernel) rfl
theorem kM_L_72 : Cond.methodLink RL 72 yX10_sell ∈ wall := wl_m 547 (by decide +kernel) rfl
theorem kI_yX10_sell : Cond.instanceMethod yX10_sell ∈ wall := wl_m 548 (by decide +kernel) rfl
theorem kV_yX10_sell : Cond.selects RX10 yX10_sell yX10_sell ∈ wall := wl_m 549 (by decide +kernel) rfl
theorem kC_yX10_sell : Cond.code yX10_sell cX10_sell 4 (Option.some Jvm.ClassFile.FieldType.boolean) ∈ wall := wl_m 550 (by decide +kernel) rfl
theorem kM_L_76 : Cond.methodLink RL 76 yX10_toss ∈ wall := wl_m 551 (by decide +kernel) rfl
theorem kI_yX10_toss : Cond.instanceMethod yX10_toss ∈ wall := wl_m 552 (by decide +kernel) rfl
theorem kV_yX10_toss : Cond.selects RX10 yX10_toss yX10_toss ∈ wall := wl_m 553 (by decide +kernel) rfl
theorem kC_yX10_toss : Cond.code yX10_toss cX10_toss 4 (Option.some Jvm.ClassFile.FieldType.boolean) ∈ wall := wl_m 554 (by decide +kernel) rfl
theorem kM_L_80 : Cond.methodLink RL 80 yX10_look ∈ wall := wl_m 555 (by decide +kernel) rfl
theorem kI_yX10_look : Cond.instanceMethod yX10_look ∈ wall := wl_m 556 (by decide +kernel) rfl
theorem kV_yX10_look : Cond.selects RX10 yX10_look yX10_look ∈ wall := wl_m 557 (by decide +kernel) rfl
theorem kC_yX10_look : Cond.code yX10_look cX10_look 5 (Option.some Jvm.ClassFile.FieldType.int) ∈ wall := wl_m 558 (by decide +kernel) rfl
theorem kL_X10_204 : Cond.classLink RX10 204 RX5 ∈ wall := wl_m 559 (by decide +kernel) rfl
theorem kT_X5 : Cond.instantiable RX5 5 ∈ wall := wl_m 560 (by decide +kernel) rfl
theorem kM_X10_210 : Cond.methodLink RX10 210 yX5_init ∈ wall := wl_m 561 (by decide +kernel) rfl
theorem kI_yX5_init : Cond.instanceMethod yX5_init ∈ wall := wl_m 562 (by decide +kernel) rfl
theorem kC_yX5_init : Cond.code yX5_init cX5_init 5 (Option.none : Option Jvm.ClassFile.FieldType) ∈ wall := wl_m 563 (by decide +kernel) rfl
theorem kM_X5_1 : Cond.methodLink RX5 1 objectInit ∈ wall := wl_m 564 (by decide +kernel) rfl
theorem kF_X5_7 : Cond.fieldLink RX5 7 "CleanSeed$Look" "before" "LCleanSeed$Look;" ∈ wall := wl_m 565 (by decide +kernel) rfl
theorem kF_X6_82 : Cond.fieldLink RX6 82 "CleanSeed$Look" "before" "LCleanSeed$Look;" ∈ wall := wl_m 566 (by decide +kernel) rfl
theorem kF_X5_13 : Cond.fieldLink RX5 13 "CleanSeed$Look" "toldIn" "I" ∈ wall := wl_m 567 (by decide +kernel) rfl
theorem kF_X6_79 : Cond.fieldLink RX6 79 "CleanSeed$Look" "toldIn" "I" ∈ wall := wl_m 568 (by decide +kernel) rfl
theorem kF_X5_17 : Cond.fieldLink RX5 17 "CleanSeed$Look" "number" "I" ∈ wall := wl_m 569 (by decide +kernel) rfl
theorem kF_X6_76 : Cond.fieldLink RX6 76 "CleanSeed$Look" "number" "I" ∈ wall := wl_m 570 (by decide +kernel) rfl
theorem kF_X0_87 : Cond.fieldLink RX0 87 "CleanSeed$Look" "number" "I" ∈ wall := wl_m 571 (by decide +kernel) rfl
theorem kF_X5_20 : Cond.fieldLink RX5 20 "CleanSeed$Look" "plants" "I" ∈ wall := wl_m 572 (by decide +kernel) rfl
theorem kF_X0_97 : Cond.fieldLink RX0 97 "CleanSeed$Look" "plants" "I" ∈ wall := wl_m 573 (by decide +kernel) rfl
theorem kF_X5_23 : Cond.fieldLink RX5 23 "CleanSeed$Look" "ill" "I" ∈ wall := wl_m 574 (by decide +kernel) rfl
theorem kF_X0_94 : Cond.fieldLink RX0 94 "CleanSeed$Look" "ill" "I" ∈ wall := wl_m 575 (by decide +kernel) rfl
theorem kM_X10_213 : Cond.methodLink RX10 213 yX6_lookCount ∈ wall := wl_m 587 (by decide +kernel) rfl
theorem kI_yX6_lookCount : Cond.instanceMethod yX6_lookCount ∈ wall := wl_m 588 (by decide +kernel) rfl
theorem kV_yX6_lookCount : Cond.selects RX6 yX6_lookCount yX6_lookCount ∈ wall := wl_m 589 (by decide +kernel) rfl
theorem kC_yX6_lookCount : Cond.code yX6_lookCount cX6_lookCount 1 (Option.some Jvm.ClassFile.FieldType.int) ∈ wall := wl_m 590 (by decide +kernel) rfl
theorem kM_L_86 : Cond.methodLink RL 86 yX10_drawn ∈ wall := wl_m 591 (by decide +kernel) rfl
theorem kI_yX10_drawn : Cond.instanceMethod yX10_drawn ∈ wall := wl_m 592 (by decide +kernel) rfl
theorem kV_yX10_drawn : Cond.selects RX10 yX10_drawn yX10_drawn ∈ wall := wl_m 593 (by decide +kernel) rfl
theorem kC_yX10_drawn : Cond.code yX10_drawn cX10_drawn 11 (Option.some Jvm.ClassFile.FieldType.int) ∈ wall := wl_m 594 (by decide +kernel) rfl
theorem kM_X10_216 : Cond.methodLink RX10 216 Lib.Math.min.name ∈ wall := wl_m 595 (by decide +kernel) rfl
theorem kM_L_91 : Cond.methodLink RL 91 yX10_prove ∈ wall := wl_m 598 (by decide +kernel) rfl
theorem kI_yX10_prove : Cond.instanceMethod yX10_prove ∈ wall := wl_m 599 (by decide +kernel) rfl
theorem kV_yX10_prove : Cond.selects RX10 yX10_prove yX10_prove ∈ wall := wl_m 600 (by decide +kernel) rfl
theorem kC_yX10_prove : Cond.code yX10_prove cX10_prove 3 (Option.some Jvm.ClassFile.FieldType.boolean) ∈ wall := wl_m 601 (by decide +kernel) rfl
theorem kM_L_95 : Cond.methodLink RL 95 yX10_year ∈ wall := wl_m 602 (by decide +kernel) rfl
theorem kI_yX10_year : Cond.instanceMethod yX10_year ∈ wall := wl_m 603 (by decide +kernel) rfl
theorem kV_yX10_year : Cond.selects RX10 yX10_year yX10_year ∈ wall := wl_m 604 (by decide +kernel) rfl
theorem kC_yX10_year : Cond.code yX10_year cX10_year 1 (Option.some Jvm.ClassFile.FieldType.int) ∈ wall := wl_m 605 (by decide +kernel) rfl
theorem kM_L_100 : Cond.methodLink RL 100 yX10_judge ∈ wall := wl_m 606 (by decide +kernel) rfl
theorem kI_yX10_judge : Cond.instanceMethod yX10_judge ∈ wall := wl_m 607 (by decide +kernel) rfl
theorem kV_yX10_judge : Cond.selects RX10 yX10_judge yX10_judge ∈ wall := wl_m 608 (by decide +kernel) rfl
theorem kC_yX10_judge : Cond.code yX10_judge cX10_judge 4 (Option.some Jvm.ClassFile.FieldType.int) ∈ wall := wl_m 609 (by decide +kernel) rfl
theorem kM_X10_228 : Cond.methodLink RX10 228 yX10_lotKnownIn ∈ wall := wl_m 610 (by decide +kernel) rfl
theorem kI_yX10_lotKnownIn : Cond.instanceMethod yX10_lotKnownIn ∈ wall := wl_m 612 (by decide +kernel) rfl
theorem kC_yX10_lotKnownIn : Cond.code yX10_lotKnownIn cX10_lotKnownIn 4 (Option.some (Jvm.ClassFile.FieldType.object "CleanSeed$Lot")) ∈ wall := wl_m 613 (by decide +kernel) rfl
theorem kM_L_104 : Cond.methodLink RL 104 yX10_why ∈ wall := wl_m 614 (by decide +kernel) rfl
theorem kI_yX10_why : Cond.instanceMethod yX10_why ∈ wall := wl_m 615 (by decide +kernel) rfl
theorem kV_yX10_why : Cond.selects RX10 yX10_why yX10_why ∈ wall := wl_m 616 (by decide +kernel) rfl
theorem kC_yX10_why : Cond.code yX10_why cX10_why 4 (Option.some Jvm.ClassFile.FieldType.int) ∈ wall := wl_m 617 (by decide +kernel) rfl
theorem kM_L_108 : Cond.methodLink RL 108 yX10_ways ∈ wall := wl_m 618 (by decide +kernel) rfl
theorem kI_yX10_ways : Cond.instanceMethod yX10_ways ∈ wall := wl_m 619 (by decide +kernel) rfl
theorem kV_yX10_ways : Cond.selects RX10 yX10_ways yX10_ways ∈ wall := wl_m 620 (by decide +kernel) rfl
theorem kC_yX10_ways : Cond.code yX10_ways cX10_ways 5 (Option.some Jvm.ClassFile.FieldType.int) ∈ wall := wl_m 621 (by decide +kernel) rfl
theorem kM_X10_245 : Cond.methodLink RX10 245 yX4_traceBelow ∈ wall := wl_m 622 (by decide +kernel) rfl
theorem kI_yX4_traceBelow : Cond.instanceMethod yX4_traceBelow ∈ wall := wl_m 623 (by decide +kernel) rfl
theorem kV_yX4_traceBelow : Cond.selects RX4 yX4_traceBelow yX4_traceBelow ∈ wall := wl_m 624 (by decide +kernel) rfl
theorem kC_yX4_traceBelow : Cond.code yX4_traceBelow cX4_traceBelow 5 (Option.none : Option Jvm.ClassFile.FieldType) ∈ wall := wl_m 625 (by decide +kernel) rfl
theorem kM_X4_21 : Cond.methodLink RX4 21 yX2_lotAt ∈ wall := wl_m 626 (by decide +kernel) rfl
theorem kM_X4_31 : Cond.methodLink RX4 31 yX4_linesOf ∈ wall := wl_m 627 (by decide +kernel) rfl
theorem kS_yX4_linesOf : Cond.static yX4_linesOf ∈ wall := wl_m 628 (by decide +kernel) rfl
theorem kC_yX4_linesOf : Cond.code yX4_linesOf cX4_linesOf 1 (Option.some Jvm.ClassFile.FieldType.int) ∈ wall := wl_m 629 (by decide +kernel) rfl
theorem kM_X4_39 : Cond.methodLink RX4 39 Lib.Math.min.name ∈ wall := wl_m 631 (by decide +kernel) rfl
theorem kM_L_112 : Cond.methodLink RL 112 yX10_touched ∈ wall := wl_m 632 (by decide +kernel) rfl
theorem kI_yX10_touched : Cond.instanceMethod yX10_touched ∈ wall := wl_m 633 (by decide +kernel) rfl
theorem kV_yX10_touched : Cond.selects RX10 yX10_touched yX10_touched ∈ wall := wl_m 634 (by decide +kernel) rfl
theorem kC_yX10_touched : Cond.code yX10_touched cX10_touched 5 (Option.some Jvm.ClassFile.FieldType.int) ∈ wall := wl_m 635 (by decide +kernel) rfl
theorem kM_X10_251 : Cond.methodLink RX10 251 yX4_touchedBy ∈ wall := wl_m 636 (by decide +kernel) rfl
theorem kI_yX4_touchedBy : Cond.instanceMethod yX4_touchedBy ∈ wall := wl_m 637 (by decide +kernel) rfl
theorem kV_yX4_touchedBy : Cond.selects RX4 yX4_touchedBy yX4_touchedBy ∈ wall := wl_m 638 (by decide +kernel) rfl
theorem kC_yX4_touchedBy : Cond.code yX4_touchedBy cX4_touchedBy 7 (Option.some Jvm.ClassFile.FieldType.int) ∈ wall := wl_m 639 (by decide +kernel) rfl
theorem kM_X4_48 : Cond.methodLink RX4 48 yX4_traceBelow ∈ wall := wl_m 640 (by decide +kernel) rfl
theorem kM_X4_71 : Cond.methodLink RX4 71 yX4_markAbove ∈ wall := wl_m 641 (by decide +kernel) rfl
theorem kI_yX4_markAbove : Cond.instanceMethod yX4_markAbove ∈ wall := wl_m 643 (by decide +kernel) rfl
theorem kC_yX4_markAbove : Cond.code yX4_markAbove cX4_markAbove 4 (Option.none : Option Jvm.ClassFile.FieldType) ∈ wall := wl_m 644 (by decide +kernel) rfl
theorem kM_X4_87 : Cond.methodLink RX4 87 yX4_markOneAbove ∈ wall := wl_m 645 (by decide +kernel) rfl
theorem kS_yX4_markOneAbove : Cond.static yX4_markOneAbove ∈ wall := wl_m 646 (by decide +kernel) rfl
theorem kC_yX4_markOneAbove : Cond.code yX4_markOneAbove cX4_markOneAbove 1 (Option.none : Option Jvm.ClassFile.FieldType) ∈ wall := wl_m 647 (by decide +kernel) rfl
theorem kM_X4_74 : Cond.methodLink RX4 74 yX4_markAkin ∈ wall := wl_m 648 (by decide +kernel) rfl
theorem kI_yX4_markAkin : Cond.instanceMethod yX4_markAkin ∈ wall := wl_m 650 (by decide +kernel) rfl
theorem kC_yX4_markAkin : Cond.code yX4_markAkin cX4_markAkin 5 (Option.none : Option Jvm.ClassFile.FieldType) ∈ wall := wl_m 651 (by decide +kernel) rfl
theorem kM_X4_90 : Cond.methodLink RX4 90 yX4_isAkin ∈ wall := wl_m 652 (by decide +kernel) rfl
theorem kS_yX4_isAkin : Cond.static yX4_isAkin ∈ wall := wl_m 653 (by decide +kernel) rfl
theorem kC_yX4_isAkin : Cond.code yX4_isAkin cX4_isAkin 1 (Option.some Jvm.ClassFile.FieldType.boolean) ∈ wall := wl_m 654 (by decide +kernel) rfl
theorem kM_X4_77 : Cond.methodLink RX4 77 yX4_rowOf ∈ wall := wl_m 655 (by decide +kernel) rfl
theorem kS_yX4_rowOf : Cond.static yX4_rowOf ∈ wall := wl_m 656 (by decide +kernel) rfl
theorem kC_yX4_rowOf : Cond.code yX4_rowOf cX4_rowOf 1 (Option.some Jvm.ClassFile.FieldType.int) ∈ wall := wl_m 657 (by decide +kernel) rfl
theorem kM_L_116 : Cond.methodLink RL 116 yX10_buyers ∈ wall := wl_m 658 (by decide +kernel) rfl
theorem kI_yX10_buyers : Cond.instanceMethod yX10_buyers ∈ wall := wl_m 659 (by decide +kernel) rfl
theorem kV_yX10_buyers : Cond.selects RX10 yX10_buyers yX10_buyers ∈ wall := wl_m 660 (by decide +kernel) rfl
theorem kC_yX10_buyers : Cond.code yX10_buyers cX10_buyers 3 (Option.some Jvm.ClassFile.FieldType.int) ∈ wall := wl_m 661 (by decide +kernel) rfl
theorem kM_X10_255 : Cond.methodLink RX10 255 yX4_buyersBelow ∈ wall := wl_m 662 (by decide +kernel) rfl
theorem kI_yX4_buyersBelow : Cond.instanceMethod yX4_buyersBelow ∈ wall := wl_m 663 (by decide +kernel) rfl
theorem kV_yX4_buyersBelow : Cond.selects RX4 yX4_buyersBelow yX4_buyersBelow ∈ wall := wl_m 664 (by decide +kernel) rfl
theorem kC_yX4_buyersBelow : Cond.code yX4_buyersBelow cX4_buyersBelow 5 (Option.some Jvm.ClassFile.FieldType.int) ∈ wall := wl_m 665 (by decide +kernel) rfl
theorem kM_X4_55 : Cond.methodLink RX4 55 yX2_bagAt ∈ wall := wl_m 666 (by decide +kernel) rfl
theorem kM_X4_59 : Cond.methodLink RX4 59 yX1_isSold ∈ wall := wl_m 667 (by decide +kernel) rfl
theorem kM_L_120 : Cond.methodLink RL 120 yX10_want ∈ wall := wl_m 668 (by decide +kernel) rfl
theorem kI_yX10_want : Cond.instanceMethod yX10_want ∈ wall := wl_m 669 (by decide +kernel) rfl
theorem kV_yX10_want : Cond.selects RX10 yX10_want yX10_want ∈ wall := wl_m 670 (by decide +kernel) rfl
theorem kC_yX10_want : Cond.code yX10_want cX10_want 3 (Option.some Jvm.ClassFile.FieldType.int) ∈ wall := wl_m 671 (by decide +kernel) rfl
theorem kM_X10_258 : Cond.methodLink RX10 258 yX7_forgetAll ∈ wall := wl_m 672 (by decide +kernel) rfl
theorem kI_yX7_forgetAll : Cond.instanceMethod yX7_forgetAll ∈ wall := wl_m 673 (by decide +kernel) rfl
theorem kV_yX7_forgetAll : Cond.selects RX7 yX7_forgetAll yX7_forgetAll ∈ wall := wl_m 674 (by decide +kernel) rfl
theorem kC_yX7_forgetAll : Cond.code yX7_forgetAll cX7_forgetAll 1 (Option.none : Option Jvm.ClassFile.FieldType) ∈ wall := wl_m 675 (by decide +kernel) rfl
theorem kM_X10_261 : Cond.methodLink RX10 261 yX7_add ∈ wall := wl_m 676 (by decide +kernel) rfl
theorem kI_yX7_add : Cond.instanceMethod yX7_add ∈ wall := wl_m 677 (by decide +kernel) rfl
theorem kV_yX7_add : Cond.selects RX7 yX7_add yX7_add ∈ wall := wl_m 678 (by decide +kernel) rfl
theorem kC_yX7_add : Cond.code yX7_add cX7_add 3 (Option.some Jvm.ClassFile.FieldType.int) ∈ wall := wl_m 679 (by decide +kernel) rfl
theorem kM_L_124 : Cond.methodLink RL 124 yX10_plan ∈ wall := wl_m 680 (by decide +kernel) rfl
theorem kI_yX10_plan : Cond.instanceMethod yX10_plan ∈ wall := wl_m 681 (by decide +kernel) rfl
theorem kV_yX10_plan : Cond.selects RX10 yX10_plan yX10_plan ∈ wall := wl_m 682 (by decide +kernel) rfl
theorem kC_yX10_plan : Cond.code yX10_plan cX10_plan 2 (Option.some Jvm.ClassFile.FieldType.int) ∈ wall := wl_m 683 (by decide +kernel) rfl
theorem kM_X10_267 : Cond.methodLink RX10 267 yX7_placeOf ∈ wall := wl_m 684 (by decide +kernel) rfl
theorem kI_yX7_placeOf : Cond.instanceMethod yX7_placeOf ∈ wall := wl_m 685 (by decide +kernel) rfl
theorem kV_yX7_placeOf : Cond.selects RX7 yX7_placeOf yX7_placeOf ∈ wall := wl_m 686 (by decide +kernel) rfl
theorem kC_yX7_placeOf : Cond.code yX7_placeOf cX7_placeOf 3 (Option.some Jvm.ClassFile.FieldType.int) ∈ wall := wl_m 687 (by decide +kernel) rfl
theorem kM_X7_46 : Cond.methodLink RX7 46 yX2_inForce ∈ wall := wl_m 688 (by decide +kernel) rfl
theorem kM_X7_50 : Cond.methodLink RX7 50 yX7_markMayTake ∈ wall := wl_m 689 (by decide +kernel) rfl
theorem kI_yX7_markMayTake : Cond.instanceMethod yX7_markMayTake ∈ wall := wl_m 691 (by decide +kernel) rfl
theorem kC_yX7_markMayTake : Cond.code yX7_markMayTake cX7_markMayTake 7 (Option.none : Option Jvm.ClassFile.FieldType) ∈ wall := wl_m 692 (by decide +kernel) rfl
theorem kM_X7_61 : Cond.methodLink RX7 61 yX2_fieldAt ∈ wall := wl_m 693 (by decide +kernel) rfl
theorem kM_X7_68 : Cond.methodLink RX7 68 yX3_stoodAheadOf ∈ wall := wl_m 694 (by decide +kernel) rfl
theorem kM_X7_54 : Cond.methodLink RX7 54 yX7_markTooNear ∈ wall := wl_m 695 (by decide +kernel) rfl
theorem kI_yX7_markTooNear : Cond.instanceMethod yX7_markTooNear ∈ wall := wl_m 697 (by decide +kernel) rfl
theorem kC_yX7_markTooNear : Cond.code yX7_markTooNear cX7_markTooNear 6 (Option.none : Option Jvm.ClassFile.FieldType) ∈ wall := wl_m 698 (by decide +kernel) rfl
theorem kM_X7_74 : Cond.methodLink RX7 74 yX3_squareTo ∈ wall := wl_m 699 (by decide +kernel) rfl
theorem kM_X7_58 : Cond.methodLink RX7 58 yX7_search ∈ wall := wl_m 700 (by decide +kernel) rfl
theorem kI_yX7_search : Cond.instanceMethod yX7_search ∈ wall := wl_m 702 (by decide +kernel) rfl
theorem kC_yX7_search : Cond.code yX7_search cX7_search 4 (Option.none : Option Jvm.ClassFile.FieldType) ∈ wall := wl_m 703 (by decide +kernel) rfl
theorem kM_X7_84 : Cond.methodLink RX7 84 yX7_fits ∈ wall := wl_m 707 (by decide +kernel) rfl
theorem kI_yX7_fits : Cond.instanceMethod yX7_fits ∈ wall := wl_m 709 (by decide +kernel) rfl
theorem kC_yX7_fits : Cond.code yX7_fits cX7_fits 6 (Option.some Jvm.ClassFile.FieldType.boolean) ∈ wall := wl_m 710 (by decide +kernel) rfl
theorem kM_X7_88 : Cond.methodLink RX7 88 yX7_areOfOneCrop ∈ wall := wl_m 711 (by decide +kernel) rfl
theorem kS_yX7_areOfOneCrop : Cond.static yX7_areOfOneCrop ∈ wall := wl_m 712 (by decide +kernel) rfl
theorem kC_yX7_areOfOneCrop : Cond.code yX7_areOfOneCrop cX7_areOfOneCrop 2 (Option.some Jvm.ClassFile.FieldType.boolean) ∈ wall := wl_m 713 (by decide +kernel) rfl
theorem kM_L_128 : Cond.methodLink RL 128 yX10_told ∈ wall := wl_m 714 (by decide +kernel) rfl
theorem kI_yX10_told : Cond.instanceMethod yX10_told ∈ wall := wl_m 715 (by decide +kernel) rfl
theorem kV_yX10_told : Cond.selects RX10 yX10_told yX10_told ∈ wall := wl_m 716 (by decide +kernel) rfl
theorem kC_yX10_told : Cond.code yX10_told cX10_told 4 (Option.some Jvm.ClassFile.FieldType.int) ∈ wall := wl_m 717 (by decide +kernel) rfl
theorem kM_X10_271 : Cond.methodLink RX10 271 yX6_about ∈ wall := wl_m 718 (by decide +kernel) rfl
theorem kI_yX6_about : Cond.instanceMethod yX6_about ∈ wall := wl_m 719 (by decide +kernel) rfl
theorem kV_yX6_about : Cond.selects RX6 yX6_about yX6_about ∈ wall := wl_m 720 (by decide +kernel) rfl
theorem kC_yX6_about : Cond.code yX6_about cX6_about 2 (Option.some Jvm.ClassFile.FieldType.int) ∈ wall := wl_m 721 (by decide +kernel) rfl
theorem kM_X6_88 : Cond.methodLink RX6 88 yX6_lookCount ∈ wall := wl_m 722 (by decide +kernel) rfl
theorem kM_L_132 : Cond.methodLink RL 132 yX10_sack ∈ wall := wl_m 723 (by decide +kernel) rfl
theorem kI_yX10_sack : Cond.instanceMethod yX10_sack ∈ wall := wl_m 724 (by decide +kernel) rfl
theorem kV_yX10_sack : Cond.selects RX10 yX10_sack yX10_sack ∈ wall := wl_m 725 (by decide +kernel) rfl
theorem kC_yX10_sack : Cond.code yX10_sack cX10_sack 4 (Option.some Jvm.ClassFile.FieldType.int) ∈ wall := wl_m 726 (by decide +kernel) rfl
theorem kM_X10_274 : Cond.methodLink RX10 274 yX1_about ∈ wall := wl_m 727 (by decide +kernel) rfl
theorem kI_yX1_about : Cond.instanceMethod yX1_about ∈ wall := wl_m 728 (by decide +kernel) rfl
theorem kV_yX1_about : Cond.selects RX1 yX1_about yX1_about ∈ wall := wl_m 729 (by decide +kernel) rfl
theorem kC_yX1_about : Cond.code yX1_about cX1_about 2 (Option.some Jvm.ClassFile.FieldType.int) ∈ wall := wl_m 730 (by decide +kernel) rfl
theorem kM_L_136 : Cond.methodLink RL 136 yX10_count ∈ wall := wl_m 731 (by decide +kernel) rfl
theorem kI_yX10_count : Cond.instanceMethod yX10_count ∈ wall := wl_m 732 (by decide +kernel) rfl
theorem kV_yX10_count : Cond.selects RX10 yX10_count yX10_count ∈ wall := wl_m 733 (by decide +kernel) rfl
theorem kC_yX10_count : Cond.code yX10_count cX10_count 2 (Option.some Jvm.ClassFile.FieldType.int) ∈ wall := wl_m 734 (by decide +kernel) rfl
theorem kM_X10_281 : Cond.methodLink RX10 281 yX0_countOut ∈ wall := wl_m 735 (by decide +kernel) rfl
theorem kI_yX0_countOut : Cond.instanceMethod yX0_countOut ∈ wall := wl_m 736 (by decide +kernel) rfl
theorem kV_yX0_countOut : Cond.selects RX0 yX0_countOut yX0_countOut ∈ wall := wl_m 737 (by decide +kernel) rfl
theorem kC_yX0_countOut : Cond.code yX0_countOut cX0_countOut 5 (Option.some Jvm.ClassFile.FieldType.int) ∈ wall := wl_m 738 (by decide +kernel) rfl
theorem kM_X0_34 : Cond.methodLink RX0 34 yX0_assessUpTo ∈ wall := wl_m 739 (by decide +kernel) rfl
theorem kL_L_10 : Cond.classLink RL 10 RX11 ∈ wall := wl_m 740 (by decide +kernel) rfl
theorem kT_X11 : Cond.instantiable RX11 49 ∈ wall := wl_m 741 (by decide +kernel) rfl
theorem kM_L_12 : Cond.methodLink RL 12 yX11_init ∈ wall := wl_m 742 (by decide +kernel) rfl
theorem kI_yX11_init : Cond.instanceMethod yX11_init ∈ wall := wl_m 743 (by decide +kernel) rfl
theorem kC_yX11_init : Cond.code yX11_init cX11_init 1 (Option.none : Option Jvm.ClassFile.FieldType) ∈ wall := wl_m 744 (by decide +kernel) rfl
theorem kM_X11_1 : Cond.methodLink RX11 1 objectInit ∈ wall := wl_m 745 (by decide +kernel) rfl
theorem kF_X11_141 : Cond.fieldLink RX11 141 "CleanSeedModel" "now" "I" ∈ wall := wl_m 746 (by decide +kernel) rfl
theorem kF_X11_130 : Cond.fieldLink RX11 130 "CleanSeedModel" "fields" "I" ∈ wall := wl_m 747 (by decide +kernel) rfl
theorem kF_X11_138 : Cond.fieldLink RX11 138 "CleanSeedModel" "lots" "I" ∈ wall := wl_m 748 (by decide +kernel) rfl
theorem kF_X11_190 : Cond.fieldLink RX11 190 "CleanSeedModel" "bags" "I" ∈ wall := wl_m 749 (by decide +kernel) rfl
theorem kF_X11_196 : Cond.fieldLink RX11 196 "CleanSeedModel" "seals" "I" ∈ wall := wl_m 750 (by decide +kernel) rfl
theorem kF_X11_163 : Cond.fieldLink RX11 163 "CleanSeedModel" "stood" "I" ∈ wall := wl_m 751 (by decide +kernel) rfl
theorem kF_X11_177 : Cond.fieldLink RX11 177 "CleanSeedModel" "statutes" "I" ∈ wall := wl_m 752 (by decide +kernel) rfl
theorem kF_X11_202 : Cond.fieldLink RX11 202 "CleanSeedModel" "looks" "I" ∈ wall := wl_m 753 (by decide +kernel) rfl
theorem kF_X11_235 : Cond.fieldLink RX11 235 "CleanSeedModel" "wants" "I" ∈ wall := wl_m 754 (by decide +kernel) rfl
theorem kF_X11_9 : Cond.fieldLink RX11 9 "CleanSeedModel" "lowX" "[I" ∈ wall := wl_m 755 (by decide +kernel) rfl
theorem kF_X11_13 : Cond.fieldLink RX11 13 "CleanSeedModel" "lowY" "[I" ∈ wall := wl_m 756 (by decide +kernel) rfl
theorem kF_X11_16 : Cond.fieldLink RX11 16 "CleanSeedModel" "highX" "[I" ∈ wall := wl_m 757 (by decide +kernel) rfl
theorem kF_X11_19 : Cond.fieldLink RX11 19 "CleanSeedModel" "highY" "[I" ∈ wall := wl_m 758 (by decide +kernel) rfl
theorem kF_X11_22 : Cond.fieldLink RX11 22 "CleanSeedModel" "stoodField" "[I" ∈ wall := wl_m 759 (by decide +kernel) rfl
theorem kF_X11_25 : Cond.fieldLink RX11 25 "CleanSeedModel" "stoodYear" "[I" ∈ wall := wl_m 760 (by decide +kernel) rfl
theorem kF_X11_28 : Cond.fieldLink RX11 28 "CleanSeedModel" "stoodCrop" "[I" ∈ wall := wl_m 761 (by decide +kernel) rfl
theorem kF_X11_31 : Cond.fieldLink RX11 31 "CleanSeedModel" "stoodTold" "[I" ∈ wall := wl_m 762 (by decide +kernel) rfl
theorem kF_X11_34 : Cond.fieldLink RX11 34 "CleanSeedModel" "statuteKind" "[I" ∈ wall := wl_m 763 (by decide +kernel) rfl
theorem kF_X11_37 : Cond.fieldLink RX11 37 "CleanSeedModel" "statuteFrom" "[I" ∈ wall := wl_m 764 (by decide +kernel) rfl
theorem kF_X11_40 : Cond.fieldLink RX11 40 "CleanSeedModel" "statuteValue" "[I" ∈ wall := wl_m 765 (by decide +kernel) rfl
theorem kF_X11_43 : Cond.fieldLink RX11 43 "CleanSeedModel" "statuteTold" "[I" ∈ wall := wl_m 766 (by decide +kernel) rfl
theorem kF_X11_46 : Cond.fieldLink RX11 46 "CleanSeedModel" "sort" "[I" ∈ wall := wl_m 767 (by decide +kernel) rfl
theorem kF_X11_49 : Cond.fieldLink RX11 49 "CleanSeedModel" "crop" "[I" ∈ wall := wl_m 768 (by decide +kernel) rfl
theorem kF_X11_52 : Cond.fieldLink RX11 52 "CleanSeedModel" "grams" "[I" ∈ wall := wl_m 769 (by decide +kernel) rfl
theorem kF_X11_55 : Cond.fieldLink RX11 55 "CleanSeedModel" "came" "[I" ∈ wall := wl_m 770 (by decide +kernel) rfl
theorem kF_X11_58 : Cond.fieldLink RX11 58 "CleanSeedModel" "grownIn" "[I" ∈ wall := wl_m 771 (by decide +kernel) rfl
theorem kF_X11_61 : Cond.fieldLink RX11 61 "CleanSeedModel" "mother" "[I" ∈ wall := wl_m 772 (by decide +kernel) rfl
theorem kF_X11_64 : Cond.fieldLink RX11 64 "CleanSeedModel" "mother2" "[I" ∈ wall := wl_m 773 (by decide +kernel) rfl
theorem kF_X11_67 : Cond.fieldLink RX11 67 "CleanSeedModel" "first" "[I" ∈ wall := wl_m 774 (by decide +kernel) rfl
theorem kF_X11_70 : Cond.fieldLink RX11 70 "CleanSeedModel" "sown" "[I" ∈ wall := wl_m 775 (by decide +kernel) rfl
theorem kF_X11_73 : Cond.fieldLink RX11 73 "CleanSeedModel" "mixed" "[I" ∈ wall := wl_m 776 (by decide +kernel) rfl
theorem kF_X11_76 : Cond.fieldLink RX11 76 "CleanSeedModel" "bagged" "[I" ∈ wall := wl_m 777 (by decide +kernel) rfl
theorem kF_X11_79 : Cond.fieldLink RX11 79 "CleanSeedModel" "tossed" "[I" ∈ wall := wl_m 778 (by decide +kernel) rfl
theorem kF_X11_82 : Cond.fieldLink RX11 82 "CleanSeedModel" "falseIn" "[I" ∈ wall := wl_m 779 (by decide +kernel) rfl
theorem kF_X11_85 : Cond.fieldLink RX11 85 "CleanSeedModel" "lookLot" "[I" ∈ wall := wl_m 780 (by decide +kernel) rfl
theorem kF_X11_88 : Cond.fieldLink RX11 88 "CleanSeedModel" "lookPlants" "[I" ∈ wall := wl_m 781 (by decide +kernel) rfl
theorem kF_X11_91 : Cond.fieldLink RX11 91 "CleanSeedModel" "lookIll" "[I" ∈ wall := wl_m 782 (by decide +kernel) rfl
theorem kF_X11_94 : Cond.fieldLink RX11 94 "CleanSeedModel" "lookTold" "[I" ∈ wall := wl_m 783 (by decide +kernel) rfl
theorem kF_X11_97 : Cond.fieldLink RX11 97 "CleanSeedModel" "bagLot" "[I" ∈ wall := wl_m 784 (by decide +kernel) rfl
theorem kF_X11_100 : Cond.fieldLink RX11 100 "CleanSeedModel" "bagGrams" "[I" ∈ wall := wl_m 785 (by decide +kernel) rfl
theorem kF_X11_103 : Cond.fieldLink RX11 103 "CleanSeedModel" "bagSeal" "[I" ∈ wall := wl_m 786 (by decide +kernel) rfl
theorem kF_X11_106 : Cond.fieldLink RX11 106 "CleanSeedModel" "bagBuyer" "[I" ∈ wall := wl_m 787 (by decide +kernel) rfl
theorem kF_X11_109 : Cond.fieldLink RX11 109 "CleanSeedModel" "wanted" "[I" ∈ wall := wl_m 788 (by decide +kernel) rfl
theorem kF_X11_112 : Cond.fieldLink RX11 112 "CleanSeedModel" "line" "[I" ∈ wall := wl_m 789 (by decide +kernel) rfl
theorem kF_X11_115 : Cond.fieldLink RX11 115 "CleanSeedModel" "rank" "[I" ∈ wall := wl_m 790 (by decide +kernel) rfl
theorem kF_X11_118 : Cond.fieldLink RX11 118 "CleanSeedModel" "reason" "[I" ∈ wall := wl_m 791 (by decide +kernel) rfl
theorem kF_X11_121 : Cond.fieldLink RX11 121 "CleanSeedModel" "rows" "[I" ∈ wall := wl_m 792 (by decide +kernel) rfl
theorem kF_X11_124 : Cond.fieldLink RX11 124 "CleanSeedModel" "goes" "[I" ∈ wall := wl_m 793 (by decide +kernel) rfl
theorem kF_X11_127 : Cond.fieldLink RX11 127 "CleanSeedModel" "best" "[I" ∈ wall := wl_m 794 (by decide +kernel) rfl
theorem kM_L_17 : Cond.methodLink RL 17 yX11_field ∈ wall := wl_m 894 (by decide +kernel) rfl
theorem kI_yX11_field : Cond.instanceMethod yX11_field ∈ wall := wl_m 895 (by decide +kernel) rfl
theorem kV_yX11_field : Cond.selects RX11 yX11_field yX11_field ∈ wall := wl_m 896 (by decide +kernel) rfl
theorem kC_yX11_field : Cond.code yX11_field cX11_field 5 (Option.some Jvm.ClassFile.FieldType.int) ∈ wall := wl_m 897 (by decide +kernel) rfl
theorem kM_X11_134 : Cond.methodLink RX11 134 yX11_in ∈ wall := wl_m 898 (by decide +kernel) rfl
theorem kS_yX11_in : Cond.static yX11_in ∈ wall := wl_m 899 (by decide +kernel) rfl
theorem kC_yX11_in : Cond.code yX11_in cX11_in 3 (Option.some Jvm.ClassFile.FieldType.boolean) ∈ wall := wl_m 900 (by decide +kernel) rfl
theorem kM_X11_144 : Cond.methodLink RX11 144 Lib.Math.min.name ∈ wall := wl_m 901 (by decide +kernel) rfl
theorem kM_X11_150 : Cond.methodLink RX11 150 Lib.Math.max.name ∈ wall := wl_m 902 (by decide +kernel) rfl
theorem kM_L_22 : Cond.methodLink RL 22 yX11_near ∈ wall := wl_m 903 (by decide +kernel) rfl
theorem kI_yX11_near : Cond.instanceMethod yX11_near ∈ wall := wl_m 904 (by decide +kernel) rfl
theorem kV_yX11_near : Cond.selects RX11 yX11_near yX11_near ∈ wall := wl_m 905 (by decide +kernel) rfl
theorem kC_yX11_near : Cond.code yX11_near cX11_near 3 (Option.some Jvm.ClassFile.FieldType.int) ∈ wall := wl_m 906 (by decide +kernel) rfl
theorem kM_X11_153 : Cond.methodLink RX11 153 yX11_isField ∈ wall := wl_m 907 (by decide +kernel) rfl
theorem kI_yX11_isField : Cond.instanceMethod yX11_isField ∈ wall := wl_m 909 (by decide +kernel) rfl
theorem kC_yX11_isField : Cond.code yX11_isField cX11_isField 2 (Option.some Jvm.ClassFile.FieldType.boolean) ∈ wall := wl_m 910 (by decide +kernel) rfl
theorem kM_X11_157 : Cond.methodLink RX11 157 yX11_nearness ∈ wall := wl_m 911 (by decide +kernel) rfl
theorem kI_yX11_nearness : Cond.instanceMethod yX11_nearness ∈ wall := wl_m 913 (by decide +kernel) rfl
theorem kC_yX11_nearness : Cond.code yX11_nearness cX11_nearness 5 (Option.some Jvm.ClassFile.FieldType.int) ∈ wall := wl_m 914 (by decide +kernel) rfl
theorem kM_L_27 : Cond.methodLink RL 27 yX11_stand ∈ wall := wl_m 915 (by decide +kernel) rfl
theorem kI_yX11_stand : Cond.instanceMethod yX11_stand ∈ wall := wl_m 916 (by decide +kernel) rfl
theorem kV_yX11_stand : Cond.selects RX11 yX11_stand yX11_stand ∈ wall := wl_m 917 (by decide +kernel) rfl
theorem kC_yX11_stand : Cond.code yX11_stand cX11_stand 4 (Option.some Jvm.ClassFile.FieldType.boolean) ∈ wall := wl_m 918 (by decide +kernel) rfl
theorem kM_X11_160 : Cond.methodLink RX11 160 yX11_isYear ∈ wall := wl_m 919 (by decide +kernel) rfl
theorem kI_yX11_isYear : Cond.instanceMethod yX11_isYear ∈ wall := wl_m 921 (by decide +kernel) rfl
theorem kC_yX11_isYear : Cond.code yX11_isYear cX11_isYear 2 (Option.some Jvm.ClassFile.FieldType.boolean) ∈ wall := wl_m 922 (by decide +kernel) rfl
theorem kM_L_32 : Cond.methodLink RL 32 yX11_stands ∈ wall := wl_m 923 (by decide +kernel) rfl
theorem kI_yX11_stands : Cond.instanceMethod yX11_stands ∈ wall := wl_m 924 (by decide +kernel) rfl
theorem kV_yX11_stands : Cond.selects RX11 yX11_stands yX11_stands ∈ wall := wl_m 925 (by decide +kernel) rfl
theorem kC_yX11_stands : Cond.code yX11_stands cX11_stands 4 (Option.some Jvm.ClassFile.FieldType.int) ∈ wall := wl_m 926 (by decide +kernel) rfl
theorem kM_X11_169 : Cond.methodLink RX11 169 yX11_standing ∈ wall := wl_m 927 (by decide +kernel) rfl
theorem kI_yX11_standing : Cond.instanceMethod yX11_standing ∈ wall := wl_m 929 (by decide +kernel) rfl
theorem kC_yX11_standing : Cond.code yX11_standing cX11_standing 7 (Option.some Jvm.ClassFile.FieldType.int) ∈ wall := wl_m 930 (by decide +kernel) rfl
theorem kM_X11_166 : Cond.methodLink RX11 166 yX11_lotIn ∈ wall := wl_m 931 (by decide +kernel) rfl
theorem kI_yX11_lotIn : Cond.instanceMethod yX11_lotIn ∈ wall := wl_m 933 (by decide +kernel) rfl
theorem kC_yX11_lotIn : Cond.code yX11_lotIn cX11_lotIn 4 (Option.some Jvm.ClassFile.FieldType.int) ∈ wall := wl_m 934 (by decide +kernel) rfl
theorem kM_L_36 : Cond.methodLink RL 36 yX11_statute ∈ wall := wl_m 935 (by decide +kernel) rfl
theorem kI_yX11_statute : Cond.instanceMethod yX11_statute ∈ wall := wl_m 936 (by decide +kernel) rfl
theorem kV_yX11_statute : Cond.selects RX11 yX11_statute yX11_statute ∈ wall := wl_m 937 (by decide +kernel) rfl
theorem kC_yX11_statute : Cond.code yX11_statute cX11_statute 4 (Option.some Jvm.ClassFile.FieldType.int) ∈ wall := wl_m 938 (by decide +kernel) rfl
theorem kM_X11_173 : Cond.methodLink RX11 173 yX11_isValue ∈ wall := wl_m 939 (by decide +kernel) rfl
theorem kS_yX11_isValue : Cond.static yX11_isValue ∈ wall := wl_m 940 (by decide +kernel) rfl
theorem kC_yX11_isValue : Cond.code yX11_isValue cX11_isValue 2 (Option.some Jvm.ClassFile.FieldType.boolean) ∈ wall := wl_m 941 (by decide +kernel) rfl
theorem kM_L_40 : Cond.methodLink RL 40 yX11_force ∈ wall := wl_m 942 (by decide +kernel) rfl
theorem kI_yX11_force : Cond.instanceMethod yX11_force ∈ wall := wl_m 943 (by decide +kernel) rfl
theorem kV_yX11_force : Cond.selects RX11 yX11_force yX11_force ∈ wall := wl_m 944 (by decide +kernel) rfl
theorem kC_yX11_force : Cond.code yX11_force cX11_force 4 (Option.some Jvm.ClassFile.FieldType.int) ∈ wall := wl_m 945 (by decide +kernel) rfl
theorem kM_X11_180 : Cond.methodLink RX11 180 yX11_inForce ∈ wall := wl_m 946 (by decide +kernel) rfl
theorem kI_yX11_inForce : Cond.instanceMethod yX11_inForce ∈ wall := wl_m 948 (by decide +kernel) rfl
theorem kC_yX11_inForce : Cond.code yX11_inForce cX11_inForce 7 (Option.some Jvm.ClassFile.FieldType.int) ∈ wall := wl_m 949 (by decide +kernel) rfl
theorem kM_L_45 : Cond.methodLink RL 45 yX11_tube ∈ wall := wl_m 950 (by decide +kernel) rfl
theorem kI_yX11_tube : Cond.instanceMethod yX11_tube ∈ wall := wl_m 951 (by decide +kernel) rfl
theorem kV_yX11_tube : Cond.selects RX11 yX11_tube yX11_tube ∈ wall := wl_m 952 (by decide +kernel) rfl
theorem kC_yX11_tube : Cond.code yX11_tube cX11_tube 3 (Option.some Jvm.ClassFile.FieldType.int) ∈ wall := wl_m 953 (by decide +kernel) rfl
theorem kM_X11_183 : Cond.methodLink RX11 183 yX11_lot ∈ wall := wl_m 954 (by decide +kernel) rfl
theorem kI_yX11_lot : Cond.instanceMethod yX11_lot ∈ wall := wl_m 956 (by decide +kernel) rfl
theorem kC_yX11_lot : Cond.code yX11_lot cX11_lot 4 (Option.some Jvm.ClassFile.FieldType.int) ∈ wall := wl_m 957 (by decide +kernel) rfl
theorem kM_L_49 : Cond.methodLink RL 49 yX11_sow ∈ wall := wl_m 958 (by decide +kernel) rfl
theorem kI_yX11_sow : Cond.instanceMethod yX11_sow ∈ wall := wl_m 959 (by decide +kernel) rfl
theorem kV_yX11_sow : Cond.selects RX11 yX11_sow yX11_sow ∈ wall := wl_m 960 (by decide +kernel) rfl
theorem kC_yX11_sow : Cond.code yX11_sow cX11_sow 6 (Option.some Jvm.ClassFile.FieldType.int) ∈ wall := wl_m 961 (by decide +kernel) rfl
theorem kM_X11_186 : Cond.methodLink RX11 186 yX11_isLot ∈ wall := wl_m 962 (by decide +kernel) rfl
theorem kI_yX11_isLot : Cond.instanceMethod yX11_isLot ∈ wall := wl_m 964 (by decide +kernel) rfl
theorem kC_yX11_isLot : Cond.code yX11_isLot cX11_isLot 2 (Option.some Jvm.ClassFile.FieldType.boolean) ∈ wall := wl_m 965 (by decide +kernel) rfl
theorem kM_L_54 : Cond.methodLink RL 54 yX11_harvest ∈ wall := wl_m 966 (by decide +kernel) rfl
theorem kI_yX11_harvest : Cond.instanceMethod yX11_harvest ∈ wall := wl_m 967 (by decide +kernel) rfl
theorem kV_yX11_harvest : Cond.selects RX11 yX11_harvest yX11_harvest ∈ wall := wl_m 968 (by decide +kernel) rfl
theorem kC_yX11_harvest : Cond.code yX11_harvest cX11_harvest 3 (Option.some Jvm.ClassFile.FieldType.boolean) ∈ wall := wl_m 969 (by decide +kernel) rfl
theorem kM_L_58 : Cond.methodLink RL 58 yX11_mix ∈ wall := wl_m 971 (by decide +kernel) rfl
theorem kI_yX11_mix : Cond.instanceMethod yX11_mix ∈ wall := wl_m 972 (by decide +kernel) rfl
theorem kV_yX11_mix : Cond.selects RX11 yX11_mix yX11_mix ∈ wall := wl_m 973 (by decide +kernel) rfl
theorem kC_yX11_mix : Cond.code yX11_mix cX11_mix 7 (Option.some Jvm.ClassFile.FieldType.int) ∈ wall := wl_m 974 (by decide +kernel) rfl
theorem kM_L_62 : Cond.methodLink RL 62 yX11_bag ∈ wall := wl_m 975 (by decide +kernel) rfl
theorem kI_yX11_bag : Cond.instanceMethod yX11_bag ∈ wall := wl_m 976 (by decide +kernel) rfl
theorem kV_yX11_bag : Cond.selects RX11 yX11_bag yX11_bag ∈ wall := wl_m 977 (by decide +kernel) rfl
theorem kC_yX11_bag : Cond.code yX11_bag cX11_bag 3 (Option.some Jvm.ClassFile.FieldType.int) ∈ wall := wl_m 978 (by decide +kernel) rfl
theorem kM_X11_193 : Cond.methodLink RX11 193 yX11_classOf ∈ wall := wl_m 979 (by decide +kernel) rfl
theorem kI_yX11_classOf : Cond.instanceMethod yX11_classOf ∈ wall := wl_m 981 (by decide +kernel) rfl
theorem kC_yX11_classOf : Cond.code yX11_classOf cX11_classOf 5 (Option.some Jvm.ClassFile.FieldType.int) ∈ wall := wl_m 982 (by decide +kernel) rfl
theorem kM_X11_212 : Cond.methodLink RX11 212 yX11_judgeOne ∈ wall := wl_m 983 (by decide +kernel) rfl
theorem kI_yX11_judgeOne : Cond.instanceMethod yX11_judgeOne ∈ wall := wl_m 985 (by decide +kernel) rfl
theorem kC_yX11_judgeOne : Cond.code yX11_judgeOne cX11_judgeOne 5 (Option.none : Option Jvm.ClassFile.FieldType) ∈ wall := wl_m 986 (by decide +kernel) rfl
theorem kM_X11_216 : Cond.methodLink RX11 216 yX11_wrongField ∈ wall := wl_m 987 (by decide +kernel) rfl
theorem kI_yX11_wrongField : Cond.instanceMethod yX11_wrongField ∈ wall := wl_m 989 (by decide +kernel) rfl
theorem kC_yX11_wrongField : Cond.code yX11_wrongField cX11_wrongField 11 (Option.some Jvm.ClassFile.FieldType.int) ∈ wall := wl_m 990 (by decide +kernel) rfl
theorem kM_X11_205 : Cond.methodLink RX11 205 yX11_looksOf ∈ wall := wl_m 991 (by decide +kernel) rfl
theorem kI_yX11_looksOf : Cond.instanceMethod yX11_looksOf ∈ wall := wl_m 993 (by decide +kernel) rfl
theorem kC_yX11_looksOf : Cond.code yX11_looksOf cX11_looksOf 5 (Option.some Jvm.ClassFile.FieldType.int) ∈ wall := wl_m 994 (by decide +kernel) rfl
theorem kM_L_67 : Cond.methodLink RL 67 yX11_open ∈ wall := wl_m 996 (by decide +kernel) rfl
theorem kI_yX11_open : Cond.instanceMethod yX11_open ∈ wall := wl_m 997 (by decide +kernel) rfl
theorem kV_yX11_open : Cond.selects RX11 yX11_open yX11_open ∈ wall := wl_m 998 (by decide +kernel) rfl
theorem kC_yX11_open : Cond.code yX11_open cX11_open 2 (Option.some Jvm.ClassFile.FieldType.boolean) ∈ wall := wl_m 999 (by decide +kernel) rfl
theorem kM_X11_199 : Cond.methodLink RX11 199 yX11_isBag ∈ wall := wl_m 1000 (by decide +kernel) rfl
theorem kI_yX11_isBag : Cond.instanceMethod yX11_isBag ∈ wall := wl_m 1002 (by decide +kernel) rfl
theorem kC_yX11_isBag : Cond.code yX11_isBag cX11_isBag 2 (Option.some Jvm.ClassFile.FieldType.boolean) ∈ wall := wl_m 1003 (by decide +kernel) rfl
theorem kM_L_71 : Cond.methodLink RL 71 yX11_seal ∈ wall := wl_m 1004 (by decide +kernel) rfl
theorem kI_yX11_seal : Cond.instanceMethod yX11_seal ∈ wall := wl_m 1005 (by decide +kernel) rfl
theorem kV_yX11_seal : Cond.selects RX11 yX11_seal yX11_seal ∈ wall := wl_m 1006 (by decide +kernel) rfl
theorem kC_yX11_seal : Cond.code yX11_seal cX11_seal 2 (Option.some Jvm.ClassFile.FieldType.int) ∈ wall := wl_m 1007 (by decide +kernel) rfl
theorem kM_L_75 : Cond.methodLink RL 75 yX11_sell ∈ wall := wl_m 1008 (by decide +kernel) rfl
theorem kI_yX11_sell : Cond.instanceMethod yX11_sell ∈ wall := wl_m 1009 (by decide +kernel) rfl
theorem kV_yX11_sell : Cond.selects RX11 yX11_sell yX11_sell ∈ wall := wl_m 1010 (by decide +kernel) rfl
theorem kC_yX11_sell : Cond.code yX11_sell cX11_sell 3 (Option.some Jvm.ClassFile.FieldType.boolean) ∈ wall := wl_m 1011 (by decide +kernel) rfl
theorem kM_L_79 : Cond.methodLink RL 79 yX11_toss ∈ wall := wl_m 1012 (by decide +kernel) rfl
theorem kI_yX11_toss : Cond.instanceMethod yX11_toss ∈ wall := wl_m 1013 (by decide +kernel) rfl
theorem kV_yX11_toss : Cond.selects RX11 yX11_toss yX11_toss ∈ wall := wl_m 1014 (by decide +kernel) rfl
theorem kC_yX11_toss : Cond.code yX11_toss cX11_toss 3 (Option.some Jvm.ClassFile.FieldType.boolean) ∈ wall := wl_m 1015 (by decide +kernel) rfl
theorem kM_L_83 : Cond.methodLink RL 83 yX11_look ∈ wall := wl_m 1016 (by decide +kernel) rfl
theorem kI_yX11_look : Cond.instanceMethod yX11_look ∈ wall := wl_m 1017 (by decide +kernel) rfl
theorem kV_yX11_look : Cond.selects RX11 yX11_look yX11_look ∈ wall := wl_m 1018 (by decide +kernel) rfl
theorem kC_yX11_look : Cond.code yX11_look cX11_look 4 (Option.some Jvm.ClassFile.FieldType.int) ∈ wall := wl_m 1019 (by decide +kernel) rfl
theorem kM_L_90 : Cond.methodLink RL 90 yX11_drawn ∈ wall := wl_m 1020 (by decide +kernel) rfl
theorem kI_yX11_drawn : Cond.instanceMethod yX11_drawn ∈ wall := wl_m 1021 (by decide +kernel) rfl
theorem kV_yX11_drawn : Cond.selects RX11 yX11_drawn yX11_drawn ∈ wall := wl_m 1022 (by decide +kernel) rfl
theorem kC_yX11_drawn : Cond.code yX11_drawn cX11_drawn 11 (Option.some Jvm.ClassFile.FieldType.int) ∈ wall := wl_m 1023 (by decide +kernel) rfl
theorem kM_L_94 : Cond.methodLink RL 94 yX11_prove ∈ wall := wl_m 1026 (by decide +kernel) rfl
theorem kI_yX11_prove : Cond.instanceMethod yX11_prove ∈ wall := wl_m 1027 (by decide +kernel) rfl
theorem kV_yX11_prove : Cond.selects RX11 yX11_prove yX11_prove ∈ wall := wl_m 1028 (by decide +kernel) rfl
theorem kC_yX11_prove : Cond.code yX11_prove cX11_prove 2 (Option.some Jvm.ClassFile.FieldType.boolean) ∈ wall := wl_m 1029 (by decide +kernel) rfl
theorem kM_L_99 : Cond.methodLink RL 99 yX11_year ∈ wall := wl_m 1030 (by decide +kernel) rfl
theorem kI_yX11_year : Cond.instanceMethod yX11_year ∈ wall := wl_m 1031 (by decide +kernel) rfl
theorem kV_yX11_year : Cond.selects RX11 yX11_year yX11_year ∈ wall := wl_m 1032 (by decide +kernel) rfl
theorem kC_yX11_year : Cond.code yX11_year cX11_year 1 (Option.some Jvm.ClassFile.FieldType.int) ∈ wall := wl_m 1033 (by decide +kernel) rfl
theorem kM_L_103 : Cond.methodLink RL 103 yX11_judge ∈ wall := wl_m 1034 (by decide +kernel) rfl
theorem kI_yX11_judge : Cond.instanceMethod yX11_judge ∈ wall := wl_m 1035 (by decide +kernel) rfl
theorem kV_yX11_judge : Cond.selects RX11 yX11_judge yX11_judge ∈ wall := wl_m 1036 (by decide +kernel) rfl
theorem kC_yX11_judge : Cond.code yX11_judge cX11_judge 3 (Option.some Jvm.ClassFile.FieldType.int) ∈ wall := wl_m 1037 (by decide +kernel) rfl
theorem kM_X11_221 : Cond.methodLink RX11 221 yX11_isJudged ∈ wall := wl_m 1038 (by decide +kernel) rfl
theorem kI_yX11_isJudged : Cond.instanceMethod yX11_isJudged ∈ wall := wl_m 1040 (by decide +kernel) rfl
theorem kC_yX11_isJudged : Cond.code yX11_isJudged cX11_isJudged 3 (Option.some Jvm.ClassFile.FieldType.boolean) ∈ wall := wl_m 1041 (by decide +kernel) rfl
theorem kM_L_107 : Cond.methodLink RL 107 yX11_why ∈ wall := wl_m 1042 (by decide +kernel) rfl
theorem kI_yX11_why : Cond.instanceMethod yX11_why ∈ wall := wl_m 1043 (by decide +kernel) rfl
theorem kV_yX11_why : Cond.selects RX11 yX11_why yX11_why ∈ wall := wl_m 1044 (by decide +kernel) rfl
theorem kC_yX11_why : Cond.code yX11_why cX11_why 3 (Option.some Jvm.ClassFile.FieldType.int) ∈ wall := wl_m 1045 (by decide +kernel) rfl
theorem kM_L_111 : Cond.methodLink RL 111 yX11_ways ∈ wall := wl_m 1046 (by decide +kernel) rfl
theorem kI_yX11_ways : Cond.instanceMethod yX11_ways ∈ wall := wl_m 1047 (by decide +kernel) rfl
theorem kV_yX11_ways : Cond.selects RX11 yX11_ways yX11_ways ∈ wall := wl_m 1048 (by decide +kernel) rfl
theorem kC_yX11_ways : Cond.code yX11_ways cX11_ways 3 (Option.some Jvm.ClassFile.FieldType.int) ∈ wall := wl_m 1049 (by decide +kernel) rfl
theorem kM_X11_225 : Cond.methodLink RX11 225 yX11_rowsTo ∈ wall := wl_m 1050 (by decide +kernel) rfl
theorem kI_yX11_rowsTo : Cond.instanceMethod yX11_rowsTo ∈ wall := wl_m 1052 (by decide +kernel) rfl
theorem kC_yX11_rowsTo : Cond.code yX11_rowsTo cX11_rowsTo 4 (Option.none : Option Jvm.ClassFile.FieldType) ∈ wall := wl_m 1053 (by decide +kernel) rfl
theorem kM_L_115 : Cond.methodLink RL 115 yX11_touched ∈ wall := wl_m 1055 (by decide +kernel) rfl
theorem kI_yX11_touched : Cond.instanceMethod yX11_touched ∈ wall := wl_m 1056 (by decide +kernel) rfl
theorem kV_yX11_touched : Cond.selects RX11 yX11_touched yX11_touched ∈ wall := wl_m 1057 (by decide +kernel) rfl
theorem kC_yX11_touched : Cond.code yX11_touched cX11_touched 6 (Option.some Jvm.ClassFile.FieldType.int) ∈ wall := wl_m 1058 (by decide +kernel) rfl
theorem kM_X11_232 : Cond.methodLink RX11 232 yX11_isIn ∈ wall := wl_m 1059 (by decide +kernel) rfl
theorem kI_yX11_isIn : Cond.instanceMethod yX11_isIn ∈ wall := wl_m 1061 (by decide +kernel) rfl
theorem kC_yX11_isIn : Cond.code yX11_isIn cX11_isIn 5 (Option.some Jvm.ClassFile.FieldType.boolean) ∈ wall := wl_m 1062 (by decide +kernel) rfl
theorem kM_X11_229 : Cond.methodLink RX11 229 yX11_isOf ∈ wall := wl_m 1063 (by decide +kernel) rfl
theorem kI_yX11_isOf : Cond.instanceMethod yX11_isOf ∈ wall := wl_m 1065 (by decide +kernel) rfl
theorem kC_yX11_isOf : Cond.code yX11_isOf cX11_isOf 3 (Option.some Jvm.ClassFile.FieldType.boolean) ∈ wall := wl_m 1066 (by decide +kernel) rfl
theorem kM_L_119 : Cond.methodLink RL 119 yX11_buyers ∈ wall := wl_m 1067 (by decide +kernel) rfl
theorem kI_yX11_buyers : Cond.instanceMethod yX11_buyers ∈ wall := wl_m 1068 (by decide +kernel) rfl
theorem kV_yX11_buyers : Cond.selects RX11 yX11_buyers yX11_buyers ∈ wall := wl_m 1069 (by decide +kernel) rfl
theorem kC_yX11_buyers : Cond.code yX11_buyers cX11_buyers 4 (Option.some Jvm.ClassFile.FieldType.int) ∈ wall := wl_m 1070 (by decide +kernel) rfl
theorem kM_L_123 : Cond.methodLink RL 123 yX11_want ∈ wall := wl_m 1071 (by decide +kernel) rfl
theorem kI_yX11_want : Cond.instanceMethod yX11_want ∈ wall := wl_m 1072 (by decide +kernel) rfl
theorem kV_yX11_want : Cond.selects RX11 yX11_want yX11_want ∈ wall := wl_m 1073 (by decide +kernel) rfl
theorem kC_yX11_want : Cond.code yX11_want cX11_want 3 (Option.some Jvm.ClassFile.FieldType.int) ∈ wall := wl_m 1074 (by decide +kernel) rfl
theorem kM_L_127 : Cond.methodLink RL 127 yX11_plan ∈ wall := wl_m 1075 (by decide +kernel) rfl
theorem kI_yX11_plan : Cond.instanceMethod yX11_plan ∈ wall := wl_m 1076 (by decide +kernel) rfl
theorem kV_yX11_plan : Cond.selects RX11 yX11_plan yX11_plan ∈ wall := wl_m 1077 (by decide +kernel) rfl
theorem kC_yX11_plan : Cond.code yX11_plan cX11_plan 2 (Option.some Jvm.ClassFile.FieldType.int) ∈ wall := wl_m 1078 (by decide +kernel) rfl
theorem kM_X11_244 : Cond.methodLink RX11 244 yX11_findPlan ∈ wall := wl_m 1079 (by decide +kernel) rfl
theorem kI_yX11_findPlan : Cond.instanceMethod yX11_findPlan ∈ wall := wl_m 1081 (by decide +kernel) rfl
theorem kC_yX11_findPlan : Cond.code yX11_findPlan cX11_findPlan 8 (Option.none : Option Jvm.ClassFile.FieldType) ∈ wall := wl_m 1082 (by decide +kernel) rfl
theorem kM_X11_241 : Cond.methodLink RX11 241 yX11_isGood ∈ wall := wl_m 1083 (by decide +kernel) rfl
theorem kI_yX11_isGood : Cond.instanceMethod yX11_isGood ∈ wall := wl_m 1085 (by decide +kernel) rfl
theorem kC_yX11_isGood : Cond.code yX11_isGood cX11_isGood 6 (Option.some Jvm.ClassFile.FieldType.boolean) ∈ wall := wl_m 1086 (by decide +kernel) rfl
theorem kM_X11_238 : Cond.methodLink RX11 238 yX11_isFree ∈ wall := wl_m 1087 (by decide +kernel) rfl
theorem kI_yX11_isFree : Cond.instanceMethod yX11_isFree ∈ wall := wl_m 1089 (by decide +kernel) rfl
theorem kC_yX11_isFree : Cond.code yX11_isFree cX11_isFree 5 (Option.some Jvm.ClassFile.FieldType.boolean) ∈ wall := wl_m 1090 (by decide +kernel) rfl
theorem kM_L_131 : Cond.methodLink RL 131 yX11_told ∈ wall := wl_m 1091 (by decide +kernel) rfl
theorem kI_yX11_told : Cond.instanceMethod yX11_told ∈ wall := wl_m 1092 (by decide +kernel) rfl
theorem kV_yX11_told : Cond.selects RX11 yX11_told yX11_told ∈ wall := wl_m 1093 (by decide +kernel) rfl
theorem kC_yX11_told : Cond.code yX11_told cX11_told 3 (Option.some Jvm.ClassFile.FieldType.int) ∈ wall := wl_m 1094 (by decide +kernel) rfl
theorem kM_L_135 : Cond.methodLink RL 135 yX11_sack ∈ wall := wl_m 1095 (by decide +kernel) rfl
theorem kI_yX11_sack : Cond.instanceMethod yX11_sack ∈ wall := wl_m 1096 (by decide +kernel) rfl
theorem kV_yX11_sack : Cond.selects RX11 yX11_sack yX11_sack ∈ wall := wl_m 1097 (by decide +kernel) rfl
theorem kC_yX11_sack : Cond.code yX11_sack cX11_sack 3 (Option.some Jvm.ClassFile.FieldType.int) ∈ wall := wl_m 1098 (by decide +kernel) rfl
theorem kM_L_139 : Cond.methodLink RL 139 yX11_count ∈ wall := wl_m 1099 (by decide +kernel) rfl
theorem kI_yX11_count : Cond.instanceMethod yX11_count ∈ wall := wl_m 1100 (by decide +kernel) rfl
theorem kV_yX11_count : Cond.selects RX11 yX11_count yX11_count ∈ wall := wl_m 1101 (by decide +kernel) rfl
theorem kC_yX11_count : Cond.code yX11_count cX11_count 2 (Option.some Jvm.ClassFile.FieldType.int) ∈ wall := wl_m 1102 (by decide +kernel) rfl
theorem kM_X11_247 : Cond.methodLink RX11 247 yX11_outs ∈ wall := wl_m 1103 (by decide +kernel) rfl
theorem kI_yX11_outs : Cond.instanceMethod yX11_outs ∈ wall := wl_m 1105 (by decide +kernel) rfl
theorem kC_yX11_outs : Cond.code yX11_outs cX11_outs 3 (Option.some Jvm.ClassFile.FieldType.int) ∈ wall := wl_m 1106 (by decide +kernel) rfl
theorem kV_yX10_isOutNow : Cond.selects RX10 yX10_isOutNow yX10_isOutNow ∈ wall := wl_s 0 (by decide +kernel) rfl
theorem kV_yX0_assess : Cond.selects RX0 yX0_assess yX0_assess ∈ wall := wl_s 1 (by decide +kernel) rfl
theorem kV_yX0_reasonToRefuse : Cond.selects RX0 yX0_reasonToRefuse yX0_reasonToRefuse ∈ wall := wl_s 2 (by decide +kernel) rfl
theorem kV_yX0_reasonInField : Cond.selects RX0 yX0_reasonInField yX0_reasonInField ∈ wall := wl_s 3 (by decide +kernel) rfl
theorem kV_yX0_isCrowded : Cond.selects RX0 yX0_isCrowded yX0_isCrowded ∈ wall := wl_s 4 (by decide +kernel) rfl
theorem kV_yX0_isAsGood : Cond.selects RX0 yX0_isAsGood yX0_isAsGood ∈ wall := wl_s 5 (by decide +kernel) rfl
theorem kV_yX10_lotKnownIn : Cond.selects RX10 yX10_lotKnownIn yX10_lotKnownIn ∈ wall := wl_s 6 (by decide +kernel) rfl
theorem kV_yX4_markAbove : Cond.selects RX4 yX4_markAbove yX4_markAbove ∈ wall := wl_s 7 (by decide +kernel) rfl
theorem kV_yX4_markAkin : Cond.selects RX4 yX4_markAkin yX4_markAkin ∈ wall := wl_s 8 (by decide +kernel) rfl
theorem kV_yX7_markMayTake : Cond.selects RX7 yX7_markMayTake yX7_markMayTake ∈ wall := wl_s 9 (by decide +kernel) rfl
theorem kV_yX7_markTooNear : Cond.selects RX7 yX7_markTooNear yX7_markTooNear ∈ wall := wl_s 10 (by decide +kernel) rfl
theorem kV_yX7_search : Cond.selects RX7 yX7_search yX7_search ∈ wall := wl_s 11 (by decide +kernel) rfl
theorem kV_yX7_fits : Cond.selects RX7 yX7_fits yX7_fits ∈ wall := wl_s 12 (by decide +kernel) rfl
theorem kV_yX11_isField : Cond.selects RX11 yX11_isField yX11_isField ∈ wall := wl_s 13 (by decide +kernel) rfl
theorem kV_yX11_nearness : Cond.selects RX11 yX11_nearness yX11_nearness ∈ wall := wl_s 14 (by decide +kernel) rfl
theorem kV_yX11_isYear : Cond.selects RX11 yX11_isYear yX11_isYear ∈ wall := wl_s 15 (by decide +kernel) rfl
theorem kV_yX11_standing : Cond.selects RX11 yX11_standing yX11_standing ∈ wall := wl_s 16 (by decide +kernel) rfl
theorem kV_yX11_lotIn : Cond.selects RX11 yX11_lotIn yX11_lotIn ∈ wall := wl_s 17 (by decide +kernel) rfl
theorem kV_yX11_inForce : Cond.selects RX11 yX11_inForce yX11_inForce ∈ wall := wl_s 18 (by decide +kernel) rfl
theorem kV_yX11_lot : Cond.selects RX11 yX11_lot yX11_lot ∈ wall := wl_s 19 (by decide +kernel) rfl
theorem kV_yX11_isLot : Cond.selects RX11 yX11_isLot yX11_isLot ∈ wall := wl_s 20 (by decide +kernel) rfl
theorem kV_yX11_classOf : Cond.selects RX11 yX11_classOf yX11_classOf ∈ wall := wl_s 21 (by decide +kernel) rfl
theorem kV_yX11_judgeOne : Cond.selects RX11 yX11_judgeOne yX11_judgeOne ∈ wall := wl_s 22 (by decide +kernel) rfl
theorem kV_yX11_wrongField : Cond.selects RX11 yX11_wrongField yX11_wrongField ∈ wall := wl_s 23 (by decide +kernel) rfl
theorem kV_yX11_looksOf : Cond.selects RX11 yX11_looksOf yX11_looksOf ∈ wall := wl_s 24 (by decide +kernel) rfl
theorem kV_yX11_isBag : Cond.selects RX11 yX11_isBag yX11_isBag ∈ wall := wl_s 25 (by decide +kernel) rfl
theorem kV_yX11_isJudged : Cond.selects RX11 yX11_isJudged yX11_isJudged ∈ wall := wl_s 26 (by decide +kernel) rfl
theorem kV_yX11_rowsTo : Cond.selects RX11 yX11_rowsTo yX11_rowsTo ∈ wall := wl_s 27 (by decide +kernel) rfl
theorem kV_yX11_isIn : Cond.selects RX11 yX11_isIn yX11_isIn ∈ wall := wl_s 28 (by decide +kernel) rfl
theorem kV_yX11_isOf : Cond.selects RX11 yX11_isOf yX11_isOf ∈ wall := wl_s 29 (by decide +kernel) rfl
theorem kV_yX11_findPlan : Cond.selects RX11 yX11_findPlan yX11_findPlan ∈ wall := wl_s 30 (by decide +kernel) rfl
theorem kV_yX11_isGood : Cond.selects RX11 yX11_isGood yX11_isGood ∈ wall := wl_s 31 (by decide +kernel) rfl
theorem kV_yX11_isFree : Cond.selects RX11 yX11_isFree yX11_isFree ∈ wall := wl_s 32 (by decide +kernel) rfl
theorem kV_yX11_outs : Cond.selects RX11 yX11_outs yX11_outs ∈ wall := wl_s 33 (by decide +kernel) rfl
end
section
theorem dX11_init_0 : decode cX11_init 0 = .ok (.aload_n 0, 1) := by decide +kernel
theorem dX11_init_1 : decode cX11_init 1 = .ok (.invokespecial 1, 3) := by decide +kernel
theorem dX11_init_4 : decode cX11_init 4 = .ok (.aload_n 0, 1) := by decide +kernel
theorem dX11_init_5 : decode cX11_init 5 = .ok (.bipush 40, 2) := by decide +kernel
theorem dX11_init_7 : decode cX11_init 7 = .ok (.newarray .int, 2) := by decide +kernel
theorem dX11_init_9 : decode cX11_init 9 = .ok (.putfield 9, 3) := by decide +kernel
theorem dX11_init_12 : decode cX11_init 12 = .ok (.aload_n 0, 1) := by decide +kernel
theorem dX11_init_13 : decode cX11_init 13 = .ok (.bipush 40, 2) := by decide +kernel
theorem dX11_init_15 : decode cX11_init 15 = .ok (.newarray .int, 2) := by decide +kernel
theorem dX11_init_17 : decode cX11_init 17 = .ok (.putfield 13, 3) := by decide +kernel
theorem dX11_init_20 : decode cX11_init 20 = .ok (.aload_n 0, 1) := by decide +kernel
theorem dX11_init_21 : decode cX11_init 21 = .ok (.bipush 40, 2) := by decide +kernel
theorem dX11_init_23 : decode cX11_init 23 = .ok (.newarray .int, 2) := by decide +kernel
theorem dX11_init_25 : decode cX11_init 25 = .ok (.putfield 16, 3) := by decide +kernel
theorem dX11_init_28 : decode cX11_init 28 = .ok (.aload_n 0, 1) := by decide +kernel
theorem dX11_init_29 : decode cX11_init 29 = .ok (.bipush 40, 2) := by decide +kernel
theorem dX11_init_31 : decode cX11_init 31 = .ok (.newarray .int, 2) := by decide +kernel
theorem dX11_init_33 : decode cX11_init 33 = .ok (.putfield 19, 3) := by decide +kernel
theorem dX11_init_36 : decode cX11_init 36 = .ok (.aload_n 0, 1) := by decide +kernel
theorem dX11_init_37 : decode cX11_init 37 = .ok (.sipush 300, 3) := by decide +kernel
theorem dX11_init_40 : decode cX11_init 40 = .ok (.newarray .int, 2) := by decide +kernel
theorem dX11_init_42 : decode cX11_init 42 = .ok (.putfield 22, 3) := by decide +kernel
theorem dX11_init_45 : decode cX11_init 45 = .ok (.aload_n 0, 1) := by decide +kernel
theorem dX11_init_46 : decode cX11_init 46 = .ok (.sipush 300, 3) := by decide +kernel
theorem dX11_init_49 : decode cX11_init 49 = .ok (.newarray .int, 2) := by decide +kernel
theorem dX11_init_51 : decode cX11_init 51 = .ok (.putfield 25, 3) := by decide +kernel
theorem dX11_init_54 : decode cX11_init 54 = .ok (.aload_n 0, 1) := by decide +kernel
theorem dX11_init_55 : decode cX11_init 55 = .ok (.sipush 300, 3) := by decide +kernel
theorem dX11_init_58 : decode cX11_init 58 = .ok (.newarray .int, 2) := by decide +kernel
theorem dX11_init_60 : decode cX11_init 60 = .ok (.putfield 28, 3) := by decide +kernel
theorem dX11_init_63 : decode cX11_init 63 = .ok (.aload_n 0, 1) := by decide +kernel
theorem dX11_init_64 : decode cX11_init 64 = .ok (.sipush 300, 3) := by decide +kernel
theorem dX11_init_67 : decode cX11_init 67 = .ok (.newarray .int, 2) := by decide +kernel
theorem dX11_init_69 : decode cX11_init 69 = .ok (.putfield 31, 3) := by decide +kernel
theorem dX11_init_72 : decode cX11_init 72 = .ok (.aload_n 0, 1) := by decide +kernel
theorem dX11_init_73 : decode cX11_init 73 = .ok (.bipush 100, 2) := by decide +kernel
theorem dX11_init_75 : decode cX11_init 75 = .ok (.newarray .int, 2) := by decide +kernel
theorem dX11_init_77 : decode cX11_init 77 = .ok (.putfield 34, 3) := by decide +kernel
theorem dX11_init_80 : decode cX11_init 80 = .ok (.aload_n 0, 1) := by decide +kernel
theorem dX11_init_81 : decode cX11_init 81 = .ok (.bipush 100, 2) := by decide +kernel
theorem dX11_init_83 : decode cX11_init 83 = .ok (.newarray .int, 2) := by decide +kernel
theorem dX11_init_85 : decode cX11_init 85 = .ok (.putfield 37, 3) := by decide +kernel
theorem dX11_init_88 : decode cX11_init 88 = .ok (.aload_n 0, 1) := by decide +kernel
theorem dX11_init_89 : decode cX11_init 89 = .ok (.bipush 100, 2) := by decide +kernel
theorem dX11_init_91 : decode cX11_init 91 = .ok (.newarray .int, 2) := by decide +kernel
theorem dX11_init_93 : decode cX11_init 93 = .ok (.putfield 40, 3) := by decide +kernel
theorem dX11_init_96 : decode cX11_init 96 = .ok (.aload_n 0, 1) := by decide +kernel
theorem dX11_init_97 : decode cX11_init 97 = .ok (.bipush 100, 2) := by decide +kernel
theorem dX11_init_99 : decode cX11_init 99 = .ok (.newarray .int, 2) := by decide +kernel
theorem dX11_init_101 : decode cX11_init 101 = .ok (.putfield 43, 3) := by decide +kernel
theorem dX11_init_104 : decode cX11_init 104 = .ok (.aload_n 0, 1) := by decide +kernel
theorem dX11_init_105 : decode cX11_init 105 = .ok (.sipush 200, 3) := by decide +kernel
theorem dX11_init_108 : decode cX11_init 108 = .ok (.newarray .int, 2) := by decide +kernel
theorem dX11_init_110 : decode cX11_init 110 = .ok (.putfield 46, 3) := by decide +kernel
theorem dX11_init_113 : decode cX11_init 113 = .ok (.aload_n 0, 1) := by decide +kernel
theorem dX11_init_114 : decode cX11_init 114 = .ok (.sipush 200, 3) := by decide +kernel
theorem dX11_init_117 : decode cX11_init 117 = .ok (.newarray .int, 2) := by decide +kernel
theorem dX11_init_119 : decode cX11_init 119 = .ok (.putfield 49, 3) := by decide +kernel
theorem dX11_init_122 : decode cX11_init 122 = .ok (.aload_n 0, 1) := by decide +kernel
theorem dX11_init_123 : decode cX11_init 123 = .ok (.sipush 200, 3) := by decide +kernel
theorem dX11_init_126 : decode cX11_init 126 = .ok (.newarray .int, 2) := by decide +kernel
theorem dX11_init_128 : decode cX11_init 128 = .ok (.putfield 52, 3) := by decide +kernel
theorem dX11_init_131 : decode cX11_init 131 = .ok (.aload_n 0, 1) := by decide +kernel
theorem dX11_init_132 : decode cX11_init 132 = .ok (.sipush 200, 3) := by decide +kernel
theorem dX11_init_135 : decode cX11_init 135 = .ok (.newarray .int, 2) := by decide +kernel
theorem dX11_init_137 : decode cX11_init 137 = .ok (.putfield 55, 3) := by decide +kernel
theorem dX11_init_140 : decode cX11_init 140 = .ok (.aload_n 0, 1) := by decide +kernel
theorem dX11_init_141 : decode cX11_init 141 = .ok (.sipush 200, 3) := by decide +kernel
theorem dX11_init_144 : decode cX11_init 144 = .ok (.newarray .int, 2) := by decide +kernel
theorem dX11_init_146 : decode cX11_init 146 = .ok (.putfield 58, 3) := by decide +kernel
theorem dX11_init_149 : decode cX11_init 149 = .ok (.aload_n 0, 1) := by decide +kernel
theorem dX11_init_150 : decode cX11_init 150 = .ok (.sipush 200, 3) := by decide +kernel
theorem dX11_init_153 : decode cX11_init 153 = .ok (.newarray .int, 2) := by decide +kernel
theorem dX11_init_155 : decode cX11_init 155 = .ok (.putfield 61, 3) := by decide +kernel
theorem dX11_init_158 : decode cX11_init 158 = .ok (.aload_n 0, 1) := by decide +kernel
theorem dX11_init_159 : decode cX11_init 159 = .ok (.sipush 200, 3) := by decide +kernel
theorem dX11_init_162 : decode cX11_init 162 = .ok (.newarray .int, 2) := by decide +kernel
theorem dX11_init_164 : decode cX11_init 164 = .ok (.putfield 64, 3) := by decide +kernel
theorem dX11_init_167 : decode cX11_init 167 = .ok (.aload_n 0, 1) := by decide +kernel
theorem dX11_init_168 : decode cX11_init 168 = .ok (.sipush 200, 3) := by decide +kernel
theorem dX11_init_171 : decode cX11_init 171 = .ok (.newarray .int, 2) := by decide +kernel
theorem dX11_init_173 : decode cX11_init 173 = .ok (.putfield 67, 3) := by decide +kernel
theorem dX11_init_176 : decode cX11_init 176 = .ok (.aload_n 0, 1) := by decide +kernel
theorem dX11_init_177 : decode cX11_init 177 = .ok (.sipush 200, 3) := by decide +kernel
theorem dX11_init_180 : decode cX11_init 180 = .ok (.newarray .int, 2) := by decide +kernel
theorem dX11_init_182 : decode cX11_init 182 = .ok (.putfield 70, 3) := by decide +kernel
theorem dX11_init_185 : decode cX11_init 185 = .ok (.aload_n 0, 1) := by decide +kernel
theorem dX11_init_186 : decode cX11_init 186 = .ok (.sipush 200, 3) := by decide +kernel
theorem dX11_init_189 : decode cX11_init 189 = .ok (.newarray .int, 2) := by decide +kernel
theorem dX11_init_191 : decode cX11_init 191 = .ok (.putfield 73, 3) := by decide +kernel
theorem dX11_init_194 : decode cX11_init 194 = .ok (.aload_n 0, 1) := by decide +kernel
theorem dX11_init_195 : decode cX11_init 195 = .ok (.sipush 200, 3) := by decide +kernel
theorem dX11_init_198 : decode cX11_init 198 = .ok (.newarray .int, 2) := by decide +kernel
theorem dX11_init_200 : decode cX11_init 200 = .ok (.putfield 76, 3) := by decide +kernel
theorem dX11_init_203 : decode cX11_init 203 = .ok (.aload_n 0, 1) := by decide +kernel
theorem dX11_init_204 : decode cX11_init 204 = .ok (.sipush 200, 3) := by decide +kernel
theorem dX11_init_207 : decode cX11_init 207 = .ok (.newarray .int, 2) := by decide +kernel
theorem dX11_init_209 : decode cX11_init 209 = .ok (.putfield 79, 3) := by decide +kernel
theorem dX11_init_212 : decode cX11_init 212 = .ok (.aload_n 0, 1) := by decide +kernel
theorem dX11_init_213 : decode cX11_init 213 = .ok (.sipush 200, 3) := by decide +kernel
theorem dX11_init_216 : decode cX11_init 216 = .ok (.newarray .int, 2) := by decide +kernel
theorem dX11_init_218 : decode cX11_init 218 = .ok (.putfield 82, 3) := by decide +kernel
theorem dX11_init_221 : decode cX11_init 221 = .ok (.aload_n 0, 1) := by decide +kernel
theorem dX11_init_222 : decode cX11_init 222 = .ok (.sipush 300, 3) := by decide +kernel
theorem dX11_init_225 : decode cX11_init 225 = .ok (.newarray .int, 2) := by decide +kernel
theorem dX11_init_227 : decode cX11_init 227 = .ok (.putfield 85, 3) := by decide +kernel
theorem dX11_init_230 : decode cX11_init 230 = .ok (.aload_n 0, 1) := by decide +kernel
theorem dX11_init_231 : decode cX11_init 231 = .ok (.sipush 300, 3) := by decide +kernel
theorem dX11_init_234 : decode cX11_init 234 = .ok (.newarray .int, 2) := by decide +kernel
theorem dX11_init_236 : decode cX11_init 236 = .ok (.putfield 88, 3) := by decide +kernel
theorem dX11_init_239 : decode cX11_init 239 = .ok (.aload_n 0, 1) := by decide +kernel
theorem dX11_init_240 : decode cX11_init 240 = .ok (.sipush 300, 3) := by decide +kernel
theorem dX11_init_243 : decode cX11_init 243 = .ok (.newarray .int, 2) := by decide +kernel
theorem dX11_init_245 : decode cX11_init 245 = .ok (.putfield 91, 3) := by decide +kernel
theorem dX11_init_248 : decode cX11_init 248 = .ok (.aload_n 0, 1) := by decide +kernel
theorem dX11_init_249 : decode cX11_init 249 = .ok (.sipush 300, 3) := by decide +kernel
theorem dX11_init_252 : decode cX11_init 252 = .ok (.newarray .int, 2) := by decide +kernel
theorem dX11_init_254 : decode cX11_init 254 = .ok (.putfield 94, 3) := by decide +kernel
theorem dX11_init_257 : decode cX11_init 257 = .ok (.aload_n 0, 1) := by decide +kernel
theorem dX11_init_258 : decode cX11_init 258 = .ok (.sipush 200, 3) := by decide +kernel
theorem dX11_init_261 : decode cX11_init 261 = .ok (.newarray .int, 2) := by decide +kernel
theorem dX11_init_263 : decode cX11_init 263 = .ok (.putfield 97, 3) := by decide +kernel
theorem dX11_init_266 : decode cX11_init 266 = .ok (.aload_n 0, 1) := by decide +kernel
theorem dX11_init_267 : decode cX11_init 267 = .ok (.sipush 200, 3) := by decide +kernel
theorem dX11_init_270 : decode cX11_init 270 = .ok (.newarray .int, 2) := by decide +kernel
theorem dX11_init_272 : decode cX11_init 272 = .ok (.putfield 100, 3) := by decide +kernel
theorem dX11_init_275 : decode cX11_init 275 = .ok (.aload_n 0, 1) := by decide +kernel
theorem dX11_init_276 : decode cX11_init 276 = .ok (.sipush 200, 3) := by decide +kernel
theorem dX11_init_279 : decode cX11_init 279 = .ok (.newarray .int, 2) := by decide +kernel
theorem dX11_init_281 : decode cX11_init 281 = .ok (.putfield 103, 3) := by decide +kernel
theorem dX11_init_284 : decode cX11_init 284 = .ok (.aload_n 0, 1) := by decide +kernel
theorem dX11_init_285 : decode cX11_init 285 = .ok (.sipush 200, 3) := by decide +kernel
theorem dX11_init_288 : decode cX11_init 288 = .ok (.newarray .int, 2) := by decide +kernel
theorem dX11_init_290 : decode cX11_init 290 = .ok (.putfield 106, 3) := by decide +kernel
theorem dX11_init_293 : decode cX11_init 293 = .ok (.aload_n 0, 1) := by decide +kernel
theorem dX11_init_294 : decode cX11_init 294 = .ok (.iconst 5, 1) := by decide +kernel
theorem dX11_init_295 : decode cX11_init 295 = .ok (.newarray .int, 2) := by decide +kernel
theorem dX11_init_297 : decode cX11_init 297 = .ok (.putfield 109, 3) := by decide +kernel
theorem dX11_init_300 : decode cX11_init 300 = .ok (.aload_n 0, 1) := by decide +kernel
theorem dX11_init_301 : decode cX11_init 301 = .ok (.sipush 500, 3) := by decide +kernel
theorem dX11_init_304 : decode cX11_init 304 = .ok (.newarray .int, 2) := by decide +kernel
theorem dX11_init_306 : decode cX11_init 306 = .ok (.putfield 112, 3) := by decide +kernel
theorem dX11_init_309 : decode cX11_init 309 = .ok (.aload_n 0, 1) := by decide +kernel
theorem dX11_init_310 : decode cX11_init 310 = .ok (.sipush 200, 3) := by decide +kernel
theorem dX11_init_313 : decode cX11_init 313 = .ok (.newarray .int, 2) := by decide +kernel
theorem dX11_init_315 : decode cX11_init 315 = .ok (.putfield 115, 3) := by decide +kernel
theorem dX11_init_318 : decode cX11_init 318 = .ok (.aload_n 0, 1) := by decide +kernel
theorem dX11_init_319 : decode cX11_init 319 = .ok (.sipush 200, 3) := by decide +kernel
theorem dX11_init_322 : decode cX11_init 322 = .ok (.newarray .int, 2) := by decide +kernel
theorem dX11_init_324 : decode cX11_init 324 = .ok (.putfield 118, 3) := by decide +kernel
theorem dX11_init_327 : decode cX11_init 327 = .ok (.aload_n 0, 1) := by decide +kernel
theorem dX11_init_328 : decode cX11_init 328 = .ok (.sipush 200, 3) := by decide +kernel
theorem dX11_init_331 : decode cX11_init 331 = .ok (.newarray .int, 2) := by decide +kernel
theorem dX11_init_333 : decode cX11_init 333 = .ok (.putfield 121, 3) := by decide +kernel
theorem dX11_init_336 : decode cX11_init 336 = .ok (.aload_n 0, 1) := by decide +kernel
theorem dX11_init_337 : decode cX11_init 337 = .ok (.iconst 5, 1) := by decide +kernel
theorem dX11_init_338 : decode cX11_init 338 = .ok (.newarray .int, 2) := by decide +kernel
theorem dX11_init_340 : decode cX11_init 340 = .ok (.putfield 124, 3) := by decide +kernel
theorem dX11_init_343 : decode cX11_init 343 = .ok (.aload_n 0, 1) := by decide +kernel
theorem dX11_init_344 : decode cX11_init 344 = .ok (.iconst 5, 1) := by decide +kernel
theorem dX11_init_345 : decode cX11_init 345 = .ok (.newarray .int, 2) := by decide +kernel
theorem dX11_init_347 : decode cX11_init 347 = .ok (.putfield 127, 3) := by decide +kernel
theorem dX11_init_350 : decode cX11_init 350 = .ok (.return_, 1) := by decide +kernel
theorem dX11_in_0 : decode cX11_in 0 = .ok (.iload_n 0, 1) := by decide +kernel
theorem dX11_in_1 : decode cX11_in 1 = .ok (.iload_n 1, 1) := by decide +kernel
theorem dX11_in_2 : decode cX11_in 2 = .ok (.if_icmp .lt 12, 3) := by decide +kernel
theorem dX11_in_5 : decode cX11_in 5 = .ok (.iload_n 0, 1) := by decide +kernel
theorem dX11_in_6 : decode cX11_in 6 = .ok (.iload_n 2, 1) := by decide +kernel
theorem dX11_in_7 : decode cX11_in 7 = .ok (.if_icmp .gt 7, 3) := by decide +kernel
theorem dX11_in_10 : decode cX11_in 10 = .ok (.iconst 1, 1) := by decide +kernel
theorem dX11_in_11 : decode cX11_in 11 = .ok (.goto 4, 3) := by decide +kernel
theorem dX11_in_14 : decode cX11_in 14 = .ok (.iconst 0, 1) := by decide +kernel
theorem dX11_in_15 : decode cX11_in 15 = .ok (.ireturn, 1) := by decide +kernel
theorem dX11_isField_0 : decode cX11_isField 0 = .ok (.iload_n 1, 1) := by decide +kernel
theorem dX11_isField_1 : decode cX11_isField 1 = .ok (.iconst 0, 1) := by decide +kernel
theorem dX11_isField_2 : decode cX11_isField 2 = .ok (.aload_n 0, 1) := by decide +kernel
theorem dX11_isField_3 : decode cX11_isField 3 = .ok (.getfield 130, 3) := by decide +kernel
theorem dX11_isField_6 : decode cX11_isField 6 = .ok (.iconst 1, 1) := by decide +kernel
theorem dX11_isField_7 : decode cX11_isField 7 = .ok (.isub, 1) := by decide +kernel
theorem dX11_isField_8 : decode cX11_isField 8 = .ok (.invokestatic 134, 3) := by decide +kernel
theorem dX11_isField_11 : decode cX11_isField 11 = .ok (.ireturn, 1) := by decide +kernel
theorem dX11_isLot_0 : decode cX11_isLot 0 = .ok (.iload_n 1, 1) := by decide +kernel
theorem dX11_isLot_1 : decode cX11_isLot 1 = .ok (.iconst 0, 1) := by decide +kernel
theorem dX11_isLot_2 : decode cX11_isLot 2 = .ok (.aload_n 0, 1) := by decide +kernel
theorem dX11_isLot_3 : decode cX11_isLot 3 = .ok (.getfield 138, 3) := by decide +kernel
theorem dX11_isLot_6 : decode cX11_isLot 6 = .ok (.iconst 1, 1) := by decide +kernel
theorem dX11_isLot_7 : decode cX11_isLot 7 = .ok (.isub, 1) := by decide +kernel
theorem dX11_isLot_8 : decode cX11_isLot 8 = .ok (.invokestatic 134, 3) := by decide +kernel
theorem dX11_isLot_11 : decode cX11_isLot 11 = .ok (.ireturn, 1) := by decide +kernel
theorem dX11_isYear_0 : decode cX11_isYear 0 = .ok (.iload_n 1, 1) := by decide +kernel
theorem dX11_isYear_1 : decode cX11_isYear 1 = .ok (.iconst 0, 1) := by decide +kernel
theorem dX11_isYear_2 : decode cX11_isYear 2 = .ok (.aload_n 0, 1) := by decide +kernel
theorem dX11_isYear_3 : decode cX11_isYear 3 = .ok (.getfield 141, 3) := by decide +kernel
theorem dX11_isYear_6 : decode cX11_isYear 6 = .ok (.invokestatic 134, 3) := by decide +kernel
theorem dX11_isYear_9 : decode cX11_isYear 9 = .ok (.ireturn, 1) := by decide +kernel
theorem dX11_field_0 : decode cX11_field 0 = .ok (.aload_n 0, 1) := by decide +kernel
theorem dX11_field_1 : decode cX11_field 1 = .ok (.getfield 130, 3) := by decide +kernel
theorem dX11_field_4 : decode cX11_field 4 = .ok (.bipush 40, 2) := by decide +kernel
theorem dX11_field_6 : decode cX11_field 6 = .ok (.if_icmp .eq 59, 3) := by decide +kernel
theorem dX11_field_9 : decode cX11_field 9 = .ok (.iload_n 1, 1) := by decide +kernel
theorem dX11_field_10 : decode cX11_field 10 = .ok (.iconst 0, 1) := by decide +kernel
theorem dX11_field_11 : decode cX11_field 11 = .ok (.sipush 1000, 3) := by decide +kernel
theorem dX11_field_14 : decode cX11_field 14 = .ok (.invokestatic 134, 3) := by decide +kernel
theorem dX11_field_17 : decode cX11_field 17 = .ok (.ifCond .eq 48, 3) := by decide +kernel
theorem dX11_field_20 : decode cX11_field 20 = .ok (.iload_n 2, 1) := by decide +kernel
theorem dX11_field_21 : decode cX11_field 21 = .ok (.iconst 0, 1) := by decide +kernel
theorem dX11_field_22 : decode cX11_field 22 = .ok (.sipush 1000, 3) := by decide +kernel
theorem dX11_field_25 : decode cX11_field 25 = .ok (.invokestatic 134, 3) := by decide +kernel
theorem dX11_field_28 : decode cX11_field 28 = .ok (.ifCond .eq 37, 3) := by decide +kernel
theorem dX11_field_31 : decode cX11_field 31 = .ok (.iload_n 3, 1) := by decide +kernel
theorem dX11_field_32 : decode cX11_field 32 = .ok (.iconst 0, 1) := by decide +kernel
theorem dX11_field_33 : decode cX11_field 33 = .ok (.sipush 1000, 3) := by decide +kernel
theorem dX11_field_36 : decode cX11_field 36 = .ok (.invokestatic 134, 3) := by decide +kernel
theorem dX11_field_39 : decode cX11_field 39 = .ok (.ifCond .eq 26, 3) := by decide +kernel
theorem dX11_field_42 : decode cX11_field 42 = .ok (.iload 4, 2) := by decide +kernel
theorem dX11_field_44 : decode cX11_field 44 = .ok (.iconst 0, 1) := by decide +kernel
theorem dX11_field_45 : decode cX11_field 45 = .ok (.sipush 1000, 3) := by decide +kernel
theorem dX11_field_48 : decode cX11_field 48 = .ok (.invokestatic 134, 3) := by decide +kernel
theorem dX11_field_51 : decode cX11_field 51 = .ok (.ifCond .eq 14, 3) := by decide +kernel
theorem dX11_field_54 : decode cX11_field 54 = .ok (.iload_n 1, 1) := by decide +kernel
theorem dX11_field_55 : decode cX11_field 55 = .ok (.iload_n 3, 1) := by decide +kernel
theorem dX11_field_56 : decode cX11_field 56 = .ok (.if_icmp .eq 9, 3) := by decide +kernel
theorem dX11_field_59 : decode cX11_field 59 = .ok (.iload_n 2, 1) := by decide +kernel
theorem dX11_field_60 : decode cX11_field 60 = .ok (.iload 4, 2) := by decide +kernel
theorem dX11_field_62 : decode cX11_field 62 = .ok (.if_icmp .ne 5, 3) := by decide +kernel
theorem dX11_field_65 : decode cX11_field 65 = .ok (.iconst (-1), 1) := by decide +kernel
theorem dX11_field_66 : decode cX11_field 66 = .ok (.ireturn, 1) := by decide +kernel
theorem dX11_field_67 : decode cX11_field 67 = .ok (.aload_n 0, 1) := by decide +kernel
theorem dX11_field_68 : decode cX11_field 68 = .ok (.getfield 9, 3) := by decide +kernel
theorem dX11_field_71 : decode cX11_field 71 = .ok (.aload_n 0, 1) := by decide +kernel
theorem dX11_field_72 : decode cX11_field 72 = .ok (.getfield 130, 3) := by decide +kernel
theorem dX11_field_75 : decode cX11_field 75 = .ok (.iload_n 1, 1) := by decide +kernel
theorem dX11_field_76 : decode cX11_field 76 = .ok (.iload_n 3, 1) := by decide +kernel
theorem dX11_field_77 : decode cX11_field 77 = .ok (.invokestatic 144, 3) := by decide +kernel
theorem dX11_field_80 : decode cX11_field 80 = .ok (.iastore, 1) := by decide +kernel
theorem dX11_field_81 : decode cX11_field 81 = .ok (.aload_n 0, 1) := by decide +kernel
theorem dX11_field_82 : decode cX11_field 82 = .ok (.getfield 16, 3) := by decide +kernel
theorem dX11_field_85 : decode cX11_field 85 = .ok (.aload_n 0, 1) := by decide +kernel
theorem dX11_field_86 : decode cX11_field 86 = .ok (.getfield 130, 3) := by decide +kernel
theorem dX11_field_89 : decode cX11_field 89 = .ok (.iload_n 1, 1) := by decide +kernel
theorem dX11_field_90 : decode cX11_field 90 = .ok (.iload_n 3, 1) := by decide +kernel
theorem dX11_field_91 : decode cX11_field 91 = .ok (.invokestatic 150, 3) := by decide +kernel
theorem dX11_field_94 : decode cX11_field 94 = .ok (.iastore, 1) := by decide +kernel
theorem dX11_field_95 : decode cX11_field 95 = .ok (.aload_n 0, 1) := by decide +kernel
theorem dX11_field_96 : decode cX11_field 96 = .ok (.getfield 13, 3) := by decide +kernel
theorem dX11_field_99 : decode cX11_field 99 = .ok (.aload_n 0, 1) := by decide +kernel
theorem dX11_field_100 : decode cX11_field 100 = .ok (.getfield 130, 3) := by decide +kernel
theorem dX11_field_103 : decode cX11_field 103 = .ok (.iload_n 2, 1) := by decide +kernel
theorem dX11_field_104 : decode cX11_field 104 = .ok (.iload 4, 2) := by decide +kernel
theorem dX11_field_106 : decode cX11_field 106 = .ok (.invokestatic 144, 3) := by decide +kernel
theorem dX11_field_109 : decode cX11_field 109 = .ok (.iastore, 1) := by decide +kernel
theorem dX11_field_110 : decode cX11_field 110 = .ok (.aload_n 0, 1) := by decide +kernel
theorem dX11_field_111 : decode cX11_field 111 = .ok (.getfield 19, 3) := by decide +kernel
theorem dX11_field_114 : decode cX11_field 114 = .ok (.aload_n 0, 1) := by decide +kernel
theorem dX11_field_115 : decode cX11_field 115 = .ok (.getfield 130, 3) := by decide +kernel
theorem dX11_field_118 : decode cX11_field 118 = .ok (.iload_n 2, 1) := by decide +kernel
theorem dX11_field_119 : decode cX11_field 119 = .ok (.iload 4, 2) := by decide +kernel
theorem dX11_field_121 : decode cX11_field 121 = .ok (.invokestatic 150, 3) := by decide +kernel
theorem dX11_field_124 : decode cX11_field 124 = .ok (.iastore, 1) := by decide +kernel
theorem dX11_field_125 : decode cX11_field 125 = .ok (.aload_n 0, 1) := by decide +kernel
theorem dX11_field_126 : decode cX11_field 126 = .ok (.dup, 1) := by decide +kernel
theorem dX11_field_127 : decode cX11_field 127 = .ok (.getfield 130, 3) := by decide +kernel
theorem dX11_field_130 : decode cX11_field 130 = .ok (.iconst 1, 1) := by decide +kernel
theorem dX11_field_131 : decode cX11_field 131 = .ok (.iadd, 1) := by decide +kernel
theorem dX11_field_132 : decode cX11_field 132 = .ok (.putfield 130, 3) := by decide +kernel
theorem dX11_field_135 : decode cX11_field 135 = .ok (.aload_n 0, 1) := by decide +kernel
theorem dX11_field_136 : decode cX11_field 136 = .ok (.getfield 130, 3) := by decide +kernel
theorem dX11_field_139 : decode cX11_field 139 = .ok (.iconst 1, 1) := by decide +kernel
theorem dX11_field_140 : decode cX11_field 140 = .ok (.isub, 1) := by decide +kernel
theorem dX11_field_141 : decode cX11_field 141 = .ok (.ireturn, 1) := by decide +kernel
theorem dX11_nearness_0 : decode cX11_nearness 0 = .ok (.iconst 0, 1) := by decide +kernel
theorem dX11_nearness_1 : decode cX11_nearness 1 = .ok (.aload_n 0, 1) := by decide +kernel
theorem dX11_nearness_2 : decode cX11_nearness 2 = .ok (.getfield 9, 3) := by decide +kernel
theorem dX11_nearness_5 : decode cX11_nearness 5 = .ok (.iload_n 1, 1) := by decide +kernel
theorem dX11_nearness_6 : decode cX11_nearness 6 = .ok (.iaload, 1) := by decide +kernel
theorem dX11_nearness_7 : decode cX11_nearness 7 = .ok (.aload_n 0, 1) := by decide +kernel
theorem dX11_nearness_8 : decode cX11_nearness 8 = .ok (.getfield 16, 3) := by decide +kernel
theorem dX11_nearness_11 : decode cX11_nearness 11 = .ok (.iload_n 2, 1) := by decide +kernel
theorem dX11_nearness_12 : decode cX11_nearness 12 = .ok (.iaload, 1) := by decide +kernel
theorem dX11_nearness_13 : decode cX11_nearness 13 = .ok (.isub, 1) := by decide +kernel
theorem dX11_nearness_14 : decode cX11_nearness 14 = .ok (.aload_n 0, 1) := by decide +kernel
theorem dX11_nearness_15 : decode cX11_nearness 15 = .ok (.getfield 9, 3) := by decide +kernel
theorem dX11_nearness_18 : decode cX11_nearness 18 = .ok (.iload_n 2, 1) := by decide +kernel
theorem dX11_nearness_19 : decode cX11_nearness 19 = .ok (.iaload, 1) := by decide +kernel
theorem dX11_nearness_20 : decode cX11_nearness 20 = .ok (.aload_n 0, 1) := by decide +kernel
theorem dX11_nearness_21 : decode cX11_nearness 21 = .ok (.getfield 16, 3) := by decide +kernel
theorem dX11_nearness_24 : decode cX11_nearness 24 = .ok (.iload_n 1, 1) := by decide +kernel
theorem dX11_nearness_25 : decode cX11_nearness 25 = .ok (.iaload, 1) := by decide +kernel
theorem dX11_nearness_26 : decode cX11_nearness 26 = .ok (.isub, 1) := by decide +kernel
theorem dX11_nearness_27 : decode cX11_nearness 27 = .ok (.invokestatic 150, 3) := by decide +kernel
theorem dX11_nearness_30 : decode cX11_nearness 30 = .ok (.invokestatic 150, 3) := by decide +kernel
theorem dX11_nearness_33 : decode cX11_nearness 33 = .ok (.istore_n 3, 1) := by decide +kernel
theorem dX11_nearness_34 : decode cX11_nearness 34 = .ok (.iconst 0, 1) := by decide +kernel
theorem dX11_nearness_35 : decode cX11_nearness 35 = .ok (.aload_n 0, 1) := by decide +kernel
theorem dX11_nearness_36 : decode cX11_nearness 36 = .ok (.getfield 13, 3) := by decide +kernel
theorem dX11_nearness_39 : decode cX11_nearness 39 = .ok (.iload_n 1, 1) := by decide +kernel
theorem dX11_nearness_40 : decode cX11_nearness 40 = .ok (.iaload, 1) := by decide +kernel
theorem dX11_nearness_41 : decode cX11_nearness 41 = .ok (.aload_n 0, 1) := by decide +kernel
theorem dX11_nearness_42 : decode cX11_nearness 42 = .ok (.getfield 19, 3) := by decide +kernel
theorem dX11_nearness_45 : decode cX11_nearness 45 = .ok (.iload_n 2, 1) := by decide +kernel
theorem dX11_nearness_46 : decode cX11_nearness 46 = .ok (.iaload, 1) := by decide +kernel
theorem dX11_nearness_47 : decode cX11_nearness 47 = .ok (.isub, 1) := by decide +kernel
theorem dX11_nearness_48 : decode cX11_nearness 48 = .ok (.aload_n 0, 1) := by decide +kernel
theorem dX11_nearness_49 : decode cX11_nearness 49 = .ok (.getfield 13, 3) := by decide +kernel
theorem dX11_nearness_52 : decode cX11_nearness 52 = .ok (.iload_n 2, 1) := by decide +kernel
theorem dX11_nearness_53 : decode cX11_nearness 53 = .ok (.iaload, 1) := by decide +kernel
theorem dX11_nearness_54 : decode cX11_nearness 54 = .ok (.aload_n 0, 1) := by decide +kernel
theorem dX11_nearness_55 : decode cX11_nearness 55 = .ok (.getfield 19, 3) := by decide +kernel
theorem dX11_nearness_58 : decode cX11_nearness 58 = .ok (.iload_n 1, 1) := by decide +kernel
theorem dX11_nearness_59 : decode cX11_nearness 59 = .ok (.iaload, 1) := by decide +kernel
theorem dX11_nearness_60 : decode cX11_nearness 60 = .ok (.isub, 1) := by decide +kernel
theorem dX11_nearness_61 : decode cX11_nearness 61 = .ok (.invokestatic 150, 3) := by decide +kernel
theorem dX11_nearness_64 : decode cX11_nearness 64 = .ok (.invokestatic 150, 3) := by decide +kernel
theorem dX11_nearness_67 : decode cX11_nearness 67 = .ok (.istore 4, 2) := by decide +kernel
theorem dX11_nearness_69 : decode cX11_nearness 69 = .ok (.iload_n 3, 1) := by decide +kernel
theorem dX11_nearness_70 : decode cX11_nearness 70 = .ok (.iload_n 3, 1) := by decide +kernel
theorem dX11_nearness_71 : decode cX11_nearness 71 = .ok (.imul, 1) := by decide +kernel
theorem dX11_nearness_72 : decode cX11_nearness 72 = .ok (.iload 4, 2) := by decide +kernel
theorem dX11_nearness_74 : decode cX11_nearness 74 = .ok (.iload 4, 2) := by decide +kernel
theorem dX11_nearness_76 : decode cX11_nearness 76 = .ok (.imul, 1) := by decide +kernel
theorem dX11_nearness_77 : decode cX11_nearness 77 = .ok (.iadd, 1) := by decide +kernel
theorem dX11_nearness_78 : decode cX11_nearness 78 = .ok (.ireturn, 1) := by decide +kernel
theorem dX11_near_0 : decode cX11_near 0 = .ok (.aload_n 0, 1) := by decide +kernel
theorem dX11_near_1 : decode cX11_near 1 = .ok (.iload_n 1, 1) := by decide +kernel
theorem dX11_near_2 : decode cX11_near 2 = .ok (.invokevirtual 153, 3) := by decide +kernel
theorem dX11_near_5 : decode cX11_near 5 = .ok (.ifCond .eq 20, 3) := by decide +kernel
theorem dX11_near_8 : decode cX11_near 8 = .ok (.aload_n 0, 1) := by decide +kernel
theorem dX11_near_9 : decode cX11_near 9 = .ok (.iload_n 2, 1) := by decide +kernel
theorem dX11_near_10 : decode cX11_near 10 = .ok (.invokevirtual 153, 3) := by decide +kernel
theorem dX11_near_13 : decode cX11_near 13 = .ok (.ifCond .eq 12, 3) := by decide +kernel
theorem dX11_near_16 : decode cX11_near 16 = .ok (.aload_n 0, 1) := by decide +kernel
theorem dX11_near_17 : decode cX11_near 17 = .ok (.iload_n 1, 1) := by decide +kernel
theorem dX11_near_18 : decode cX11_near 18 = .ok (.iload_n 2, 1) := by decide +kernel
theorem dX11_near_19 : decode cX11_near 19 = .ok (.invokevirtual 157, 3) := by decide +kernel
theorem dX11_near_22 : decode cX11_near 22 = .ok (.goto 4, 3) := by decide +kernel
theorem dX11_near_25 : decode cX11_near 25 = .ok (.iconst (-1), 1) := by decide +kernel
theorem dX11_near_26 : decode cX11_near 26 = .ok (.ireturn, 1) := by decide +kernel
theorem dX11_stand_0 : decode cX11_stand 0 = .ok (.aload_n 0, 1) := by decide +kernel
theorem dX11_stand_1 : decode cX11_stand 1 = .ok (.iload_n 1, 1) := by decide +kernel
theorem dX11_stand_2 : decode cX11_stand 2 = .ok (.invokevirtual 153, 3) := by decide +kernel
theorem dX11_stand_5 : decode cX11_stand 5 = .ok (.ifCond .eq 30, 3) := by decide +kernel
theorem dX11_stand_8 : decode cX11_stand 8 = .ok (.aload_n 0, 1) := by decide +kernel
theorem dX11_stand_9 : decode cX11_stand 9 = .ok (.iload_n 2, 1) := by decide +kernel
theorem dX11_stand_10 : decode cX11_stand 10 = .ok (.invokevirtual 160, 3) := by decide +kernel
theorem dX11_stand_13 : decode cX11_stand 13 = .ok (.ifCond .eq 22, 3) := by decide +kernel
theorem dX11_stand_16 : decode cX11_stand 16 = .ok (.iload_n 3, 1) := by decide +kernel
theorem dX11_stand_17 : decode cX11_stand 17 = .ok (.iconst 0, 1) := by decide +kernel
theorem dX11_stand_18 : decode cX11_stand 18 = .ok (.iconst 4, 1) := by decide +kernel
theorem dX11_stand_19 : decode cX11_stand 19 = .ok (.invokestatic 134, 3) := by decide +kernel
theorem dX11_stand_22 : decode cX11_stand 22 = .ok (.ifCond .eq 13, 3) := by decide +kernel
theorem dX11_stand_25 : decode cX11_stand 25 = .ok (.aload_n 0, 1) := by decide +kernel
theorem dX11_stand_26 : decode cX11_stand 26 = .ok (.getfield 163, 3) := by decide +kernel
theorem dX11_stand_29 : decode cX11_stand 29 = .ok (.sipush 300, 3) := by decide +kernel
theorem dX11_stand_32 : decode cX11_stand 32 = .ok (.if_icmp .ne 5, 3) := by decide +kernel
theorem dX11_stand_35 : decode cX11_stand 35 = .ok (.iconst 0, 1) := by decide +kernel
theorem dX11_stand_36 : decode cX11_stand 36 = .ok (.ireturn, 1) := by decide +kernel
theorem dX11_stand_37 : decode cX11_stand 37 = .ok (.aload_n 0, 1) := by decide +kernel
theorem dX11_stand_38 : decode cX11_stand 38 = .ok (.getfield 22, 3) := by decide +kernel
theorem dX11_stand_41 : decode cX11_stand 41 = .ok (.aload_n 0, 1) := by decide +kernel
theorem dX11_stand_42 : decode cX11_stand 42 = .ok (.getfield 163, 3) := by decide +kernel
theorem dX11_stand_45 : decode cX11_stand 45 = .ok (.iload_n 1, 1) := by decide +kernel
theorem dX11_stand_46 : decode cX11_stand 46 = .ok (.iastore, 1) := by decide +kernel
theorem dX11_stand_47 : decode cX11_stand 47 = .ok (.aload_n 0, 1) := by decide +kernel
theorem dX11_stand_48 : decode cX11_stand 48 = .ok (.getfield 25, 3) := by decide +kernel
theorem dX11_stand_51 : decode cX11_stand 51 = .ok (.aload_n 0, 1) := by decide +kernel
theorem dX11_stand_52 : decode cX11_stand 52 = .ok (.getfield 163, 3) := by decide +kernel
theorem dX11_stand_55 : decode cX11_stand 55 = .ok (.iload_n 2, 1) := by decide +kernel
theorem dX11_stand_56 : decode cX11_stand 56 = .ok (.iastore, 1) := by decide +kernel
theorem dX11_stand_57 : decode cX11_stand 57 = .ok (.aload_n 0, 1) := by decide +kernel
theorem dX11_stand_58 : decode cX11_stand 58 = .ok (.getfield 28, 3) := by decide +kernel
theorem dX11_stand_61 : decode cX11_stand 61 = .ok (.aload_n 0, 1) := by decide +kernel
theorem dX11_stand_62 : decode cX11_stand 62 = .ok (.getfield 163, 3) := by decide +kernel
theorem dX11_stand_65 : decode cX11_stand 65 = .ok (.iload_n 3, 1) := by decide +kernel
theorem dX11_stand_66 : decode cX11_stand 66 = .ok (.iastore, 1) := by decide +kernel
theorem dX11_stand_67 : decode cX11_stand 67 = .ok (.aload_n 0, 1) := by decide +kernel
theorem dX11_stand_68 : decode cX11_stand 68 = .ok (.getfield 31, 3) := by decide +kernel
theorem dX11_stand_71 : decode cX11_stand 71 = .ok (.aload_n 0, 1) := by decide +kernel
theorem dX11_stand_72 : decode cX11_stand 72 = .ok (.getfield 163, 3) := by decide +kernel
theorem dX11_stand_75 : decode cX11_stand 75 = .ok (.aload_n 0, 1) := by decide +kernel
theorem dX11_stand_76 : decode cX11_stand 76 = .ok (.getfield 141, 3) := by decide +kernel
theorem dX11_stand_79 : decode cX11_stand 79 = .ok (.iastore, 1) := by decide +kernel
theorem dX11_stand_80 : decode cX11_stand 80 = .ok (.aload_n 0, 1) := by decide +kernel
theorem dX11_stand_81 : decode cX11_stand 81 = .ok (.dup, 1) := by decide +kernel
theorem dX11_stand_82 : decode cX11_stand 82 = .ok (.getfield 163, 3) := by decide +kernel
theorem dX11_stand_85 : decode cX11_stand 85 = .ok (.iconst 1, 1) := by decide +kernel
theorem dX11_stand_86 : decode cX11_stand 86 = .ok (.iadd, 1) := by decide +kernel
theorem dX11_stand_87 : decode cX11_stand 87 = .ok (.putfield 163, 3) := by decide +kernel
theorem dX11_stand_90 : decode cX11_stand 90 = .ok (.iconst 1, 1) := by decide +kernel
theorem dX11_stand_91 : decode cX11_stand 91 = .ok (.ireturn, 1) := by decide +kernel
theorem dX11_lotIn_0 : decode cX11_lotIn 0 = .ok (.iconst 0, 1) := by decide +kernel
theorem dX11_lotIn_1 : decode cX11_lotIn 1 = .ok (.istore_n 3, 1) := by decide +kernel
theorem dX11_lotIn_2 : decode cX11_lotIn 2 = .ok (.iload_n 3, 1) := by decide +kernel
theorem dX11_lotIn_3 : decode cX11_lotIn 3 = .ok (.aload_n 0, 1) := by decide +kernel
theorem dX11_lotIn_4 : decode cX11_lotIn 4 = .ok (.getfield 138, 3) := by decide +kernel
theorem dX11_lotIn_7 : decode cX11_lotIn 7 = .ok (.if_icmp .ge 41, 3) := by decide +kernel
theorem dX11_lotIn_10 : decode cX11_lotIn 10 = .ok (.aload_n 0, 1) := by decide +kernel
theorem dX11_lotIn_11 : decode cX11_lotIn 11 = .ok (.getfield 46, 3) := by decide +kernel
theorem dX11_lotIn_14 : decode cX11_lotIn 14 = .ok (.iload_n 3, 1) := by decide +kernel
theorem dX11_lotIn_15 : decode cX11_lotIn 15 = .ok (.iaload, 1) := by decide +kernel
theorem dX11_lotIn_16 : decode cX11_lotIn 16 = .ok (.iconst 1, 1) := by decide +kernel
theorem dX11_lotIn_17 : decode cX11_lotIn 17 = .ok (.if_icmp .ne 25, 3) := by decide +kernel
theorem dX11_lotIn_20 : decode cX11_lotIn 20 = .ok (.aload_n 0, 1) := by decide +kernel
theorem dX11_lotIn_21 : decode cX11_lotIn 21 = .ok (.getfield 58, 3) := by decide +kernel
theorem dX11_lotIn_24 : decode cX11_lotIn 24 = .ok (.iload_n 3, 1) := by decide +kernel
theorem dX11_lotIn_25 : decode cX11_lotIn 25 = .ok (.iaload, 1) := by decide +kernel
theorem dX11_lotIn_26 : decode cX11_lotIn 26 = .ok (.iload_n 1, 1) := by decide +kernel
theorem dX11_lotIn_27 : decode cX11_lotIn 27 = .ok (.if_icmp .ne 15, 3) := by decide +kernel
theorem dX11_lotIn_30 : decode cX11_lotIn 30 = .ok (.aload_n 0, 1) := by decide +kernel
theorem dX11_lotIn_31 : decode cX11_lotIn 31 = .ok (.getfield 55, 3) := by decide +kernel
theorem dX11_lotIn_34 : decode cX11_lotIn 34 = .ok (.iload_n 3, 1) := by decide +kernel
theorem dX11_lotIn_35 : decode cX11_lotIn 35 = .ok (.iaload, 1) := by decide +kernel
theorem dX11_lotIn_36 : decode cX11_lotIn 36 = .ok (.iload_n 2, 1) := by decide +kernel
theorem dX11_lotIn_37 : decode cX11_lotIn 37 = .ok (.if_icmp .ne 5, 3) := by decide +kernel
theorem dX11_lotIn_40 : decode cX11_lotIn 40 = .ok (.iload_n 3, 1) := by decide +kernel
theorem dX11_lotIn_41 : decode cX11_lotIn 41 = .ok (.ireturn, 1) := by decide +kernel
theorem dX11_lotIn_42 : decode cX11_lotIn 42 = .ok (.iinc 3 1, 3) := by decide +kernel
theorem dX11_lotIn_45 : decode cX11_lotIn 45 = .ok (.goto (-43), 3) := by decide +kernel
theorem dX11_lotIn_48 : decode cX11_lotIn 48 = .ok (.iconst (-1), 1) := by decide +kernel
theorem dX11_lotIn_49 : decode cX11_lotIn 49 = .ok (.ireturn, 1) := by decide +kernel
theorem dX11_standing_0 : decode cX11_standing 0 = .ok (.iload_n 2, 1) := by decide +kernel
theorem dX11_standing_1 : decode cX11_standing 1 = .ok (.iload_n 3, 1) := by decide +kernel
theorem dX11_standing_2 : decode cX11_standing 2 = .ok (.if_icmp .gt 12, 3) := by decide +kernel
theorem dX11_standing_5 : decode cX11_standing 5 = .ok (.aload_n 0, 1) := by decide +kernel
theorem dX11_standing_6 : decode cX11_standing 6 = .ok (.iload_n 1, 1) := by decide +kernel
theorem dX11_standing_7 : decode cX11_standing 7 = .ok (.iload_n 2, 1) := by decide +kernel
theorem dX11_standing_8 : decode cX11_standing 8 = .ok (.invokevirtual 166, 3) := by decide +kernel
theorem dX11_standing_11 : decode cX11_standing 11 = .ok (.goto 4, 3) := by decide +kernel
theorem dX11_standing_14 : decode cX11_standing 14 = .ok (.iconst (-1), 1) := by decide +kernel
theorem dX11_standing_15 : decode cX11_standing 15 = .ok (.istore 4, 2) := by decide +kernel
theorem dX11_standing_17 : decode cX11_standing 17 = .ok (.iload 4, 2) := by decide +kernel
theorem dX11_standing_19 : decode cX11_standing 19 = .ok (.iconst (-1), 1) := by decide +kernel
theorem dX11_standing_20 : decode cX11_standing 20 = .ok (.if_icmp .eq 11, 3) := by decide +kernel
theorem dX11_standing_23 : decode cX11_standing 23 = .ok (.aload_n 0, 1) := by decide +kernel
theorem dX11_standing_24 : decode cX11_standing 24 = .ok (.getfield 49, 3) := by decide +kernel
theorem dX11_standing_27 : decode cX11_standing 27 = .ok (.iload 4, 2) := by decide +kernel
theorem dX11_standing_29 : decode cX11_standing 29 = .ok (.iaload, 1) := by decide +kernel
theorem dX11_standing_30 : decode cX11_standing 30 = .ok (.ireturn, 1) := by decide +kernel
theorem dX11_standing_31 : decode cX11_standing 31 = .ok (.iconst 0, 1) := by decide +kernel
theorem dX11_standing_32 : decode cX11_standing 32 = .ok (.istore 5, 2) := by decide +kernel
theorem dX11_standing_34 : decode cX11_standing 34 = .ok (.iconst 0, 1) := by decide +kernel
theorem dX11_standing_35 : decode cX11_standing 35 = .ok (.istore 6, 2) := by decide +kernel
theorem dX11_standing_37 : decode cX11_standing 37 = .ok (.iload 6, 2) := by decide +kernel
theorem dX11_standing_39 : decode cX11_standing 39 = .ok (.aload_n 0, 1) := by decide +kernel
theorem dX11_standing_40 : decode cX11_standing 40 = .ok (.getfield 163, 3) := by decide +kernel
theorem dX11_standing_43 : decode cX11_standing 43 = .ok (.if_icmp .ge 51, 3) := by decide +kernel
theorem dX11_standing_46 : decode cX11_standing 46 = .ok (.aload_n 0, 1) := by decide +kernel
theorem dX11_standing_47 : decode cX11_standing 47 = .ok (.getfield 22, 3) := by decide +kernel
theorem dX11_standing_50 : decode cX11_standing 50 = .ok (.iload 6, 2) := by decide +kernel
theorem dX11_standing_52 : decode cX11_standing 52 = .ok (.iaload, 1) := by decide +kernel
theorem dX11_standing_53 : decode cX11_standing 53 = .ok (.iload_n 1, 1) := by decide +kernel
theorem dX11_standing_54 : decode cX11_standing 54 = .ok (.if_icmp .ne 34, 3) := by decide +kernel
theorem dX11_standing_57 : decode cX11_standing 57 = .ok (.aload_n 0, 1) := by decide +kernel
theorem dX11_standing_58 : decode cX11_standing 58 = .ok (.getfield 25, 3) := by decide +kernel
theorem dX11_standing_61 : decode cX11_standing 61 = .ok (.iload 6, 2) := by decide +kernel
theorem dX11_standing_63 : decode cX11_standing 63 = .ok (.iaload, 1) := by decide +kernel
theorem dX11_standing_64 : decode cX11_standing 64 = .ok (.iload_n 2, 1) := by decide +kernel
theorem dX11_standing_65 : decode cX11_standing 65 = .ok (.if_icmp .ne 23, 3) := by decide +kernel
theorem dX11_standing_68 : decode cX11_standing 68 = .ok (.aload_n 0, 1) := by decide +kernel
theorem dX11_standing_69 : decode cX11_standing 69 = .ok (.getfield 31, 3) := by decide +kernel
theorem dX11_standing_72 : decode cX11_standing 72 = .ok (.iload 6, 2) := by decide +kernel
theorem dX11_standing_74 : decode cX11_standing 74 = .ok (.iaload, 1) := by decide +kernel
theorem dX11_standing_75 : decode cX11_standing 75 = .ok (.iload_n 3, 1) := by decide +kernel
theorem dX11_standing_76 : decode cX11_standing 76 = .ok (.if_icmp .gt 12, 3) := by decide +kernel
theorem dX11_standing_79 : decode cX11_standing 79 = .ok (.aload_n 0, 1) := by decide +kernel
theorem dX11_standing_80 : decode cX11_standing 80 = .ok (.getfield 28, 3) := by decide +kernel
theorem dX11_standing_83 : decode cX11_standing 83 = .ok (.iload 6, 2) := by decide +kernel
theorem dX11_standing_85 : decode cX11_standing 85 = .ok (.iaload, 1) := by decide +kernel
theorem dX11_standing_86 : decode cX11_standing 86 = .ok (.istore 5, 2) := by decide +kernel
theorem dX11_standing_88 : decode cX11_standing 88 = .ok (.iinc 6 1, 3) := by decide +kernel
theorem dX11_standing_91 : decode cX11_standing 91 = .ok (.goto (-54), 3) := by decide +kernel
theorem dX11_standing_94 : decode cX11_standing 94 = .ok (.iload 5, 2) := by decide +kernel
theorem dX11_standing_96 : decode cX11_standing 96 = .ok (.ireturn, 1) := by decide +kernel
theorem dX11_stands_0 : decode cX11_stands 0 = .ok (.aload_n 0, 1) := by decide +kernel
theorem dX11_stands_1 : decode cX11_stands 1 = .ok (.iload_n 1, 1) := by decide +kernel
theorem dX11_stands_2 : decode cX11_stands 2 = .ok (.invokevirtual 153, 3) := by decide +kernel
theorem dX11_stands_5 : decode cX11_stands 5 = .ok (.ifCond .eq 29, 3) := by decide +kernel
theorem dX11_stands_8 : decode cX11_stands 8 = .ok (.aload_n 0, 1) := by decide +kernel
theorem dX11_stands_9 : decode cX11_stands 9 = .ok (.iload_n 2, 1) := by decide +kernel
theorem dX11_stands_10 : decode cX11_stands 10 = .ok (.invokevirtual 160, 3) := by decide +kernel
theorem dX11_stands_13 : decode cX11_stands 13 = .ok (.ifCond .eq 21, 3) := by decide +kernel
theorem dX11_stands_16 : decode cX11_stands 16 = .ok (.aload_n 0, 1) := by decide +kernel
theorem dX11_stands_17 : decode cX11_stands 17 = .ok (.iload_n 3, 1) := by decide +kernel
theorem dX11_stands_18 : decode cX11_stands 18 = .ok (.invokevirtual 160, 3) := by decide +kernel
theorem dX11_stands_21 : decode cX11_stands 21 = .ok (.ifCond .eq 13, 3) := by decide +kernel
theorem dX11_stands_24 : decode cX11_stands 24 = .ok (.aload_n 0, 1) := by decide +kernel
theorem dX11_stands_25 : decode cX11_stands 25 = .ok (.iload_n 1, 1) := by decide +kernel
theorem dX11_stands_26 : decode cX11_stands 26 = .ok (.iload_n 2, 1) := by decide +kernel
theorem dX11_stands_27 : decode cX11_stands 27 = .ok (.iload_n 3, 1) := by decide +kernel
theorem dX11_stands_28 : decode cX11_stands 28 = .ok (.invokevirtual 169, 3) := by decide +kernel
theorem dX11_stands_31 : decode cX11_stands 31 = .ok (.goto 4, 3) := by decide +kernel
theorem dX11_stands_34 : decode cX11_stands 34 = .ok (.iconst (-1), 1) := by decide +kernel
theorem dX11_stands_35 : decode cX11_stands 35 = .ok (.ireturn, 1) := by decide +kernel
theorem dX11_isValue_0 : decode cX11_isValue 0 = .ok (.iload_n 0, 1) := by decide +kernel
theorem dX11_isValue_1 : decode cX11_isValue 1 = .ok (.tableswitch 76 0 4 #[35, 44, 52, 59, 68], 35) := by decide +kernel
theorem dX11_isValue_36 : decode cX11_isValue 36 = .ok (.iload_n 1, 1) := by decide +kernel
theorem dX11_isValue_37 : decode cX11_isValue 37 = .ok (.iconst 0, 1) := by decide +kernel
theorem dX11_isValue_38 : decode cX11_isValue 38 = .ok (.sipush 1000, 3) := by decide +kernel
theorem dX11_isValue_41 : decode cX11_isValue 41 = .ok (.invokestatic 134, 3) := by decide +kernel
theorem dX11_isValue_44 : decode cX11_isValue 44 = .ok (.ireturn, 1) := by decide +kernel
theorem dX11_isValue_45 : decode cX11_isValue 45 = .ok (.iload_n 1, 1) := by decide +kernel
theorem dX11_isValue_46 : decode cX11_isValue 46 = .ok (.iconst 0, 1) := by decide +kernel
theorem dX11_isValue_47 : decode cX11_isValue 47 = .ok (.bipush 10, 2) := by decide +kernel
theorem dX11_isValue_49 : decode cX11_isValue 49 = .ok (.invokestatic 134, 3) := by decide +kernel
theorem dX11_isValue_52 : decode cX11_isValue 52 = .ok (.ireturn, 1) := by decide +kernel
theorem dX11_isValue_53 : decode cX11_isValue 53 = .ok (.iload_n 1, 1) := by decide +kernel
theorem dX11_isValue_54 : decode cX11_isValue 54 = .ok (.iconst 0, 1) := by decide +kernel
theorem dX11_isValue_55 : decode cX11_isValue 55 = .ok (.iconst 5, 1) := by decide +kernel
theorem dX11_isValue_56 : decode cX11_isValue 56 = .ok (.invokestatic 134, 3) := by decide +kernel
theorem dX11_isValue_59 : decode cX11_isValue 59 = .ok (.ireturn, 1) := by decide +kernel
theorem dX11_isValue_60 : decode cX11_isValue 60 = .ok (.iload_n 1, 1) := by decide +kernel
theorem dX11_isValue_61 : decode cX11_isValue 61 = .ok (.iconst 0, 1) := by decide +kernel
theorem dX11_isValue_62 : decode cX11_isValue 62 = .ok (.sipush 1000, 3) := by decide +kernel
theorem dX11_isValue_65 : decode cX11_isValue 65 = .ok (.invokestatic 134, 3) := by decide +kernel
theorem dX11_isValue_68 : decode cX11_isValue 68 = .ok (.ireturn, 1) := by decide +kernel
theorem dX11_isValue_69 : decode cX11_isValue 69 = .ok (.iload_n 1, 1) := by decide +kernel
theorem dX11_isValue_70 : decode cX11_isValue 70 = .ok (.iconst 0, 1) := by decide +kernel
theorem dX11_isValue_71 : decode cX11_isValue 71 = .ok (.bipush 8, 2) := by decide +kernel
theorem dX11_isValue_73 : decode cX11_isValue 73 = .ok (.invokestatic 134, 3) := by decide +kernel
theorem dX11_isValue_76 : decode cX11_isValue 76 = .ok (.ireturn, 1) := by decide +kernel
theorem dX11_isValue_77 : decode cX11_isValue 77 = .ok (.iconst 0, 1) := by decide +kernel
theorem dX11_isValue_78 : decode cX11_isValue 78 = .ok (.ireturn, 1) := by decide +kernel
theorem dX11_statute_0 : decode cX11_statute 0 = .ok (.iload_n 1, 1) := by decide +kernel
theorem dX11_statute_1 : decode cX11_statute 1 = .ok (.iload_n 3, 1) := by decide +kernel
theorem dX11_statute_2 : decode cX11_statute 2 = .ok (.invokestatic 173, 3) := by decide +kernel
theorem dX11_statute_5 : decode cX11_statute 5 = .ok (.ifCond .eq 22, 3) := by decide +kernel
theorem dX11_statute_8 : decode cX11_statute 8 = .ok (.iload_n 2, 1) := by decide +kernel
theorem dX11_statute_9 : decode cX11_statute 9 = .ok (.iconst 0, 1) := by decide +kernel
theorem dX11_statute_10 : decode cX11_statute 10 = .ok (.bipush 60, 2) := by decide +kernel
theorem dX11_statute_12 : decode cX11_statute 12 = .ok (.invokestatic 134, 3) := by decide +kernel
theorem dX11_statute_15 : decode cX11_statute 15 = .ok (.ifCond .eq 12, 3) := by decide +kernel
theorem dX11_statute_18 : decode cX11_statute 18 = .ok (.aload_n 0, 1) := by decide +kernel
theorem dX11_statute_19 : decode cX11_statute 19 = .ok (.getfield 177, 3) := by decide +kernel
theorem dX11_statute_22 : decode cX11_statute 22 = .ok (.bipush 100, 2) := by decide +kernel
theorem dX11_statute_24 : decode cX11_statute 24 = .ok (.if_icmp .ne 5, 3) := by decide +kernel
theorem dX11_statute_27 : decode cX11_statute 27 = .ok (.iconst (-1), 1) := by decide +kernel
theorem dX11_statute_28 : decode cX11_statute 28 = .ok (.ireturn, 1) := by decide +kernel
theorem dX11_statute_29 : decode cX11_statute 29 = .ok (.aload_n 0, 1) := by decide +kernel
theorem dX11_statute_30 : decode cX11_statute 30 = .ok (.getfield 34, 3) := by decide +kernel
theorem dX11_statute_33 : decode cX11_statute 33 = .ok (.aload_n 0, 1) := by decide +kernel
theorem dX11_statute_34 : decode cX11_statute 34 = .ok (.getfield 177, 3) := by decide +kernel
theorem dX11_statute_37 : decode cX11_statute 37 = .ok (.iload_n 1, 1) := by decide +kernel
theorem dX11_statute_38 : decode cX11_statute 38 = .ok (.iastore, 1) := by decide +kernel
theorem dX11_statute_39 : decode cX11_statute 39 = .ok (.aload_n 0, 1) := by decide +kernel
theorem dX11_statute_40 : decode cX11_statute 40 = .ok (.getfield 37, 3) := by decide +kernel
theorem dX11_statute_43 : decode cX11_statute 43 = .ok (.aload_n 0, 1) := by decide +kernel
theorem dX11_statute_44 : decode cX11_statute 44 = .ok (.getfield 177, 3) := by decide +kernel
theorem dX11_statute_47 : decode cX11_statute 47 = .ok (.iload_n 2, 1) := by decide +kernel
theorem dX11_statute_48 : decode cX11_statute 48 = .ok (.iastore, 1) := by decide +kernel
theorem dX11_statute_49 : decode cX11_statute 49 = .ok (.aload_n 0, 1) := by decide +kernel
theorem dX11_statute_50 : decode cX11_statute 50 = .ok (.getfield 40, 3) := by decide +kernel
theorem dX11_statute_53 : decode cX11_statute 53 = .ok (.aload_n 0, 1) := by decide +kernel
theorem dX11_statute_54 : decode cX11_statute 54 = .ok (.getfield 177, 3) := by decide +kernel
theorem dX11_statute_57 : decode cX11_statute 57 = .ok (.iload_n 3, 1) := by decide +kernel
theorem dX11_statute_58 : decode cX11_statute 58 = .ok (.iastore, 1) := by decide +kernel
theorem dX11_statute_59 : decode cX11_statute 59 = .ok (.aload_n 0, 1) := by decide +kernel
theorem dX11_statute_60 : decode cX11_statute 60 = .ok (.getfield 43, 3) := by decide +kernel
theorem dX11_statute_63 : decode cX11_statute 63 = .ok (.aload_n 0, 1) := by decide +kernel
theorem dX11_statute_64 : decode cX11_statute 64 = .ok (.getfield 177, 3) := by decide +kernel
theorem dX11_statute_67 : decode cX11_statute 67 = .ok (.aload_n 0, 1) := by decide +kernel
theorem dX11_statute_68 : decode cX11_statute 68 = .ok (.getfield 141, 3) := by decide +kernel
theorem dX11_statute_71 : decode cX11_statute 71 = .ok (.iastore, 1) := by decide +kernel
theorem dX11_statute_72 : decode cX11_statute 72 = .ok (.aload_n 0, 1) := by decide +kernel
theorem dX11_statute_73 : decode cX11_statute 73 = .ok (.dup, 1) := by decide +kernel
theorem dX11_statute_74 : decode cX11_statute 74 = .ok (.getfield 177, 3) := by decide +kernel
theorem dX11_statute_77 : decode cX11_statute 77 = .ok (.iconst 1, 1) := by decide +kernel
theorem dX11_statute_78 : decode cX11_statute 78 = .ok (.iadd, 1) := by decide +kernel
theorem dX11_statute_79 : decode cX11_statute 79 = .ok (.putfield 177, 3) := by decide +kernel
theorem dX11_statute_82 : decode cX11_statute 82 = .ok (.aload_n 0, 1) := by decide +kernel
theorem dX11_statute_83 : decode cX11_statute 83 = .ok (.getfield 177, 3) := by decide +kernel
theorem dX11_statute_86 : decode cX11_statute 86 = .ok (.ireturn, 1) := by decide +kernel
theorem dX11_inForce_0 : decode cX11_inForce 0 = .ok (.iload_n 1, 1) := by decide +kernel
theorem dX11_inForce_1 : decode cX11_inForce 1 = .ok (.ifCond .ne 8, 3) := by decide +kernel
theorem dX11_inForce_4 : decode cX11_inForce 4 = .ok (.bipush 50, 2) := by decide +kernel
theorem dX11_inForce_6 : decode cX11_inForce 6 = .ok (.goto 33, 3) := by decide +kernel
theorem dX11_inForce_9 : decode cX11_inForce 9 = .ok (.iload_n 1, 1) := by decide +kernel
theorem dX11_inForce_10 : decode cX11_inForce 10 = .ok (.iconst 1, 1) := by decide +kernel
theorem dX11_inForce_11 : decode cX11_inForce 11 = .ok (.if_icmp .ne 7, 3) := by decide +kernel
theorem dX11_inForce_14 : decode cX11_inForce 14 = .ok (.iconst 2, 1) := by decide +kernel
theorem dX11_inForce_15 : decode cX11_inForce 15 = .ok (.goto 24, 3) := by decide +kernel
theorem dX11_inForce_18 : decode cX11_inForce 18 = .ok (.iload_n 1, 1) := by decide +kernel
theorem dX11_inForce_19 : decode cX11_inForce 19 = .ok (.iconst 2, 1) := by decide +kernel
theorem dX11_inForce_20 : decode cX11_inForce 20 = .ok (.if_icmp .ne 7, 3) := by decide +kernel
theorem dX11_inForce_23 : decode cX11_inForce 23 = .ok (.iconst 1, 1) := by decide +kernel
theorem dX11_inForce_24 : decode cX11_inForce 24 = .ok (.goto 15, 3) := by decide +kernel
theorem dX11_inForce_27 : decode cX11_inForce 27 = .ok (.iload_n 1, 1) := by decide +kernel
theorem dX11_inForce_28 : decode cX11_inForce 28 = .ok (.iconst 3, 1) := by decide +kernel
theorem dX11_inForce_29 : decode cX11_inForce 29 = .ok (.if_icmp .ne 8, 3) := by decide +kernel
theorem dX11_inForce_32 : decode cX11_inForce 32 = .ok (.bipush 10, 2) := by decide +kernel
theorem dX11_inForce_34 : decode cX11_inForce 34 = .ok (.goto 5, 3) := by decide +kernel
theorem dX11_inForce_37 : decode cX11_inForce 37 = .ok (.bipush 6, 2) := by decide +kernel
theorem dX11_inForce_39 : decode cX11_inForce 39 = .ok (.istore 4, 2) := by decide +kernel
theorem dX11_inForce_41 : decode cX11_inForce 41 = .ok (.iconst (-1), 1) := by decide +kernel
theorem dX11_inForce_42 : decode cX11_inForce 42 = .ok (.istore 5, 2) := by decide +kernel
theorem dX11_inForce_44 : decode cX11_inForce 44 = .ok (.iconst 0, 1) := by decide +kernel
theorem dX11_inForce_45 : decode cX11_inForce 45 = .ok (.istore 6, 2) := by decide +kernel
theorem dX11_inForce_47 : decode cX11_inForce 47 = .ok (.iload 6, 2) := by decide +kernel
theorem dX11_inForce_49 : decode cX11_inForce 49 = .ok (.aload_n 0, 1) := by decide +kernel
theorem dX11_inForce_50 : decode cX11_inForce 50 = .ok (.getfield 177, 3) := by decide +kernel
theorem dX11_inForce_53 : decode cX11_inForce 53 = .ok (.if_icmp .ge 72, 3) := by decide +kernel
theorem dX11_inForce_56 : decode cX11_inForce 56 = .ok (.aload_n 0, 1) := by decide +kernel
theorem dX11_inForce_57 : decode cX11_inForce 57 = .ok (.getfield 34, 3) := by decide +kernel
theorem dX11_inForce_60 : decode cX11_inForce 60 = .ok (.iload 6, 2) := by decide +kernel
theorem dX11_inForce_62 : decode cX11_inForce 62 = .ok (.iaload, 1) := by decide +kernel
theorem dX11_inForce_63 : decode cX11_inForce 63 = .ok (.iload_n 1, 1) := by decide +kernel
theorem dX11_inForce_64 : decode cX11_inForce 64 = .ok (.if_icmp .ne 55, 3) := by decide +kernel
theorem dX11_inForce_67 : decode cX11_inForce 67 = .ok (.aload_n 0, 1) := by decide +kernel
theorem dX11_inForce_68 : decode cX11_inForce 68 = .ok (.getfield 43, 3) := by decide +kernel
theorem dX11_inForce_71 : decode cX11_inForce 71 = .ok (.iload 6, 2) := by decide +kernel
theorem dX11_inForce_73 : decode cX11_inForce 73 = .ok (.iaload, 1) := by decide +kernel
theorem dX11_inForce_74 : decode cX11_inForce 74 = .ok (.iload_n 3, 1) := by decide +kernel
theorem dX11_inForce_75 : decode cX11_inForce 75 = .ok (.if_icmp .gt 44, 3) := by decide +kernel
theorem dX11_inForce_78 : decode cX11_inForce 78 = .ok (.aload_n 0, 1) := by decide +kernel
theorem dX11_inForce_79 : decode cX11_inForce 79 = .ok (.getfield 37, 3) := by decide +kernel
theorem dX11_inForce_82 : decode cX11_inForce 82 = .ok (.iload 6, 2) := by decide +kernel
theorem dX11_inForce_84 : decode cX11_inForce 84 = .ok (.iaload, 1) := by decide +kernel
theorem dX11_inForce_85 : decode cX11_inForce 85 = .ok (.iload_n 2, 1) := by decide +kernel
theorem dX11_inForce_86 : decode cX11_inForce 86 = .ok (.if_icmp .gt 33, 3) := by decide +kernel
theorem dX11_inForce_89 : decode cX11_inForce 89 = .ok (.aload_n 0, 1) := by decide +kernel
theorem dX11_inForce_90 : decode cX11_inForce 90 = .ok (.getfield 37, 3) := by decide +kernel
theorem dX11_inForce_93 : decode cX11_inForce 93 = .ok (.iload 6, 2) := by decide +kernel
theorem dX11_inForce_95 : decode cX11_inForce 95 = .ok (.iaload, 1) := by decide +kernel
theorem dX11_inForce_96 : decode cX11_inForce 96 = .ok (.iload 5, 2) := by decide +kernel
theorem dX11_inForce_98 : decode cX11_inForce 98 = .ok (.if_icmp .lt 21, 3) := by decide +kernel
theorem dX11_inForce_101 : decode cX11_inForce 101 = .ok (.aload_n 0, 1) := by decide +kernel
theorem dX11_inForce_102 : decode cX11_inForce 102 = .ok (.getfield 40, 3) := by decide +kernel
theorem dX11_inForce_105 : decode cX11_inForce 105 = .ok (.iload 6, 2) := by decide +kernel
theorem dX11_inForce_107 : decode cX11_inForce 107 = .ok (.iaload, 1) := by decide +kernel
theorem dX11_inForce_108 : decode cX11_inForce 108 = .ok (.istore 4, 2) := by decide +kernel
theorem dX11_inForce_110 : decode cX11_inForce 110 = .ok (.aload_n 0, 1) := by decide +kernel
theorem dX11_inForce_111 : decode cX11_inForce 111 = .ok (.getfield 37, 3) := by decide +kernel
theorem dX11_inForce_114 : decode cX11_inForce 114 = .ok (.iload 6, 2) := by decide +kernel
theorem dX11_inForce_116 : decode cX11_inForce 116 = .ok (.iaload, 1) := by decide +kernel
theorem dX11_inForce_117 : decode cX11_inForce 117 = .ok (.istore 5, 2) := by decide +kernel
theorem dX11_inForce_119 : decode cX11_inForce 119 = .ok (.iinc 6 1, 3) := by decide +kernel
theorem dX11_inForce_122 : decode cX11_inForce 122 = .ok (.goto (-75), 3) := by decide +kernel
theorem dX11_inForce_125 : decode cX11_inForce 125 = .ok (.iload 4, 2) := by decide +kernel
theorem dX11_inForce_127 : decode cX11_inForce 127 = .ok (.ireturn, 1) := by decide +kernel
theorem dX11_force_0 : decode cX11_force 0 = .ok (.iload_n 1, 1) := by decide +kernel
theorem dX11_force_1 : decode cX11_force 1 = .ok (.iconst 0, 1) := by decide +kernel
theorem dX11_force_2 : decode cX11_force 2 = .ok (.iconst 4, 1) := by decide +kernel
theorem dX11_force_3 : decode cX11_force 3 = .ok (.invokestatic 134, 3) := by decide +kernel
theorem dX11_force_6 : decode cX11_force 6 = .ok (.ifCond .eq 31, 3) := by decide +kernel
theorem dX11_force_9 : decode cX11_force 9 = .ok (.iload_n 2, 1) := by decide +kernel
theorem dX11_force_10 : decode cX11_force 10 = .ok (.iconst 0, 1) := by decide +kernel
theorem dX11_force_11 : decode cX11_force 11 = .ok (.bipush 60, 2) := by decide +kernel
theorem dX11_force_13 : decode cX11_force 13 = .ok (.invokestatic 134, 3) := by decide +kernel
theorem dX11_force_16 : decode cX11_force 16 = .ok (.ifCond .eq 21, 3) := by decide +kernel
theorem dX11_force_19 : decode cX11_force 19 = .ok (.aload_n 0, 1) := by decide +kernel
theorem dX11_force_20 : decode cX11_force 20 = .ok (.iload_n 3, 1) := by decide +kernel
theorem dX11_force_21 : decode cX11_force 21 = .ok (.invokevirtual 160, 3) := by decide +kernel
theorem dX11_force_24 : decode cX11_force 24 = .ok (.ifCond .eq 13, 3) := by decide +kernel
theorem dX11_force_27 : decode cX11_force 27 = .ok (.aload_n 0, 1) := by decide +kernel
theorem dX11_force_28 : decode cX11_force 28 = .ok (.iload_n 1, 1) := by decide +kernel
theorem dX11_force_29 : decode cX11_force 29 = .ok (.iload_n 2, 1) := by decide +kernel
theorem dX11_force_30 : decode cX11_force 30 = .ok (.iload_n 3, 1) := by decide +kernel
theorem dX11_force_31 : decode cX11_force 31 = .ok (.invokevirtual 180, 3) := by decide +kernel
theorem dX11_force_34 : decode cX11_force 34 = .ok (.goto 4, 3) := by decide +kernel
theorem dX11_force_37 : decode cX11_force 37 = .ok (.iconst (-1), 1) := by decide +kernel
theorem dX11_force_38 : decode cX11_force 38 = .ok (.ireturn, 1) := by decide +kernel
theorem dX11_lot_0 : decode cX11_lot 0 = .ok (.aload_n 0, 1) := by decide +kernel
theorem dX11_lot_1 : decode cX11_lot 1 = .ok (.getfield 138, 3) := by decide +kernel
theorem dX11_lot_4 : decode cX11_lot 4 = .ok (.istore_n 3, 1) := by decide +kernel
theorem dX11_lot_5 : decode cX11_lot 5 = .ok (.aload_n 0, 1) := by decide +kernel
theorem dX11_lot_6 : decode cX11_lot 6 = .ok (.dup, 1) := by decide +kernel
theorem dX11_lot_7 : decode cX11_lot 7 = .ok (.getfield 138, 3) := by decide +kernel
theorem dX11_lot_10 : decode cX11_lot 10 = .ok (.iconst 1, 1) := by decide +kernel
theorem dX11_lot_11 : decode cX11_lot 11 = .ok (.iadd, 1) := by decide +kernel
theorem dX11_lot_12 : decode cX11_lot 12 = .ok (.putfield 138, 3) := by decide +kernel
theorem dX11_lot_15 : decode cX11_lot 15 = .ok (.aload_n 0, 1) := by decide +kernel
theorem dX11_lot_16 : decode cX11_lot 16 = .ok (.getfield 46, 3) := by decide +kernel
theorem dX11_lot_19 : decode cX11_lot 19 = .ok (.iload_n 3, 1) := by decide +kernel
theorem dX11_lot_20 : decode cX11_lot 20 = .ok (.iload_n 1, 1) := by decide +kernel
theorem dX11_lot_21 : decode cX11_lot 21 = .ok (.iastore, 1) := by decide +kernel
theorem dX11_lot_22 : decode cX11_lot 22 = .ok (.aload_n 0, 1) := by decide +kernel
theorem dX11_lot_23 : decode cX11_lot 23 = .ok (.getfield 49, 3) := by decide +kernel
theorem dX11_lot_26 : decode cX11_lot 26 = .ok (.iload_n 3, 1) := by decide +kernel
theorem dX11_lot_27 : decode cX11_lot 27 = .ok (.iload_n 2, 1) := by decide +kernel
theorem dX11_lot_28 : decode cX11_lot 28 = .ok (.iastore, 1) := by decide +kernel
theorem dX11_lot_29 : decode cX11_lot 29 = .ok (.aload_n 0, 1) := by decide +kernel
theorem dX11_lot_30 : decode cX11_lot 30 = .ok (.getfield 52, 3) := by decide +kernel
theorem dX11_lot_33 : decode cX11_lot 33 = .ok (.iload_n 3, 1) := by decide +kernel
theorem dX11_lot_34 : decode cX11_lot 34 = .ok (.iconst 0, 1) := by decide +kernel
theorem dX11_lot_35 : decode cX11_lot 35 = .ok (.iastore, 1) := by decide +kernel
theorem dX11_lot_36 : decode cX11_lot 36 = .ok (.aload_n 0, 1) := by decide +kernel
theorem dX11_lot_37 : decode cX11_lot 37 = .ok (.getfield 55, 3) := by decide +kernel
theorem dX11_lot_40 : decode cX11_lot 40 = .ok (.iload_n 3, 1) := by decide +kernel
theorem dX11_lot_41 : decode cX11_lot 41 = .ok (.aload_n 0, 1) := by decide +kernel
theorem dX11_lot_42 : decode cX11_lot 42 = .ok (.getfield 141, 3) := by decide +kernel
theorem dX11_lot_45 : decode cX11_lot 45 = .ok (.iastore, 1) := by decide +kernel
theorem dX11_lot_46 : decode cX11_lot 46 = .ok (.aload_n 0, 1) := by decide +kernel
theorem dX11_lot_47 : decode cX11_lot 47 = .ok (.getfield 58, 3) := by decide +kernel
theorem dX11_lot_50 : decode cX11_lot 50 = .ok (.iload_n 3, 1) := by decide +kernel
theorem dX11_lot_51 : decode cX11_lot 51 = .ok (.iconst (-1), 1) := by decide +kernel
theorem dX11_lot_52 : decode cX11_lot 52 = .ok (.iastore, 1) := by decide +kernel
theorem dX11_lot_53 : decode cX11_lot 53 = .ok (.aload_n 0, 1) := by decide +kernel
theorem dX11_lot_54 : decode cX11_lot 54 = .ok (.getfield 61, 3) := by decide +kernel
theorem dX11_lot_57 : decode cX11_lot 57 = .ok (.iload_n 3, 1) := by decide +kernel
theorem dX11_lot_58 : decode cX11_lot 58 = .ok (.iconst (-1), 1) := by decide +kernel
theorem dX11_lot_59 : decode cX11_lot 59 = .ok (.iastore, 1) := by decide +kernel
theorem dX11_lot_60 : decode cX11_lot 60 = .ok (.aload_n 0, 1) := by decide +kernel
theorem dX11_lot_61 : decode cX11_lot 61 = .ok (.getfield 64, 3) := by decide +kernel
theorem dX11_lot_64 : decode cX11_lot 64 = .ok (.iload_n 3, 1) := by decide +kernel
theorem dX11_lot_65 : decode cX11_lot 65 = .ok (.iconst (-1), 1) := by decide +kernel
theorem dX11_lot_66 : decode cX11_lot 66 = .ok (.iastore, 1) := by decide +kernel
theorem dX11_lot_67 : decode cX11_lot 67 = .ok (.aload_n 0, 1) := by decide +kernel
theorem dX11_lot_68 : decode cX11_lot 68 = .ok (.getfield 67, 3) := by decide +kernel
theorem dX11_lot_71 : decode cX11_lot 71 = .ok (.iload_n 3, 1) := by decide +kernel
theorem dX11_lot_72 : decode cX11_lot 72 = .ok (.iconst (-1), 1) := by decide +kernel
theorem dX11_lot_73 : decode cX11_lot 73 = .ok (.iastore, 1) := by decide +kernel
theorem dX11_lot_74 : decode cX11_lot 74 = .ok (.aload_n 0, 1) := by decide +kernel
theorem dX11_lot_75 : decode cX11_lot 75 = .ok (.getfield 82, 3) := by decide +kernel
theorem dX11_lot_78 : decode cX11_lot 78 = .ok (.iload_n 3, 1) := by decide +kernel
theorem dX11_lot_79 : decode cX11_lot 79 = .ok (.iconst (-1), 1) := by decide +kernel
theorem dX11_lot_80 : decode cX11_lot 80 = .ok (.iastore, 1) := by decide +kernel
theorem dX11_lot_81 : decode cX11_lot 81 = .ok (.iload_n 3, 1) := by decide +kernel
theorem dX11_lot_82 : decode cX11_lot 82 = .ok (.ireturn, 1) := by decide +kernel
theorem dX11_tube_0 : decode cX11_tube 0 = .ok (.iload_n 1, 1) := by decide +kernel
theorem dX11_tube_1 : decode cX11_tube 1 = .ok (.iconst 1, 1) := by decide +kernel
theorem dX11_tube_2 : decode cX11_tube 2 = .ok (.iconst 4, 1) := by decide +kernel
theorem dX11_tube_3 : decode cX11_tube 3 = .ok (.invokestatic 134, 3) := by decide +kernel
theorem dX11_tube_6 : decode cX11_tube 6 = .ok (.ifCond .eq 13, 3) := by decide +kernel
theorem dX11_tube_9 : decode cX11_tube 9 = .ok (.aload_n 0, 1) := by decide +kernel
theorem dX11_tube_10 : decode cX11_tube 10 = .ok (.getfield 138, 3) := by decide +kernel
theorem dX11_tube_13 : decode cX11_tube 13 = .ok (.sipush 200, 3) := by decide +kernel
theorem dX11_tube_16 : decode cX11_tube 16 = .ok (.if_icmp .ne 5, 3) := by decide +kernel
theorem dX11_tube_19 : decode cX11_tube 19 = .ok (.iconst (-1), 1) := by decide +kernel
theorem dX11_tube_20 : decode cX11_tube 20 = .ok (.ireturn, 1) := by decide +kernel
theorem dX11_tube_21 : decode cX11_tube 21 = .ok (.aload_n 0, 1) := by decide +kernel
theorem dX11_tube_22 : decode cX11_tube 22 = .ok (.iconst 0, 1) := by decide +kernel
theorem dX11_tube_23 : decode cX11_tube 23 = .ok (.iload_n 1, 1) := by decide +kernel
theorem dX11_tube_24 : decode cX11_tube 24 = .ok (.invokevirtual 183, 3) := by decide +kernel
theorem dX11_tube_27 : decode cX11_tube 27 = .ok (.istore_n 2, 1) := by decide +kernel
theorem dX11_tube_28 : decode cX11_tube 28 = .ok (.aload_n 0, 1) := by decide +kernel
theorem dX11_tube_29 : decode cX11_tube 29 = .ok (.getfield 52, 3) := by decide +kernel
theorem dX11_tube_32 : decode cX11_tube 32 = .ok (.iload_n 2, 1) := by decide +kernel
theorem dX11_tube_33 : decode cX11_tube 33 = .ok (.bipush 100, 2) := by decide +kernel
theorem dX11_tube_35 : decode cX11_tube 35 = .ok (.iastore, 1) := by decide +kernel
theorem dX11_tube_36 : decode cX11_tube 36 = .ok (.aload_n 0, 1) := by decide +kernel
theorem dX11_tube_37 : decode cX11_tube 37 = .ok (.getfield 67, 3) := by decide +kernel
theorem dX11_tube_40 : decode cX11_tube 40 = .ok (.iload_n 2, 1) := by decide +kernel
theorem dX11_tube_41 : decode cX11_tube 41 = .ok (.bipush 100, 2) := by decide +kernel
theorem dX11_tube_43 : decode cX11_tube 43 = .ok (.iastore, 1) := by decide +kernel
theorem dX11_tube_44 : decode cX11_tube 44 = .ok (.iload_n 2, 1) := by decide +kernel
theorem dX11_tube_45 : decode cX11_tube 45 = .ok (.ireturn, 1) := by decide +kernel
theorem dX11_sow_0 : decode cX11_sow 0 = .ok (.aload_n 0, 1) := by decide +kernel
theorem dX11_sow_1 : decode cX11_sow 1 = .ok (.iload_n 1, 1) := by decide +kernel
theorem dX11_sow_2 : decode cX11_sow 2 = .ok (.invokevirtual 186, 3) := by decide +kernel
theorem dX11_sow_5 : decode cX11_sow 5 = .ok (.ifCond .eq 30, 3) := by decide +kernel
theorem dX11_sow_8 : decode cX11_sow 8 = .ok (.aload_n 0, 1) := by decide +kernel
theorem dX11_sow_9 : decode cX11_sow 9 = .ok (.iload_n 2, 1) := by decide +kernel
theorem dX11_sow_10 : decode cX11_sow 10 = .ok (.invokevirtual 153, 3) := by decide +kernel
theorem dX11_sow_13 : decode cX11_sow 13 = .ok (.ifCond .eq 22, 3) := by decide +kernel
theorem dX11_sow_16 : decode cX11_sow 16 = .ok (.iload_n 3, 1) := by decide +kernel
theorem dX11_sow_17 : decode cX11_sow 17 = .ok (.iconst 1, 1) := by decide +kernel
theorem dX11_sow_18 : decode cX11_sow 18 = .ok (.if_icmp .lt 17, 3) := by decide +kernel
theorem dX11_sow_21 : decode cX11_sow 21 = .ok (.aload_n 0, 1) := by decide +kernel
theorem dX11_sow_22 : decode cX11_sow 22 = .ok (.getfield 138, 3) := by decide +kernel
theorem dX11_sow_25 : decode cX11_sow 25 = .ok (.sipush 200, 3) := by decide +kernel
theorem dX11_sow_28 : decode cX11_sow 28 = .ok (.if_icmp .ge 7, 3) := by decide +kernel
theorem dX11_sow_31 : decode cX11_sow 31 = .ok (.iconst 1, 1) := by decide +kernel
theorem dX11_sow_32 : decode cX11_sow 32 = .ok (.goto 4, 3) := by decide +kernel
theorem dX11_sow_35 : decode cX11_sow 35 = .ok (.iconst 0, 1) := by decide +kernel
theorem dX11_sow_36 : decode cX11_sow 36 = .ok (.istore 4, 2) := by decide +kernel
theorem dX11_sow_38 : decode cX11_sow 38 = .ok (.iload 4, 2) := by decide +kernel
theorem dX11_sow_40 : decode cX11_sow 40 = .ok (.ifCond .eq 48, 3) := by decide +kernel
theorem dX11_sow_43 : decode cX11_sow 43 = .ok (.iload_n 3, 1) := by decide +kernel
theorem dX11_sow_44 : decode cX11_sow 44 = .ok (.aload_n 0, 1) := by decide +kernel
theorem dX11_sow_45 : decode cX11_sow 45 = .ok (.getfield 52, 3) := by decide +kernel
theorem dX11_sow_48 : decode cX11_sow 48 = .ok (.iload_n 1, 1) := by decide +kernel
theorem dX11_sow_49 : decode cX11_sow 49 = .ok (.iaload, 1) := by decide +kernel
theorem dX11_sow_50 : decode cX11_sow 50 = .ok (.if_icmp .gt 38, 3) := by decide +kernel
theorem dX11_sow_53 : decode cX11_sow 53 = .ok (.aload_n 0, 1) := by decide +kernel
theorem dX11_sow_54 : decode cX11_sow 54 = .ok (.getfield 46, 3) := by decide +kernel
theorem dX11_sow_57 : decode cX11_sow 57 = .ok (.iload_n 1, 1) := by decide +kernel
theorem dX11_sow_58 : decode cX11_sow 58 = .ok (.iaload, 1) := by decide +kernel
theorem dX11_sow_59 : decode cX11_sow 59 = .ok (.ifCond .eq 16, 3) := by decide +kernel
theorem dX11_sow_62 : decode cX11_sow 62 = .ok (.aload_n 0, 1) := by decide +kernel
theorem dX11_sow_63 : decode cX11_sow 63 = .ok (.getfield 55, 3) := by decide +kernel
theorem dX11_sow_66 : decode cX11_sow 66 = .ok (.iload_n 1, 1) := by decide +kernel
theorem dX11_sow_67 : decode cX11_sow 67 = .ok (.iaload, 1) := by decide +kernel
theorem dX11_sow_68 : decode cX11_sow 68 = .ok (.aload_n 0, 1) := by decide +kernel
theorem dX11_sow_69 : decode cX11_sow 69 = .ok (.getfield 141, 3) := by decide +kernel
theorem dX11_sow_72 : decode cX11_sow 72 = .ok (.if_icmp .eq 16, 3) := by decide +kernel
theorem dX11_sow_75 : decode cX11_sow 75 = .ok (.aload_n 0, 1) := by decide +kernel
theorem dX11_sow_76 : decode cX11_sow 76 = .ok (.iload_n 2, 1) := by decide +kernel
theorem dX11_sow_77 : decode cX11_sow 77 = .ok (.aload_n 0, 1) := by decide +kernel
theorem dX11_sow_78 : decode cX11_sow 78 = .ok (.getfield 141, 3) := by decide +kernel
theorem dX11_sow_81 : decode cX11_sow 81 = .ok (.invokevirtual 166, 3) := by decide +kernel
theorem dX11_sow_84 : decode cX11_sow 84 = .ok (.iconst (-1), 1) := by decide +kernel
theorem dX11_sow_85 : decode cX11_sow 85 = .ok (.if_icmp .eq 5, 3) := by decide +kernel
theorem dX11_sow_88 : decode cX11_sow 88 = .ok (.iconst (-1), 1) := by decide +kernel
theorem dX11_sow_89 : decode cX11_sow 89 = .ok (.ireturn, 1) := by decide +kernel
theorem dX11_sow_90 : decode cX11_sow 90 = .ok (.aload_n 0, 1) := by decide +kernel
theorem dX11_sow_91 : decode cX11_sow 91 = .ok (.iconst 1, 1) := by decide +kernel
theorem dX11_sow_92 : decode cX11_sow 92 = .ok (.aload_n 0, 1) := by decide +kernel
theorem dX11_sow_93 : decode cX11_sow 93 = .ok (.getfield 49, 3) := by decide +kernel
theorem dX11_sow_96 : decode cX11_sow 96 = .ok (.iload_n 1, 1) := by decide +kernel
theorem dX11_sow_97 : decode cX11_sow 97 = .ok (.iaload, 1) := by decide +kernel
theorem dX11_sow_98 : decode cX11_sow 98 = .ok (.invokevirtual 183, 3) := by decide +kernel
theorem dX11_sow_101 : decode cX11_sow 101 = .ok (.istore 5, 2) := by decide +kernel
theorem dX11_sow_103 : decode cX11_sow 103 = .ok (.aload_n 0, 1) := by decide +kernel
theorem dX11_sow_104 : decode cX11_sow 104 = .ok (.getfield 52, 3) := by decide +kernel
theorem dX11_sow_107 : decode cX11_sow 107 = .ok (.iload_n 1, 1) := by decide +kernel
theorem dX11_sow_108 : decode cX11_sow 108 = .ok (.dup2, 1) := by decide +kernel
theorem dX11_sow_109 : decode cX11_sow 109 = .ok (.iaload, 1) := by decide +kernel
theorem dX11_sow_110 : decode cX11_sow 110 = .ok (.iload_n 3, 1) := by decide +kernel
theorem dX11_sow_111 : decode cX11_sow 111 = .ok (.isub, 1) := by decide +kernel
theorem dX11_sow_112 : decode cX11_sow 112 = .ok (.iastore, 1) := by decide +kernel
theorem dX11_sow_113 : decode cX11_sow 113 = .ok (.aload_n 0, 1) := by decide +kernel
theorem dX11_sow_114 : decode cX11_sow 114 = .ok (.getfield 70, 3) := by decide +kernel
theorem dX11_sow_117 : decode cX11_sow 117 = .ok (.iload_n 1, 1) := by decide +kernel
theorem dX11_sow_118 : decode cX11_sow 118 = .ok (.dup2, 1) := by decide +kernel
theorem dX11_sow_119 : decode cX11_sow 119 = .ok (.iaload, 1) := by decide +kernel
theorem dX11_sow_120 : decode cX11_sow 120 = .ok (.iload_n 3, 1) := by decide +kernel
theorem dX11_sow_121 : decode cX11_sow 121 = .ok (.iadd, 1) := by decide +kernel
theorem dX11_sow_122 : decode cX11_sow 122 = .ok (.iastore, 1) := by decide +kernel
theorem dX11_sow_123 : decode cX11_sow 123 = .ok (.aload_n 0, 1) := by decide +kernel
theorem dX11_sow_124 : decode cX11_sow 124 = .ok (.getfield 61, 3) := by decide +kernel
theorem dX11_sow_127 : decode cX11_sow 127 = .ok (.iload 5, 2) := by decide +kernel
theorem dX11_sow_129 : decode cX11_sow 129 = .ok (.iload_n 1, 1) := by decide +kernel
theorem dX11_sow_130 : decode cX11_sow 130 = .ok (.iastore, 1) := by decide +kernel
theorem dX11_sow_131 : decode cX11_sow 131 = .ok (.aload_n 0, 1) := by decide +kernel
theorem dX11_sow_132 : decode cX11_sow 132 = .ok (.getfield 58, 3) := by decide +kernel
theorem dX11_sow_135 : decode cX11_sow 135 = .ok (.iload 5, 2) := by decide +kernel
theorem dX11_sow_137 : decode cX11_sow 137 = .ok (.iload_n 2, 1) := by decide +kernel
theorem dX11_sow_138 : decode cX11_sow 138 = .ok (.iastore, 1) := by decide +kernel
theorem dX11_sow_139 : decode cX11_sow 139 = .ok (.iload 5, 2) := by decide +kernel
theorem dX11_sow_141 : decode cX11_sow 141 = .ok (.ireturn, 1) := by decide +kernel
theorem dX11_harvest_0 : decode cX11_harvest 0 = .ok (.aload_n 0, 1) := by decide +kernel
theorem dX11_harvest_1 : decode cX11_harvest 1 = .ok (.iload_n 1, 1) := by decide +kernel
theorem dX11_harvest_2 : decode cX11_harvest 2 = .ok (.invokevirtual 186, 3) := by decide +kernel
theorem dX11_harvest_5 : decode cX11_harvest 5 = .ok (.ifCond .eq 33, 3) := by decide +kernel
theorem dX11_harvest_8 : decode cX11_harvest 8 = .ok (.aload_n 0, 1) := by decide +kernel
theorem dX11_harvest_9 : decode cX11_harvest 9 = .ok (.getfield 46, 3) := by decide +kernel
theorem dX11_harvest_12 : decode cX11_harvest 12 = .ok (.iload_n 1, 1) := by decide +kernel
theorem dX11_harvest_13 : decode cX11_harvest 13 = .ok (.iaload, 1) := by decide +kernel
theorem dX11_harvest_14 : decode cX11_harvest 14 = .ok (.iconst 1, 1) := by decide +kernel
theorem dX11_harvest_15 : decode cX11_harvest 15 = .ok (.if_icmp .ne 23, 3) := by decide +kernel
theorem dX11_harvest_18 : decode cX11_harvest 18 = .ok (.aload_n 0, 1) := by decide +kernel
theorem dX11_harvest_19 : decode cX11_harvest 19 = .ok (.getfield 67, 3) := by decide +kernel
theorem dX11_harvest_22 : decode cX11_harvest 22 = .ok (.iload_n 1, 1) := by decide +kernel
theorem dX11_harvest_23 : decode cX11_harvest 23 = .ok (.iaload, 1) := by decide +kernel
theorem dX11_harvest_24 : decode cX11_harvest 24 = .ok (.iconst (-1), 1) := by decide +kernel
theorem dX11_harvest_25 : decode cX11_harvest 25 = .ok (.if_icmp .ne 13, 3) := by decide +kernel
theorem dX11_harvest_28 : decode cX11_harvest 28 = .ok (.iload_n 2, 1) := by decide +kernel
theorem dX11_harvest_29 : decode cX11_harvest 29 = .ok (.iconst 1, 1) := by decide +kernel
theorem dX11_harvest_30 : decode cX11_harvest 30 = .ok (.ldc 189, 2) := by decide +kernel
theorem dX11_harvest_32 : decode cX11_harvest 32 = .ok (.invokestatic 134, 3) := by decide +kernel
theorem dX11_harvest_35 : decode cX11_harvest 35 = .ok (.ifCond .ne 5, 3) := by decide +kernel
theorem dX11_harvest_38 : decode cX11_harvest 38 = .ok (.iconst 0, 1) := by decide +kernel
theorem dX11_harvest_39 : decode cX11_harvest 39 = .ok (.ireturn, 1) := by decide +kernel
theorem dX11_harvest_40 : decode cX11_harvest 40 = .ok (.aload_n 0, 1) := by decide +kernel
theorem dX11_harvest_41 : decode cX11_harvest 41 = .ok (.getfield 52, 3) := by decide +kernel
theorem dX11_harvest_44 : decode cX11_harvest 44 = .ok (.iload_n 1, 1) := by decide +kernel
theorem dX11_harvest_45 : decode cX11_harvest 45 = .ok (.iload_n 2, 1) := by decide +kernel
theorem dX11_harvest_46 : decode cX11_harvest 46 = .ok (.iastore, 1) := by decide +kernel
theorem dX11_harvest_47 : decode cX11_harvest 47 = .ok (.aload_n 0, 1) := by decide +kernel
theorem dX11_harvest_48 : decode cX11_harvest 48 = .ok (.getfield 67, 3) := by decide +kernel
theorem dX11_harvest_51 : decode cX11_harvest 51 = .ok (.iload_n 1, 1) := by decide +kernel
theorem dX11_harvest_52 : decode cX11_harvest 52 = .ok (.iload_n 2, 1) := by decide +kernel
theorem dX11_harvest_53 : decode cX11_harvest 53 = .ok (.iastore, 1) := by decide +kernel
theorem dX11_harvest_54 : decode cX11_harvest 54 = .ok (.iconst 1, 1) := by decide +kernel
theorem dX11_harvest_55 : decode cX11_harvest 55 = .ok (.ireturn, 1) := by decide +kernel
theorem dX11_mix_0 : decode cX11_mix 0 = .ok (.aload_n 0, 1) := by decide +kernel
theorem dX11_mix_1 : decode cX11_mix 1 = .ok (.iload_n 1, 1) := by decide +kernel
theorem dX11_mix_2 : decode cX11_mix 2 = .ok (.invokevirtual 186, 3) := by decide +kernel
theorem dX11_mix_5 : decode cX11_mix 5 = .ok (.ifCond .eq 41, 3) := by decide +kernel
theorem dX11_mix_8 : decode cX11_mix 8 = .ok (.aload_n 0, 1) := by decide +kernel
theorem dX11_mix_9 : decode cX11_mix 9 = .ok (.iload_n 3, 1) := by decide +kernel
theorem dX11_mix_10 : decode cX11_mix 10 = .ok (.invokevirtual 186, 3) := by decide +kernel
theorem dX11_mix_13 : decode cX11_mix 13 = .ok (.ifCond .eq 33, 3) := by decide +kernel
theorem dX11_mix_16 : decode cX11_mix 16 = .ok (.iload_n 1, 1) := by decide +kernel
theorem dX11_mix_17 : decode cX11_mix 17 = .ok (.iload_n 3, 1) := by decide +kernel
theorem dX11_mix_18 : decode cX11_mix 18 = .ok (.if_icmp .eq 28, 3) := by decide +kernel
theorem dX11_mix_21 : decode cX11_mix 21 = .ok (.iload_n 2, 1) := by decide +kernel
theorem dX11_mix_22 : decode cX11_mix 22 = .ok (.iconst 1, 1) := by decide +kernel
theorem dX11_mix_23 : decode cX11_mix 23 = .ok (.if_icmp .lt 23, 3) := by decide +kernel
theorem dX11_mix_26 : decode cX11_mix 26 = .ok (.iload 4, 2) := by decide +kernel
theorem dX11_mix_28 : decode cX11_mix 28 = .ok (.iconst 1, 1) := by decide +kernel
theorem dX11_mix_29 : decode cX11_mix 29 = .ok (.if_icmp .lt 17, 3) := by decide +kernel
theorem dX11_mix_32 : decode cX11_mix 32 = .ok (.aload_n 0, 1) := by decide +kernel
theorem dX11_mix_33 : decode cX11_mix 33 = .ok (.getfield 138, 3) := by decide +kernel
theorem dX11_mix_36 : decode cX11_mix 36 = .ok (.sipush 200, 3) := by decide +kernel
theorem dX11_mix_39 : decode cX11_mix 39 = .ok (.if_icmp .ge 7, 3) := by decide +kernel
theorem dX11_mix_42 : decode cX11_mix 42 = .ok (.iconst 1, 1) := by decide +kernel
theorem dX11_mix_43 : decode cX11_mix 43 = .ok (.goto 4, 3) := by decide +kernel
theorem dX11_mix_46 : decode cX11_mix 46 = .ok (.iconst 0, 1) := by decide +kernel
theorem dX11_mix_47 : decode cX11_mix 47 = .ok (.istore 5, 2) := by decide +kernel
theorem dX11_mix_49 : decode cX11_mix 49 = .ok (.iload 5, 2) := by decide +kernel
theorem dX11_mix_51 : decode cX11_mix 51 = .ok (.ifCond .eq 39, 3) := by decide +kernel
theorem dX11_mix_54 : decode cX11_mix 54 = .ok (.aload_n 0, 1) := by decide +kernel
theorem dX11_mix_55 : decode cX11_mix 55 = .ok (.getfield 49, 3) := by decide +kernel
theorem dX11_mix_58 : decode cX11_mix 58 = .ok (.iload_n 1, 1) := by decide +kernel
theorem dX11_mix_59 : decode cX11_mix 59 = .ok (.iaload, 1) := by decide +kernel
theorem dX11_mix_60 : decode cX11_mix 60 = .ok (.aload_n 0, 1) := by decide +kernel
theorem dX11_mix_61 : decode cX11_mix 61 = .ok (.getfield 49, 3) := by decide +kernel
theorem dX11_mix_64 : decode cX11_mix 64 = .ok (.iload_n 3, 1) := by decide +kernel
theorem dX11_mix_65 : decode cX11_mix 65 = .ok (.iaload, 1) := by decide +kernel
theorem dX11_mix_66 : decode cX11_mix 66 = .ok (.if_icmp .ne 24, 3) := by decide +kernel
theorem dX11_mix_69 : decode cX11_mix 69 = .ok (.iload_n 2, 1) := by decide +kernel
theorem dX11_mix_70 : decode cX11_mix 70 = .ok (.aload_n 0, 1) := by decide +kernel
theorem dX11_mix_71 : decode cX11_mix 71 = .ok (.getfield 52, 3) := by decide +kernel
theorem dX11_mix_74 : decode cX11_mix 74 = .ok (.iload_n 1, 1) := by decide +kernel
theorem dX11_mix_75 : decode cX11_mix 75 = .ok (.iaload, 1) := by decide +kernel
theorem dX11_mix_76 : decode cX11_mix 76 = .ok (.if_icmp .gt 14, 3) := by decide +kernel
theorem dX11_mix_79 : decode cX11_mix 79 = .ok (.iload 4, 2) := by decide +kernel
theorem dX11_mix_81 : decode cX11_mix 81 = .ok (.aload_n 0, 1) := by decide +kernel
theorem dX11_mix_82 : decode cX11_mix 82 = .ok (.getfield 52, 3) := by decide +kernel
theorem dX11_mix_85 : decode cX11_mix 85 = .ok (.iload_n 3, 1) := by decide +kernel
theorem dX11_mix_86 : decode cX11_mix 86 = .ok (.iaload, 1) := by decide +kernel
theorem dX11_mix_87 : decode cX11_mix 87 = .ok (.if_icmp .le 5, 3) := by decide +kernel
theorem dX11_mix_90 : decode cX11_mix 90 = .ok (.iconst (-1), 1) := by decide +kernel
theorem dX11_mix_91 : decode cX11_mix 91 = .ok (.ireturn, 1) := by decide +kernel
theorem dX11_mix_92 : decode cX11_mix 92 = .ok (.aload_n 0, 1) := by decide +kernel
theorem dX11_mix_93 : decode cX11_mix 93 = .ok (.iconst 2, 1) := by decide +kernel
theorem dX11_mix_94 : decode cX11_mix 94 = .ok (.aload_n 0, 1) := by decide +kernel
theorem dX11_mix_95 : decode cX11_mix 95 = .ok (.getfield 49, 3) := by decide +kernel
theorem dX11_mix_98 : decode cX11_mix 98 = .ok (.iload_n 1, 1) := by decide +kernel
theorem dX11_mix_99 : decode cX11_mix 99 = .ok (.iaload, 1) := by decide +kernel
theorem dX11_mix_100 : decode cX11_mix 100 = .ok (.invokevirtual 183, 3) := by decide +kernel
theorem dX11_mix_103 : decode cX11_mix 103 = .ok (.istore 6, 2) := by decide +kernel
theorem dX11_mix_105 : decode cX11_mix 105 = .ok (.aload_n 0, 1) := by decide +kernel
theorem dX11_mix_106 : decode cX11_mix 106 = .ok (.getfield 52, 3) := by decide +kernel
theorem dX11_mix_109 : decode cX11_mix 109 = .ok (.iload_n 1, 1) := by decide +kernel
theorem dX11_mix_110 : decode cX11_mix 110 = .ok (.dup2, 1) := by decide +kernel
theorem dX11_mix_111 : decode cX11_mix 111 = .ok (.iaload, 1) := by decide +kernel
theorem dX11_mix_112 : decode cX11_mix 112 = .ok (.iload_n 2, 1) := by decide +kernel
theorem dX11_mix_113 : decode cX11_mix 113 = .ok (.isub, 1) := by decide +kernel
theorem dX11_mix_114 : decode cX11_mix 114 = .ok (.iastore, 1) := by decide +kernel
theorem dX11_mix_115 : decode cX11_mix 115 = .ok (.aload_n 0, 1) := by decide +kernel
theorem dX11_mix_116 : decode cX11_mix 116 = .ok (.getfield 52, 3) := by decide +kernel
theorem dX11_mix_119 : decode cX11_mix 119 = .ok (.iload_n 3, 1) := by decide +kernel
theorem dX11_mix_120 : decode cX11_mix 120 = .ok (.dup2, 1) := by decide +kernel
theorem dX11_mix_121 : decode cX11_mix 121 = .ok (.iaload, 1) := by decide +kernel
theorem dX11_mix_122 : decode cX11_mix 122 = .ok (.iload 4, 2) := by decide +kernel
theorem dX11_mix_124 : decode cX11_mix 124 = .ok (.isub, 1) := by decide +kernel
theorem dX11_mix_125 : decode cX11_mix 125 = .ok (.iastore, 1) := by decide +kernel
theorem dX11_mix_126 : decode cX11_mix 126 = .ok (.aload_n 0, 1) := by decide +kernel
theorem dX11_mix_127 : decode cX11_mix 127 = .ok (.getfield 73, 3) := by decide +kernel
theorem dX11_mix_130 : decode cX11_mix 130 = .ok (.iload_n 1, 1) := by decide +kernel
theorem dX11_mix_131 : decode cX11_mix 131 = .ok (.dup2, 1) := by decide +kernel
theorem dX11_mix_132 : decode cX11_mix 132 = .ok (.iaload, 1) := by decide +kernel
theorem dX11_mix_133 : decode cX11_mix 133 = .ok (.iload_n 2, 1) := by decide +kernel
theorem dX11_mix_134 : decode cX11_mix 134 = .ok (.iadd, 1) := by decide +kernel
theorem dX11_mix_135 : decode cX11_mix 135 = .ok (.iastore, 1) := by decide +kernel
theorem dX11_mix_136 : decode cX11_mix 136 = .ok (.aload_n 0, 1) := by decide +kernel
theorem dX11_mix_137 : decode cX11_mix 137 = .ok (.getfield 73, 3) := by decide +kernel
theorem dX11_mix_140 : decode cX11_mix 140 = .ok (.iload_n 3, 1) := by decide +kernel
theorem dX11_mix_141 : decode cX11_mix 141 = .ok (.dup2, 1) := by decide +kernel
theorem dX11_mix_142 : decode cX11_mix 142 = .ok (.iaload, 1) := by decide +kernel
theorem dX11_mix_143 : decode cX11_mix 143 = .ok (.iload 4, 2) := by decide +kernel
theorem dX11_mix_145 : decode cX11_mix 145 = .ok (.iadd, 1) := by decide +kernel
theorem dX11_mix_146 : decode cX11_mix 146 = .ok (.iastore, 1) := by decide +kernel
theorem dX11_mix_147 : decode cX11_mix 147 = .ok (.aload_n 0, 1) := by decide +kernel
theorem dX11_mix_148 : decode cX11_mix 148 = .ok (.getfield 52, 3) := by decide +kernel
theorem dX11_mix_151 : decode cX11_mix 151 = .ok (.iload 6, 2) := by decide +kernel
theorem dX11_mix_153 : decode cX11_mix 153 = .ok (.iload_n 2, 1) := by decide +kernel
theorem dX11_mix_154 : decode cX11_mix 154 = .ok (.iload 4, 2) := by decide +kernel
theorem dX11_mix_156 : decode cX11_mix 156 = .ok (.iadd, 1) := by decide +kernel
theorem dX11_mix_157 : decode cX11_mix 157 = .ok (.iastore, 1) := by decide +kernel
theorem dX11_mix_158 : decode cX11_mix 158 = .ok (.aload_n 0, 1) := by decide +kernel
theorem dX11_mix_159 : decode cX11_mix 159 = .ok (.getfield 67, 3) := by decide +kernel
theorem dX11_mix_162 : decode cX11_mix 162 = .ok (.iload 6, 2) := by decide +kernel
theorem dX11_mix_164 : decode cX11_mix 164 = .ok (.iload_n 2, 1) := by decide +kernel
theorem dX11_mix_165 : decode cX11_mix 165 = .ok (.iload 4, 2) := by decide +kernel
theorem dX11_mix_167 : decode cX11_mix 167 = .ok (.iadd, 1) := by decide +kernel
theorem dX11_mix_168 : decode cX11_mix 168 = .ok (.iastore, 1) := by decide +kernel
theorem dX11_mix_169 : decode cX11_mix 169 = .ok (.aload_n 0, 1) := by decide +kernel
theorem dX11_mix_170 : decode cX11_mix 170 = .ok (.getfield 61, 3) := by decide +kernel
theorem dX11_mix_173 : decode cX11_mix 173 = .ok (.iload 6, 2) := by decide +kernel
theorem dX11_mix_175 : decode cX11_mix 175 = .ok (.iload_n 1, 1) := by decide +kernel
theorem dX11_mix_176 : decode cX11_mix 176 = .ok (.iastore, 1) := by decide +kernel
theorem dX11_mix_177 : decode cX11_mix 177 = .ok (.aload_n 0, 1) := by decide +kernel
theorem dX11_mix_178 : decode cX11_mix 178 = .ok (.getfield 64, 3) := by decide +kernel
theorem dX11_mix_181 : decode cX11_mix 181 = .ok (.iload 6, 2) := by decide +kernel
theorem dX11_mix_183 : decode cX11_mix 183 = .ok (.iload_n 3, 1) := by decide +kernel
theorem dX11_mix_184 : decode cX11_mix 184 = .ok (.iastore, 1) := by decide +kernel
theorem dX11_mix_185 : decode cX11_mix 185 = .ok (.iload 6, 2) := by decide +kernel
theorem dX11_mix_187 : decode cX11_mix 187 = .ok (.ireturn, 1) := by decide +kernel
theorem dX11_bag_0 : decode cX11_bag 0 = .ok (.aload_n 0, 1) := by decide +kernel
theorem dX11_bag_1 : decode cX11_bag 1 = .ok (.iload_n 1, 1) := by decide +kernel
theorem dX11_bag_2 : decode cX11_bag 2 = .ok (.invokevirtual 186, 3) := by decide +kernel
theorem dX11_bag_5 : decode cX11_bag 5 = .ok (.ifCond .eq 42, 3) := by decide +kernel
theorem dX11_bag_8 : decode cX11_bag 8 = .ok (.iload_n 2, 1) := by decide +kernel
theorem dX11_bag_9 : decode cX11_bag 9 = .ok (.iconst 1, 1) := by decide +kernel
theorem dX11_bag_10 : decode cX11_bag 10 = .ok (.if_icmp .lt 37, 3) := by decide +kernel
theorem dX11_bag_13 : decode cX11_bag 13 = .ok (.iload_n 2, 1) := by decide +kernel
theorem dX11_bag_14 : decode cX11_bag 14 = .ok (.aload_n 0, 1) := by decide +kernel
theorem dX11_bag_15 : decode cX11_bag 15 = .ok (.getfield 52, 3) := by decide +kernel
theorem dX11_bag_18 : decode cX11_bag 18 = .ok (.iload_n 1, 1) := by decide +kernel
theorem dX11_bag_19 : decode cX11_bag 19 = .ok (.iaload, 1) := by decide +kernel
theorem dX11_bag_20 : decode cX11_bag 20 = .ok (.if_icmp .gt 27, 3) := by decide +kernel
theorem dX11_bag_23 : decode cX11_bag 23 = .ok (.aload_n 0, 1) := by decide +kernel
theorem dX11_bag_24 : decode cX11_bag 24 = .ok (.getfield 190, 3) := by decide +kernel
theorem dX11_bag_27 : decode cX11_bag 27 = .ok (.sipush 200, 3) := by decide +kernel
theorem dX11_bag_30 : decode cX11_bag 30 = .ok (.if_icmp .eq 17, 3) := by decide +kernel
theorem dX11_bag_33 : decode cX11_bag 33 = .ok (.aload_n 0, 1) := by decide +kernel
theorem dX11_bag_34 : decode cX11_bag 34 = .ok (.iload_n 1, 1) := by decide +kernel
theorem dX11_bag_35 : decode cX11_bag 35 = .ok (.aload_n 0, 1) := by decide +kernel
theorem dX11_bag_36 : decode cX11_bag 36 = .ok (.getfield 141, 3) := by decide +kernel
theorem dX11_bag_39 : decode cX11_bag 39 = .ok (.invokevirtual 193, 3) := by decide +kernel
theorem dX11_bag_42 : decode cX11_bag 42 = .ok (.bipush 9, 2) := by decide +kernel
theorem dX11_bag_44 : decode cX11_bag 44 = .ok (.if_icmp .ne 5, 3) := by decide +kernel
theorem dX11_bag_47 : decode cX11_bag 47 = .ok (.iconst (-1), 1) := by decide +kernel
theorem dX11_bag_48 : decode cX11_bag 48 = .ok (.ireturn, 1) := by decide +kernel
theorem dX11_bag_49 : decode cX11_bag 49 = .ok (.aload_n 0, 1) := by decide +kernel
theorem dX11_bag_50 : decode cX11_bag 50 = .ok (.getfield 52, 3) := by decide +kernel
theorem dX11_bag_53 : decode cX11_bag 53 = .ok (.iload_n 1, 1) := by decide +kernel
theorem dX11_bag_54 : decode cX11_bag 54 = .ok (.dup2, 1) := by decide +kernel
theorem dX11_bag_55 : decode cX11_bag 55 = .ok (.iaload, 1) := by decide +kernel
theorem dX11_bag_56 : decode cX11_bag 56 = .ok (.iload_n 2, 1) := by decide +kernel
theorem dX11_bag_57 : decode cX11_bag 57 = .ok (.isub, 1) := by decide +kernel
theorem dX11_bag_58 : decode cX11_bag 58 = .ok (.iastore, 1) := by decide +kernel
theorem dX11_bag_59 : decode cX11_bag 59 = .ok (.aload_n 0, 1) := by decide +kernel
theorem dX11_bag_60 : decode cX11_bag 60 = .ok (.getfield 76, 3) := by decide +kernel
theorem dX11_bag_63 : decode cX11_bag 63 = .ok (.iload_n 1, 1) := by decide +kernel
theorem dX11_bag_64 : decode cX11_bag 64 = .ok (.dup2, 1) := by decide +kernel
theorem dX11_bag_65 : decode cX11_bag 65 = .ok (.iaload, 1) := by decide +kernel
theorem dX11_bag_66 : decode cX11_bag 66 = .ok (.iload_n 2, 1) := by decide +kernel
theorem dX11_bag_67 : decode cX11_bag 67 = .ok (.iadd, 1) := by decide +kernel
theorem dX11_bag_68 : decode cX11_bag 68 = .ok (.iastore, 1) := by decide +kernel
theorem dX11_bag_69 : decode cX11_bag 69 = .ok (.aload_n 0, 1) := by decide +kernel
theorem dX11_bag_70 : decode cX11_bag 70 = .ok (.dup, 1) := by decide +kernel
theorem dX11_bag_71 : decode cX11_bag 71 = .ok (.getfield 196, 3) := by decide +kernel
theorem dX11_bag_74 : decode cX11_bag 74 = .ok (.iconst 1, 1) := by decide +kernel
theorem dX11_bag_75 : decode cX11_bag 75 = .ok (.iadd, 1) := by decide +kernel
theorem dX11_bag_76 : decode cX11_bag 76 = .ok (.putfield 196, 3) := by decide +kernel
theorem dX11_bag_79 : decode cX11_bag 79 = .ok (.aload_n 0, 1) := by decide +kernel
theorem dX11_bag_80 : decode cX11_bag 80 = .ok (.getfield 97, 3) := by decide +kernel
theorem dX11_bag_83 : decode cX11_bag 83 = .ok (.aload_n 0, 1) := by decide +kernel
theorem dX11_bag_84 : decode cX11_bag 84 = .ok (.getfield 190, 3) := by decide +kernel
theorem dX11_bag_87 : decode cX11_bag 87 = .ok (.iload_n 1, 1) := by decide +kernel
theorem dX11_bag_88 : decode cX11_bag 88 = .ok (.iastore, 1) := by decide +kernel
theorem dX11_bag_89 : decode cX11_bag 89 = .ok (.aload_n 0, 1) := by decide +kernel
theorem dX11_bag_90 : decode cX11_bag 90 = .ok (.getfield 100, 3) := by decide +kernel
theorem dX11_bag_93 : decode cX11_bag 93 = .ok (.aload_n 0, 1) := by decide +kernel
theorem dX11_bag_94 : decode cX11_bag 94 = .ok (.getfield 190, 3) := by decide +kernel
theorem dX11_bag_97 : decode cX11_bag 97 = .ok (.iload_n 2, 1) := by decide +kernel
theorem dX11_bag_98 : decode cX11_bag 98 = .ok (.iastore, 1) := by decide +kernel
theorem dX11_bag_99 : decode cX11_bag 99 = .ok (.aload_n 0, 1) := by decide +kernel
theorem dX11_bag_100 : decode cX11_bag 100 = .ok (.getfield 103, 3) := by decide +kernel
theorem dX11_bag_103 : decode cX11_bag 103 = .ok (.aload_n 0, 1) := by decide +kernel
theorem dX11_bag_104 : decode cX11_bag 104 = .ok (.getfield 190, 3) := by decide +kernel
theorem dX11_bag_107 : decode cX11_bag 107 = .ok (.aload_n 0, 1) := by decide +kernel
theorem dX11_bag_108 : decode cX11_bag 108 = .ok (.getfield 196, 3) := by decide +kernel
theorem dX11_bag_111 : decode cX11_bag 111 = .ok (.iastore, 1) := by decide +kernel
theorem dX11_bag_112 : decode cX11_bag 112 = .ok (.aload_n 0, 1) := by decide +kernel
theorem dX11_bag_113 : decode cX11_bag 113 = .ok (.getfield 106, 3) := by decide +kernel
theorem dX11_bag_116 : decode cX11_bag 116 = .ok (.aload_n 0, 1) := by decide +kernel
theorem dX11_bag_117 : decode cX11_bag 117 = .ok (.getfield 190, 3) := by decide +kernel
theorem dX11_bag_120 : decode cX11_bag 120 = .ok (.iconst (-1), 1) := by decide +kernel
theorem dX11_bag_121 : decode cX11_bag 121 = .ok (.iastore, 1) := by decide +kernel
theorem dX11_bag_122 : decode cX11_bag 122 = .ok (.aload_n 0, 1) := by decide +kernel
theorem dX11_bag_123 : decode cX11_bag 123 = .ok (.dup, 1) := by decide +kernel
theorem dX11_bag_124 : decode cX11_bag 124 = .ok (.getfield 190, 3) := by decide +kernel
theorem dX11_bag_127 : decode cX11_bag 127 = .ok (.iconst 1, 1) := by decide +kernel
theorem dX11_bag_128 : decode cX11_bag 128 = .ok (.iadd, 1) := by decide +kernel
theorem dX11_bag_129 : decode cX11_bag 129 = .ok (.putfield 190, 3) := by decide +kernel
theorem dX11_bag_132 : decode cX11_bag 132 = .ok (.aload_n 0, 1) := by decide +kernel
theorem dX11_bag_133 : decode cX11_bag 133 = .ok (.getfield 190, 3) := by decide +kernel
theorem dX11_bag_136 : decode cX11_bag 136 = .ok (.iconst 1, 1) := by decide +kernel
theorem dX11_bag_137 : decode cX11_bag 137 = .ok (.isub, 1) := by decide +kernel
theorem dX11_bag_138 : decode cX11_bag 138 = .ok (.ireturn, 1) := by decide +kernel
theorem dX11_isBag_0 : decode cX11_isBag 0 = .ok (.iload_n 1, 1) := by decide +kernel
theorem dX11_isBag_1 : decode cX11_isBag 1 = .ok (.iconst 0, 1) := by decide +kernel
theorem dX11_isBag_2 : decode cX11_isBag 2 = .ok (.aload_n 0, 1) := by decide +kernel
theorem dX11_isBag_3 : decode cX11_isBag 3 = .ok (.getfield 190, 3) := by decide +kernel
theorem dX11_isBag_6 : decode cX11_isBag 6 = .ok (.iconst 1, 1) := by decide +kernel
theorem dX11_isBag_7 : decode cX11_isBag 7 = .ok (.isub, 1) := by decide +kernel
theorem dX11_isBag_8 : decode cX11_isBag 8 = .ok (.invokestatic 134, 3) := by decide +kernel
theorem dX11_isBag_11 : decode cX11_isBag 11 = .ok (.ireturn, 1) := by decide +kernel
theorem dX11_open_0 : decode cX11_open 0 = .ok (.aload_n 0, 1) := by decide +kernel
theorem dX11_open_1 : decode cX11_open 1 = .ok (.iload_n 1, 1) := by decide +kernel
theorem dX11_open_2 : decode cX11_open 2 = .ok (.invokevirtual 199, 3) := by decide +kernel
theorem dX11_open_5 : decode cX11_open 5 = .ok (.ifCond .eq 12, 3) := by decide +kernel
theorem dX11_open_8 : decode cX11_open 8 = .ok (.aload_n 0, 1) := by decide +kernel
theorem dX11_open_9 : decode cX11_open 9 = .ok (.getfield 103, 3) := by decide +kernel
theorem dX11_open_12 : decode cX11_open 12 = .ok (.iload_n 1, 1) := by decide +kernel
theorem dX11_open_13 : decode cX11_open 13 = .ok (.iaload, 1) := by decide +kernel
theorem dX11_open_14 : decode cX11_open 14 = .ok (.ifCond .ne 5, 3) := by decide +kernel
theorem dX11_open_17 : decode cX11_open 17 = .ok (.iconst 0, 1) := by decide +kernel
theorem dX11_open_18 : decode cX11_open 18 = .ok (.ireturn, 1) := by decide +kernel
theorem dX11_open_19 : decode cX11_open 19 = .ok (.aload_n 0, 1) := by decide +kernel
theorem dX11_open_20 : decode cX11_open 20 = .ok (.getfield 103, 3) := by decide +kernel
theorem dX11_open_23 : decode cX11_open 23 = .ok (.iload_n 1, 1) := by decide +kernel
theorem dX11_open_24 : decode cX11_open 24 = .ok (.iconst 0, 1) := by decide +kernel
theorem dX11_open_25 : decode cX11_open 25 = .ok (.iastore, 1) := by decide +kernel
theorem dX11_open_26 : decode cX11_open 26 = .ok (.iconst 1, 1) := by decide +kernel
theorem dX11_open_27 : decode cX11_open 27 = .ok (.ireturn, 1) := by decide +kernel
theorem dX11_seal_0 : decode cX11_seal 0 = .ok (.aload_n 0, 1) := by decide +kernel
theorem dX11_seal_1 : decode cX11_seal 1 = .ok (.iload_n 1, 1) := by decide +kernel
theorem dX11_seal_2 : decode cX11_seal 2 = .ok (.invokevirtual 199, 3) := by decide +kernel
theorem dX11_seal_5 : decode cX11_seal 5 = .ok (.ifCond .eq 41, 3) := by decide +kernel
theorem dX11_seal_8 : decode cX11_seal 8 = .ok (.aload_n 0, 1) := by decide +kernel
theorem dX11_seal_9 : decode cX11_seal 9 = .ok (.getfield 103, 3) := by decide +kernel
theorem dX11_seal_12 : decode cX11_seal 12 = .ok (.iload_n 1, 1) := by decide +kernel
theorem dX11_seal_13 : decode cX11_seal 13 = .ok (.iaload, 1) := by decide +kernel
theorem dX11_seal_14 : decode cX11_seal 14 = .ok (.ifCond .ne 32, 3) := by decide +kernel
theorem dX11_seal_17 : decode cX11_seal 17 = .ok (.aload_n 0, 1) := by decide +kernel
theorem dX11_seal_18 : decode cX11_seal 18 = .ok (.getfield 106, 3) := by decide +kernel
theorem dX11_seal_21 : decode cX11_seal 21 = .ok (.iload_n 1, 1) := by decide +kernel
theorem dX11_seal_22 : decode cX11_seal 22 = .ok (.iaload, 1) := by decide +kernel
theorem dX11_seal_23 : decode cX11_seal 23 = .ok (.iconst (-1), 1) := by decide +kernel
theorem dX11_seal_24 : decode cX11_seal 24 = .ok (.if_icmp .ne 22, 3) := by decide +kernel
theorem dX11_seal_27 : decode cX11_seal 27 = .ok (.aload_n 0, 1) := by decide +kernel
theorem dX11_seal_28 : decode cX11_seal 28 = .ok (.aload_n 0, 1) := by decide +kernel
theorem dX11_seal_29 : decode cX11_seal 29 = .ok (.getfield 97, 3) := by decide +kernel
theorem dX11_seal_32 : decode cX11_seal 32 = .ok (.iload_n 1, 1) := by decide +kernel
theorem dX11_seal_33 : decode cX11_seal 33 = .ok (.iaload, 1) := by decide +kernel
theorem dX11_seal_34 : decode cX11_seal 34 = .ok (.aload_n 0, 1) := by decide +kernel
theorem dX11_seal_35 : decode cX11_seal 35 = .ok (.getfield 141, 3) := by decide +kernel
theorem dX11_seal_38 : decode cX11_seal 38 = .ok (.invokevirtual 193, 3) := by decide +kernel
theorem dX11_seal_41 : decode cX11_seal 41 = .ok (.bipush 9, 2) := by decide +kernel
theorem dX11_seal_43 : decode cX11_seal 43 = .ok (.if_icmp .ne 5, 3) := by decide +kernel
theorem dX11_seal_46 : decode cX11_seal 46 = .ok (.iconst (-1), 1) := by decide +kernel
theorem dX11_seal_47 : decode cX11_seal 47 = .ok (.ireturn, 1) := by decide +kernel
theorem dX11_seal_48 : decode cX11_seal 48 = .ok (.aload_n 0, 1) := by decide +kernel
theorem dX11_seal_49 : decode cX11_seal 49 = .ok (.dup, 1) := by decide +kernel
theorem dX11_seal_50 : decode cX11_seal 50 = .ok (.getfield 196, 3) := by decide +kernel
theorem dX11_seal_53 : decode cX11_seal 53 = .ok (.iconst 1, 1) := by decide +kernel
theorem dX11_seal_54 : decode cX11_seal 54 = .ok (.iadd, 1) := by decide +kernel
theorem dX11_seal_55 : decode cX11_seal 55 = .ok (.putfield 196, 3) := by decide +kernel
theorem dX11_seal_58 : decode cX11_seal 58 = .ok (.aload_n 0, 1) := by decide +kernel
theorem dX11_seal_59 : decode cX11_seal 59 = .ok (.getfield 103, 3) := by decide +kernel
theorem dX11_seal_62 : decode cX11_seal 62 = .ok (.iload_n 1, 1) := by decide +kernel
theorem dX11_seal_63 : decode cX11_seal 63 = .ok (.aload_n 0, 1) := by decide +kernel
theorem dX11_seal_64 : decode cX11_seal 64 = .ok (.getfield 196, 3) := by decide +kernel
theorem dX11_seal_67 : decode cX11_seal 67 = .ok (.iastore, 1) := by decide +kernel
theorem dX11_seal_68 : decode cX11_seal 68 = .ok (.aload_n 0, 1) := by decide +kernel
theorem dX11_seal_69 : decode cX11_seal 69 = .ok (.getfield 196, 3) := by decide +kernel
theorem dX11_seal_72 : decode cX11_seal 72 = .ok (.ireturn, 1) := by decide +kernel
theorem dX11_sell_0 : decode cX11_sell 0 = .ok (.aload_n 0, 1) := by decide +kernel
theorem dX11_sell_1 : decode cX11_sell 1 = .ok (.iload_n 1, 1) := by decide +kernel
theorem dX11_sell_2 : decode cX11_sell 2 = .ok (.invokevirtual 199, 3) := by decide +kernel
theorem dX11_sell_5 : decode cX11_sell 5 = .ok (.ifCond .eq 32, 3) := by decide +kernel
theorem dX11_sell_8 : decode cX11_sell 8 = .ok (.iload_n 2, 1) := by decide +kernel
theorem dX11_sell_9 : decode cX11_sell 9 = .ok (.iconst 0, 1) := by decide +kernel
theorem dX11_sell_10 : decode cX11_sell 10 = .ok (.bipush 19, 2) := by decide +kernel
theorem dX11_sell_12 : decode cX11_sell 12 = .ok (.invokestatic 134, 3) := by decide +kernel
theorem dX11_sell_15 : decode cX11_sell 15 = .ok (.ifCond .eq 22, 3) := by decide +kernel
theorem dX11_sell_18 : decode cX11_sell 18 = .ok (.aload_n 0, 1) := by decide +kernel
theorem dX11_sell_19 : decode cX11_sell 19 = .ok (.getfield 103, 3) := by decide +kernel
theorem dX11_sell_22 : decode cX11_sell 22 = .ok (.iload_n 1, 1) := by decide +kernel
theorem dX11_sell_23 : decode cX11_sell 23 = .ok (.iaload, 1) := by decide +kernel
theorem dX11_sell_24 : decode cX11_sell 24 = .ok (.ifCond .eq 13, 3) := by decide +kernel
theorem dX11_sell_27 : decode cX11_sell 27 = .ok (.aload_n 0, 1) := by decide +kernel
theorem dX11_sell_28 : decode cX11_sell 28 = .ok (.getfield 106, 3) := by decide +kernel
theorem dX11_sell_31 : decode cX11_sell 31 = .ok (.iload_n 1, 1) := by decide +kernel
theorem dX11_sell_32 : decode cX11_sell 32 = .ok (.iaload, 1) := by decide +kernel
theorem dX11_sell_33 : decode cX11_sell 33 = .ok (.iconst (-1), 1) := by decide +kernel
theorem dX11_sell_34 : decode cX11_sell 34 = .ok (.if_icmp .eq 5, 3) := by decide +kernel
theorem dX11_sell_37 : decode cX11_sell 37 = .ok (.iconst 0, 1) := by decide +kernel
theorem dX11_sell_38 : decode cX11_sell 38 = .ok (.ireturn, 1) := by decide +kernel
theorem dX11_sell_39 : decode cX11_sell 39 = .ok (.aload_n 0, 1) := by decide +kernel
theorem dX11_sell_40 : decode cX11_sell 40 = .ok (.getfield 106, 3) := by decide +kernel
theorem dX11_sell_43 : decode cX11_sell 43 = .ok (.iload_n 1, 1) := by decide +kernel
theorem dX11_sell_44 : decode cX11_sell 44 = .ok (.iload_n 2, 1) := by decide +kernel
theorem dX11_sell_45 : decode cX11_sell 45 = .ok (.iastore, 1) := by decide +kernel
theorem dX11_sell_46 : decode cX11_sell 46 = .ok (.iconst 1, 1) := by decide +kernel
theorem dX11_sell_47 : decode cX11_sell 47 = .ok (.ireturn, 1) := by decide +kernel
end
section
theorem dX11_toss_0 : decode cX11_toss 0 = .ok (.aload_n 0, 1) := by decide +kernel
theorem dX11_toss_1 : decode cX11_toss 1 = .ok (.iload_n 1, 1) := by decide +kernel
theorem dX11_toss_2 : decode cX11_toss 2 = .ok (.invokevirtual 186, 3) := by decide +kernel
theorem dX11_toss_5 : decode cX11_toss 5 = .ok (.ifCond .eq 18, 3) := by decide +kernel
theorem dX11_toss_8 : decode cX11_toss 8 = .ok (.iload_n 2, 1) := by decide +kernel
theorem dX11_toss_9 : decode cX11_toss 9 = .ok (.iconst 1, 1) := by decide +kernel
theorem dX11_toss_10 : decode cX11_toss 10 = .ok (.if_icmp .lt 13, 3) := by decide +kernel
theorem dX11_toss_13 : decode cX11_toss 13 = .ok (.iload_n 2, 1) := by decide +kernel
theorem dX11_toss_14 : decode cX11_toss 14 = .ok (.aload_n 0, 1) := by decide +kernel
theorem dX11_toss_15 : decode cX11_toss 15 = .ok (.getfield 52, 3) := by decide +kernel
theorem dX11_toss_18 : decode cX11_toss 18 = .ok (.iload_n 1, 1) := by decide +kernel
theorem dX11_toss_19 : decode cX11_toss 19 = .ok (.iaload, 1) := by decide +kernel
theorem dX11_toss_20 : decode cX11_toss 20 = .ok (.if_icmp .le 5, 3) := by decide +kernel
theorem dX11_toss_23 : decode cX11_toss 23 = .ok (.iconst 0, 1) := by decide +kernel
theorem dX11_toss_24 : decode cX11_toss 24 = .ok (.ireturn, 1) := by decide +kernel
theorem dX11_toss_25 : decode cX11_toss 25 = .ok (.aload_n 0, 1) := by decide +kernel
theorem dX11_toss_26 : decode cX11_toss 26 = .ok (.getfield 52, 3) := by decide +kernel
theorem dX11_toss_29 : decode cX11_toss 29 = .ok (.iload_n 1, 1) := by decide +kernel
theorem dX11_toss_30 : decode cX11_toss 30 = .ok (.dup2, 1) := by decide +kernel
theorem dX11_toss_31 : decode cX11_toss 31 = .ok (.iaload, 1) := by decide +kernel
theorem dX11_toss_32 : decode cX11_toss 32 = .ok (.iload_n 2, 1) := by decide +kernel
theorem dX11_toss_33 : decode cX11_toss 33 = .ok (.isub, 1) := by decide +kernel
theorem dX11_toss_34 : decode cX11_toss 34 = .ok (.iastore, 1) := by decide +kernel
theorem dX11_toss_35 : decode cX11_toss 35 = .ok (.aload_n 0, 1) := by decide +kernel
theorem dX11_toss_36 : decode cX11_toss 36 = .ok (.getfield 79, 3) := by decide +kernel
theorem dX11_toss_39 : decode cX11_toss 39 = .ok (.iload_n 1, 1) := by decide +kernel
theorem dX11_toss_40 : decode cX11_toss 40 = .ok (.dup2, 1) := by decide +kernel
theorem dX11_toss_41 : decode cX11_toss 41 = .ok (.iaload, 1) := by decide +kernel
theorem dX11_toss_42 : decode cX11_toss 42 = .ok (.iload_n 2, 1) := by decide +kernel
theorem dX11_toss_43 : decode cX11_toss 43 = .ok (.iadd, 1) := by decide +kernel
theorem dX11_toss_44 : decode cX11_toss 44 = .ok (.iastore, 1) := by decide +kernel
theorem dX11_toss_45 : decode cX11_toss 45 = .ok (.iconst 1, 1) := by decide +kernel
theorem dX11_toss_46 : decode cX11_toss 46 = .ok (.ireturn, 1) := by decide +kernel
theorem dX11_looksOf_0 : decode cX11_looksOf 0 = .ok (.iconst 0, 1) := by decide +kernel
theorem dX11_looksOf_1 : decode cX11_looksOf 1 = .ok (.istore_n 3, 1) := by decide +kernel
theorem dX11_looksOf_2 : decode cX11_looksOf 2 = .ok (.iconst 0, 1) := by decide +kernel
theorem dX11_looksOf_3 : decode cX11_looksOf 3 = .ok (.istore 4, 2) := by decide +kernel
theorem dX11_looksOf_5 : decode cX11_looksOf 5 = .ok (.iload 4, 2) := by decide +kernel
theorem dX11_looksOf_7 : decode cX11_looksOf 7 = .ok (.aload_n 0, 1) := by decide +kernel
theorem dX11_looksOf_8 : decode cX11_looksOf 8 = .ok (.getfield 202, 3) := by decide +kernel
theorem dX11_looksOf_11 : decode cX11_looksOf 11 = .ok (.if_icmp .ge 39, 3) := by decide +kernel
theorem dX11_looksOf_14 : decode cX11_looksOf 14 = .ok (.iload_n 3, 1) := by decide +kernel
theorem dX11_looksOf_15 : decode cX11_looksOf 15 = .ok (.aload_n 0, 1) := by decide +kernel
theorem dX11_looksOf_16 : decode cX11_looksOf 16 = .ok (.getfield 85, 3) := by decide +kernel
theorem dX11_looksOf_19 : decode cX11_looksOf 19 = .ok (.iload 4, 2) := by decide +kernel
theorem dX11_looksOf_21 : decode cX11_looksOf 21 = .ok (.iaload, 1) := by decide +kernel
theorem dX11_looksOf_22 : decode cX11_looksOf 22 = .ok (.iload_n 1, 1) := by decide +kernel
theorem dX11_looksOf_23 : decode cX11_looksOf 23 = .ok (.if_icmp .ne 18, 3) := by decide +kernel
theorem dX11_looksOf_26 : decode cX11_looksOf 26 = .ok (.aload_n 0, 1) := by decide +kernel
theorem dX11_looksOf_27 : decode cX11_looksOf 27 = .ok (.getfield 94, 3) := by decide +kernel
theorem dX11_looksOf_30 : decode cX11_looksOf 30 = .ok (.iload 4, 2) := by decide +kernel
theorem dX11_looksOf_32 : decode cX11_looksOf 32 = .ok (.iaload, 1) := by decide +kernel
theorem dX11_looksOf_33 : decode cX11_looksOf 33 = .ok (.iload_n 2, 1) := by decide +kernel
theorem dX11_looksOf_34 : decode cX11_looksOf 34 = .ok (.if_icmp .gt 7, 3) := by decide +kernel
theorem dX11_looksOf_37 : decode cX11_looksOf 37 = .ok (.iconst 1, 1) := by decide +kernel
theorem dX11_looksOf_38 : decode cX11_looksOf 38 = .ok (.goto 4, 3) := by decide +kernel
theorem dX11_looksOf_41 : decode cX11_looksOf 41 = .ok (.iconst 0, 1) := by decide +kernel
theorem dX11_looksOf_42 : decode cX11_looksOf 42 = .ok (.iadd, 1) := by decide +kernel
theorem dX11_looksOf_43 : decode cX11_looksOf 43 = .ok (.istore_n 3, 1) := by decide +kernel
theorem dX11_looksOf_44 : decode cX11_looksOf 44 = .ok (.iinc 4 1, 3) := by decide +kernel
theorem dX11_looksOf_47 : decode cX11_looksOf 47 = .ok (.goto (-42), 3) := by decide +kernel
theorem dX11_looksOf_50 : decode cX11_looksOf 50 = .ok (.iload_n 3, 1) := by decide +kernel
theorem dX11_looksOf_51 : decode cX11_looksOf 51 = .ok (.ireturn, 1) := by decide +kernel
theorem dX11_look_0 : decode cX11_look 0 = .ok (.aload_n 0, 1) := by decide +kernel
theorem dX11_look_1 : decode cX11_look 1 = .ok (.iload_n 1, 1) := by decide +kernel
theorem dX11_look_2 : decode cX11_look 2 = .ok (.invokevirtual 186, 3) := by decide +kernel
theorem dX11_look_5 : decode cX11_look 5 = .ok (.ifCond .eq 43, 3) := by decide +kernel
theorem dX11_look_8 : decode cX11_look 8 = .ok (.aload_n 0, 1) := by decide +kernel
theorem dX11_look_9 : decode cX11_look 9 = .ok (.getfield 46, 3) := by decide +kernel
theorem dX11_look_12 : decode cX11_look 12 = .ok (.iload_n 1, 1) := by decide +kernel
theorem dX11_look_13 : decode cX11_look 13 = .ok (.iaload, 1) := by decide +kernel
theorem dX11_look_14 : decode cX11_look 14 = .ok (.iconst 1, 1) := by decide +kernel
theorem dX11_look_15 : decode cX11_look 15 = .ok (.if_icmp .ne 33, 3) := by decide +kernel
theorem dX11_look_18 : decode cX11_look 18 = .ok (.iload_n 2, 1) := by decide +kernel
theorem dX11_look_19 : decode cX11_look 19 = .ok (.iconst 1, 1) := by decide +kernel
theorem dX11_look_20 : decode cX11_look 20 = .ok (.sipush 10000, 3) := by decide +kernel
theorem dX11_look_23 : decode cX11_look 23 = .ok (.invokestatic 134, 3) := by decide +kernel
theorem dX11_look_26 : decode cX11_look 26 = .ok (.ifCond .eq 22, 3) := by decide +kernel
theorem dX11_look_29 : decode cX11_look 29 = .ok (.iload_n 3, 1) := by decide +kernel
theorem dX11_look_30 : decode cX11_look 30 = .ok (.iconst 0, 1) := by decide +kernel
theorem dX11_look_31 : decode cX11_look 31 = .ok (.iload_n 2, 1) := by decide +kernel
theorem dX11_look_32 : decode cX11_look 32 = .ok (.invokestatic 134, 3) := by decide +kernel
theorem dX11_look_35 : decode cX11_look 35 = .ok (.ifCond .eq 13, 3) := by decide +kernel
theorem dX11_look_38 : decode cX11_look 38 = .ok (.aload_n 0, 1) := by decide +kernel
theorem dX11_look_39 : decode cX11_look 39 = .ok (.getfield 202, 3) := by decide +kernel
theorem dX11_look_42 : decode cX11_look 42 = .ok (.sipush 300, 3) := by decide +kernel
theorem dX11_look_45 : decode cX11_look 45 = .ok (.if_icmp .ne 5, 3) := by decide +kernel
theorem dX11_look_48 : decode cX11_look 48 = .ok (.iconst (-1), 1) := by decide +kernel
theorem dX11_look_49 : decode cX11_look 49 = .ok (.ireturn, 1) := by decide +kernel
theorem dX11_look_50 : decode cX11_look 50 = .ok (.aload_n 0, 1) := by decide +kernel
theorem dX11_look_51 : decode cX11_look 51 = .ok (.getfield 85, 3) := by decide +kernel
theorem dX11_look_54 : decode cX11_look 54 = .ok (.aload_n 0, 1) := by decide +kernel
theorem dX11_look_55 : decode cX11_look 55 = .ok (.getfield 202, 3) := by decide +kernel
theorem dX11_look_58 : decode cX11_look 58 = .ok (.iload_n 1, 1) := by decide +kernel
theorem dX11_look_59 : decode cX11_look 59 = .ok (.iastore, 1) := by decide +kernel
theorem dX11_look_60 : decode cX11_look 60 = .ok (.aload_n 0, 1) := by decide +kernel
theorem dX11_look_61 : decode cX11_look 61 = .ok (.getfield 88, 3) := by decide +kernel
theorem dX11_look_64 : decode cX11_look 64 = .ok (.aload_n 0, 1) := by decide +kernel
theorem dX11_look_65 : decode cX11_look 65 = .ok (.getfield 202, 3) := by decide +kernel
theorem dX11_look_68 : decode cX11_look 68 = .ok (.iload_n 2, 1) := by decide +kernel
theorem dX11_look_69 : decode cX11_look 69 = .ok (.iastore, 1) := by decide +kernel
theorem dX11_look_70 : decode cX11_look 70 = .ok (.aload_n 0, 1) := by decide +kernel
theorem dX11_look_71 : decode cX11_look 71 = .ok (.getfield 91, 3) := by decide +kernel
theorem dX11_look_74 : decode cX11_look 74 = .ok (.aload_n 0, 1) := by decide +kernel
theorem dX11_look_75 : decode cX11_look 75 = .ok (.getfield 202, 3) := by decide +kernel
theorem dX11_look_78 : decode cX11_look 78 = .ok (.iload_n 3, 1) := by decide +kernel
theorem dX11_look_79 : decode cX11_look 79 = .ok (.iastore, 1) := by decide +kernel
theorem dX11_look_80 : decode cX11_look 80 = .ok (.aload_n 0, 1) := by decide +kernel
theorem dX11_look_81 : decode cX11_look 81 = .ok (.getfield 94, 3) := by decide +kernel
theorem dX11_look_84 : decode cX11_look 84 = .ok (.aload_n 0, 1) := by decide +kernel
theorem dX11_look_85 : decode cX11_look 85 = .ok (.getfield 202, 3) := by decide +kernel
theorem dX11_look_88 : decode cX11_look 88 = .ok (.aload_n 0, 1) := by decide +kernel
theorem dX11_look_89 : decode cX11_look 89 = .ok (.getfield 141, 3) := by decide +kernel
theorem dX11_look_92 : decode cX11_look 92 = .ok (.iastore, 1) := by decide +kernel
theorem dX11_look_93 : decode cX11_look 93 = .ok (.aload_n 0, 1) := by decide +kernel
theorem dX11_look_94 : decode cX11_look 94 = .ok (.dup, 1) := by decide +kernel
theorem dX11_look_95 : decode cX11_look 95 = .ok (.getfield 202, 3) := by decide +kernel
theorem dX11_look_98 : decode cX11_look 98 = .ok (.iconst 1, 1) := by decide +kernel
theorem dX11_look_99 : decode cX11_look 99 = .ok (.iadd, 1) := by decide +kernel
theorem dX11_look_100 : decode cX11_look 100 = .ok (.putfield 202, 3) := by decide +kernel
theorem dX11_look_103 : decode cX11_look 103 = .ok (.aload_n 0, 1) := by decide +kernel
theorem dX11_look_104 : decode cX11_look 104 = .ok (.iload_n 1, 1) := by decide +kernel
theorem dX11_look_105 : decode cX11_look 105 = .ok (.aload_n 0, 1) := by decide +kernel
theorem dX11_look_106 : decode cX11_look 106 = .ok (.getfield 141, 3) := by decide +kernel
theorem dX11_look_109 : decode cX11_look 109 = .ok (.invokevirtual 205, 3) := by decide +kernel
theorem dX11_look_112 : decode cX11_look 112 = .ok (.ireturn, 1) := by decide +kernel
theorem dX11_drawn_0 : decode cX11_drawn 0 = .ok (.iload_n 1, 1) := by decide +kernel
theorem dX11_drawn_1 : decode cX11_drawn 1 = .ok (.iconst 1, 1) := by decide +kernel
theorem dX11_drawn_2 : decode cX11_drawn 2 = .ok (.sipush 500, 3) := by decide +kernel
theorem dX11_drawn_5 : decode cX11_drawn 5 = .ok (.invokestatic 134, 3) := by decide +kernel
theorem dX11_drawn_8 : decode cX11_drawn 8 = .ok (.ifCond .eq 29, 3) := by decide +kernel
theorem dX11_drawn_11 : decode cX11_drawn 11 = .ok (.iload_n 2, 1) := by decide +kernel
theorem dX11_drawn_12 : decode cX11_drawn 12 = .ok (.iconst 0, 1) := by decide +kernel
theorem dX11_drawn_13 : decode cX11_drawn 13 = .ok (.iload_n 1, 1) := by decide +kernel
theorem dX11_drawn_14 : decode cX11_drawn 14 = .ok (.bipush 40, 2) := by decide +kernel
theorem dX11_drawn_16 : decode cX11_drawn 16 = .ok (.invokestatic 144, 3) := by decide +kernel
theorem dX11_drawn_19 : decode cX11_drawn 19 = .ok (.invokestatic 134, 3) := by decide +kernel
theorem dX11_drawn_22 : decode cX11_drawn 22 = .ok (.ifCond .eq 15, 3) := by decide +kernel
theorem dX11_drawn_25 : decode cX11_drawn 25 = .ok (.iload 5, 2) := by decide +kernel
theorem dX11_drawn_27 : decode cX11_drawn 27 = .ok (.iconst 0, 1) := by decide +kernel
theorem dX11_drawn_28 : decode cX11_drawn 28 = .ok (.iload_n 2, 1) := by decide +kernel
theorem dX11_drawn_29 : decode cX11_drawn 29 = .ok (.iconst 1, 1) := by decide +kernel
theorem dX11_drawn_30 : decode cX11_drawn 30 = .ok (.isub, 1) := by decide +kernel
theorem dX11_drawn_31 : decode cX11_drawn 31 = .ok (.invokestatic 134, 3) := by decide +kernel
theorem dX11_drawn_34 : decode cX11_drawn 34 = .ok (.ifCond .ne 5, 3) := by decide +kernel
theorem dX11_drawn_37 : decode cX11_drawn 37 = .ok (.iconst (-1), 1) := by decide +kernel
theorem dX11_drawn_38 : decode cX11_drawn 38 = .ok (.ireturn, 1) := by decide +kernel
theorem dX11_drawn_39 : decode cX11_drawn 39 = .ok (.iconst 0, 1) := by decide +kernel
theorem dX11_drawn_40 : decode cX11_drawn 40 = .ok (.istore 6, 2) := by decide +kernel
theorem dX11_drawn_42 : decode cX11_drawn 42 = .ok (.iload 6, 2) := by decide +kernel
theorem dX11_drawn_44 : decode cX11_drawn 44 = .ok (.iload_n 1, 1) := by decide +kernel
theorem dX11_drawn_45 : decode cX11_drawn 45 = .ok (.if_icmp .ge 18, 3) := by decide +kernel
theorem dX11_drawn_48 : decode cX11_drawn 48 = .ok (.aload_n 0, 1) := by decide +kernel
theorem dX11_drawn_49 : decode cX11_drawn 49 = .ok (.getfield 112, 3) := by decide +kernel
theorem dX11_drawn_52 : decode cX11_drawn 52 = .ok (.iload 6, 2) := by decide +kernel
theorem dX11_drawn_54 : decode cX11_drawn 54 = .ok (.iload 6, 2) := by decide +kernel
theorem dX11_drawn_56 : decode cX11_drawn 56 = .ok (.iastore, 1) := by decide +kernel
theorem dX11_drawn_57 : decode cX11_drawn 57 = .ok (.iinc 6 1, 3) := by decide +kernel
theorem dX11_drawn_60 : decode cX11_drawn 60 = .ok (.goto (-18), 3) := by decide +kernel
theorem dX11_drawn_63 : decode cX11_drawn 63 = .ok (.lload_n 3, 1) := by decide +kernel
theorem dX11_drawn_64 : decode cX11_drawn 64 = .ok (.lstore 6, 2) := by decide +kernel
theorem dX11_drawn_66 : decode cX11_drawn 66 = .ok (.iconst 0, 1) := by decide +kernel
theorem dX11_drawn_67 : decode cX11_drawn 67 = .ok (.istore 8, 2) := by decide +kernel
theorem dX11_drawn_69 : decode cX11_drawn 69 = .ok (.iload 8, 2) := by decide +kernel
theorem dX11_drawn_71 : decode cX11_drawn 71 = .ok (.iload_n 2, 1) := by decide +kernel
theorem dX11_drawn_72 : decode cX11_drawn 72 = .ok (.if_icmp .ge 70, 3) := by decide +kernel
theorem dX11_drawn_75 : decode cX11_drawn 75 = .ok (.lload 6, 2) := by decide +kernel
theorem dX11_drawn_77 : decode cX11_drawn 77 = .ok (.ldc2_w 208, 3) := by decide +kernel
theorem dX11_drawn_80 : decode cX11_drawn 80 = .ok (.lmul, 1) := by decide +kernel
theorem dX11_drawn_81 : decode cX11_drawn 81 = .ok (.ldc2_w 210, 3) := by decide +kernel
theorem dX11_drawn_84 : decode cX11_drawn 84 = .ok (.ladd, 1) := by decide +kernel
theorem dX11_drawn_85 : decode cX11_drawn 85 = .ok (.lstore 6, 2) := by decide +kernel
theorem dX11_drawn_87 : decode cX11_drawn 87 = .ok (.iload 8, 2) := by decide +kernel
theorem dX11_drawn_89 : decode cX11_drawn 89 = .ok (.lload 6, 2) := by decide +kernel
theorem dX11_drawn_91 : decode cX11_drawn 91 = .ok (.bipush 33, 2) := by decide +kernel
theorem dX11_drawn_93 : decode cX11_drawn 93 = .ok (.lushr, 1) := by decide +kernel
theorem dX11_drawn_94 : decode cX11_drawn 94 = .ok (.iload_n 1, 1) := by decide +kernel
theorem dX11_drawn_95 : decode cX11_drawn 95 = .ok (.iload 8, 2) := by decide +kernel
theorem dX11_drawn_97 : decode cX11_drawn 97 = .ok (.isub, 1) := by decide +kernel
theorem dX11_drawn_98 : decode cX11_drawn 98 = .ok (.i2l, 1) := by decide +kernel
theorem dX11_drawn_99 : decode cX11_drawn 99 = .ok (.lrem, 1) := by decide +kernel
theorem dX11_drawn_100 : decode cX11_drawn 100 = .ok (.l2i, 1) := by decide +kernel
theorem dX11_drawn_101 : decode cX11_drawn 101 = .ok (.iadd, 1) := by decide +kernel
theorem dX11_drawn_102 : decode cX11_drawn 102 = .ok (.istore 9, 2) := by decide +kernel
theorem dX11_drawn_104 : decode cX11_drawn 104 = .ok (.aload_n 0, 1) := by decide +kernel
theorem dX11_drawn_105 : decode cX11_drawn 105 = .ok (.getfield 112, 3) := by decide +kernel
theorem dX11_drawn_108 : decode cX11_drawn 108 = .ok (.iload 8, 2) := by decide +kernel
theorem dX11_drawn_110 : decode cX11_drawn 110 = .ok (.iaload, 1) := by decide +kernel
theorem dX11_drawn_111 : decode cX11_drawn 111 = .ok (.istore 10, 2) := by decide +kernel
theorem dX11_drawn_113 : decode cX11_drawn 113 = .ok (.aload_n 0, 1) := by decide +kernel
theorem dX11_drawn_114 : decode cX11_drawn 114 = .ok (.getfield 112, 3) := by decide +kernel
theorem dX11_drawn_117 : decode cX11_drawn 117 = .ok (.iload 8, 2) := by decide +kernel
theorem dX11_drawn_119 : decode cX11_drawn 119 = .ok (.aload_n 0, 1) := by decide +kernel
theorem dX11_drawn_120 : decode cX11_drawn 120 = .ok (.getfield 112, 3) := by decide +kernel
theorem dX11_drawn_123 : decode cX11_drawn 123 = .ok (.iload 9, 2) := by decide +kernel
theorem dX11_drawn_125 : decode cX11_drawn 125 = .ok (.iaload, 1) := by decide +kernel
theorem dX11_drawn_126 : decode cX11_drawn 126 = .ok (.iastore, 1) := by decide +kernel
theorem dX11_drawn_127 : decode cX11_drawn 127 = .ok (.aload_n 0, 1) := by decide +kernel
theorem dX11_drawn_128 : decode cX11_drawn 128 = .ok (.getfield 112, 3) := by decide +kernel
theorem dX11_drawn_131 : decode cX11_drawn 131 = .ok (.iload 9, 2) := by decide +kernel
theorem dX11_drawn_133 : decode cX11_drawn 133 = .ok (.iload 10, 2) := by decide +kernel
theorem dX11_drawn_135 : decode cX11_drawn 135 = .ok (.iastore, 1) := by decide +kernel
theorem dX11_drawn_136 : decode cX11_drawn 136 = .ok (.iinc 8 1, 3) := by decide +kernel
theorem dX11_drawn_139 : decode cX11_drawn 139 = .ok (.goto (-70), 3) := by decide +kernel
theorem dX11_drawn_142 : decode cX11_drawn 142 = .ok (.aload_n 0, 1) := by decide +kernel
theorem dX11_drawn_143 : decode cX11_drawn 143 = .ok (.getfield 112, 3) := by decide +kernel
theorem dX11_drawn_146 : decode cX11_drawn 146 = .ok (.iload 5, 2) := by decide +kernel
theorem dX11_drawn_148 : decode cX11_drawn 148 = .ok (.iaload, 1) := by decide +kernel
theorem dX11_drawn_149 : decode cX11_drawn 149 = .ok (.ireturn, 1) := by decide +kernel
theorem dX11_prove_0 : decode cX11_prove 0 = .ok (.aload_n 0, 1) := by decide +kernel
theorem dX11_prove_1 : decode cX11_prove 1 = .ok (.iload_n 1, 1) := by decide +kernel
theorem dX11_prove_2 : decode cX11_prove 2 = .ok (.invokevirtual 186, 3) := by decide +kernel
theorem dX11_prove_5 : decode cX11_prove 5 = .ok (.ifCond .eq 13, 3) := by decide +kernel
theorem dX11_prove_8 : decode cX11_prove 8 = .ok (.aload_n 0, 1) := by decide +kernel
theorem dX11_prove_9 : decode cX11_prove 9 = .ok (.getfield 82, 3) := by decide +kernel
theorem dX11_prove_12 : decode cX11_prove 12 = .ok (.iload_n 1, 1) := by decide +kernel
theorem dX11_prove_13 : decode cX11_prove 13 = .ok (.iaload, 1) := by decide +kernel
theorem dX11_prove_14 : decode cX11_prove 14 = .ok (.iconst (-1), 1) := by decide +kernel
theorem dX11_prove_15 : decode cX11_prove 15 = .ok (.if_icmp .eq 5, 3) := by decide +kernel
theorem dX11_prove_18 : decode cX11_prove 18 = .ok (.iconst 0, 1) := by decide +kernel
theorem dX11_prove_19 : decode cX11_prove 19 = .ok (.ireturn, 1) := by decide +kernel
theorem dX11_prove_20 : decode cX11_prove 20 = .ok (.aload_n 0, 1) := by decide +kernel
theorem dX11_prove_21 : decode cX11_prove 21 = .ok (.getfield 82, 3) := by decide +kernel
theorem dX11_prove_24 : decode cX11_prove 24 = .ok (.iload_n 1, 1) := by decide +kernel
theorem dX11_prove_25 : decode cX11_prove 25 = .ok (.aload_n 0, 1) := by decide +kernel
theorem dX11_prove_26 : decode cX11_prove 26 = .ok (.getfield 141, 3) := by decide +kernel
theorem dX11_prove_29 : decode cX11_prove 29 = .ok (.iastore, 1) := by decide +kernel
theorem dX11_prove_30 : decode cX11_prove 30 = .ok (.iconst 1, 1) := by decide +kernel
theorem dX11_prove_31 : decode cX11_prove 31 = .ok (.ireturn, 1) := by decide +kernel
theorem dX11_year_0 : decode cX11_year 0 = .ok (.aload_n 0, 1) := by decide +kernel
theorem dX11_year_1 : decode cX11_year 1 = .ok (.getfield 141, 3) := by decide +kernel
theorem dX11_year_4 : decode cX11_year 4 = .ok (.bipush 40, 2) := by decide +kernel
theorem dX11_year_6 : decode cX11_year 6 = .ok (.if_icmp .ne 5, 3) := by decide +kernel
theorem dX11_year_9 : decode cX11_year 9 = .ok (.iconst (-1), 1) := by decide +kernel
theorem dX11_year_10 : decode cX11_year 10 = .ok (.ireturn, 1) := by decide +kernel
theorem dX11_year_11 : decode cX11_year 11 = .ok (.aload_n 0, 1) := by decide +kernel
theorem dX11_year_12 : decode cX11_year 12 = .ok (.dup, 1) := by decide +kernel
theorem dX11_year_13 : decode cX11_year 13 = .ok (.getfield 141, 3) := by decide +kernel
theorem dX11_year_16 : decode cX11_year 16 = .ok (.iconst 1, 1) := by decide +kernel
theorem dX11_year_17 : decode cX11_year 17 = .ok (.iadd, 1) := by decide +kernel
theorem dX11_year_18 : decode cX11_year 18 = .ok (.putfield 141, 3) := by decide +kernel
theorem dX11_year_21 : decode cX11_year 21 = .ok (.aload_n 0, 1) := by decide +kernel
theorem dX11_year_22 : decode cX11_year 22 = .ok (.getfield 141, 3) := by decide +kernel
theorem dX11_year_25 : decode cX11_year 25 = .ok (.ireturn, 1) := by decide +kernel
theorem dX11_classOf_0 : decode cX11_classOf 0 = .ok (.iconst 0, 1) := by decide +kernel
theorem dX11_classOf_1 : decode cX11_classOf 1 = .ok (.istore_n 3, 1) := by decide +kernel
theorem dX11_classOf_2 : decode cX11_classOf 2 = .ok (.iload_n 3, 1) := by decide +kernel
theorem dX11_classOf_3 : decode cX11_classOf 3 = .ok (.aload_n 0, 1) := by decide +kernel
theorem dX11_classOf_4 : decode cX11_classOf 4 = .ok (.getfield 138, 3) := by decide +kernel
theorem dX11_classOf_7 : decode cX11_classOf 7 = .ok (.if_icmp .ge 78, 3) := by decide +kernel
theorem dX11_classOf_10 : decode cX11_classOf 10 = .ok (.aload_n 0, 1) := by decide +kernel
theorem dX11_classOf_11 : decode cX11_classOf 11 = .ok (.getfield 46, 3) := by decide +kernel
theorem dX11_classOf_14 : decode cX11_classOf 14 = .ok (.iload_n 3, 1) := by decide +kernel
theorem dX11_classOf_15 : decode cX11_classOf 15 = .ok (.iaload, 1) := by decide +kernel
theorem dX11_classOf_16 : decode cX11_classOf 16 = .ok (.ifCond .ne 63, 3) := by decide +kernel
theorem dX11_classOf_19 : decode cX11_classOf 19 = .ok (.aload_n 0, 1) := by decide +kernel
theorem dX11_classOf_20 : decode cX11_classOf 20 = .ok (.getfield 82, 3) := by decide +kernel
theorem dX11_classOf_23 : decode cX11_classOf 23 = .ok (.iload_n 3, 1) := by decide +kernel
theorem dX11_classOf_24 : decode cX11_classOf 24 = .ok (.iaload, 1) := by decide +kernel
theorem dX11_classOf_25 : decode cX11_classOf 25 = .ok (.iconst (-1), 1) := by decide +kernel
theorem dX11_classOf_26 : decode cX11_classOf 26 = .ok (.if_icmp .eq 17, 3) := by decide +kernel
theorem dX11_classOf_29 : decode cX11_classOf 29 = .ok (.aload_n 0, 1) := by decide +kernel
theorem dX11_classOf_30 : decode cX11_classOf 30 = .ok (.getfield 82, 3) := by decide +kernel
theorem dX11_classOf_33 : decode cX11_classOf 33 = .ok (.iload_n 3, 1) := by decide +kernel
theorem dX11_classOf_34 : decode cX11_classOf 34 = .ok (.iaload, 1) := by decide +kernel
theorem dX11_classOf_35 : decode cX11_classOf 35 = .ok (.iload_n 2, 1) := by decide +kernel
theorem dX11_classOf_36 : decode cX11_classOf 36 = .ok (.if_icmp .gt 7, 3) := by decide +kernel
theorem dX11_classOf_39 : decode cX11_classOf 39 = .ok (.iconst 1, 1) := by decide +kernel
theorem dX11_classOf_40 : decode cX11_classOf 40 = .ok (.goto 4, 3) := by decide +kernel
theorem dX11_classOf_43 : decode cX11_classOf 43 = .ok (.iconst 0, 1) := by decide +kernel
theorem dX11_classOf_44 : decode cX11_classOf 44 = .ok (.istore 4, 2) := by decide +kernel
theorem dX11_classOf_46 : decode cX11_classOf 46 = .ok (.aload_n 0, 1) := by decide +kernel
theorem dX11_classOf_47 : decode cX11_classOf 47 = .ok (.getfield 115, 3) := by decide +kernel
theorem dX11_classOf_50 : decode cX11_classOf 50 = .ok (.iload_n 3, 1) := by decide +kernel
theorem dX11_classOf_51 : decode cX11_classOf 51 = .ok (.iload 4, 2) := by decide +kernel
theorem dX11_classOf_53 : decode cX11_classOf 53 = .ok (.ifCond .eq 8, 3) := by decide +kernel
theorem dX11_classOf_56 : decode cX11_classOf 56 = .ok (.bipush 9, 2) := by decide +kernel
theorem dX11_classOf_58 : decode cX11_classOf 58 = .ok (.goto 4, 3) := by decide +kernel
theorem dX11_classOf_61 : decode cX11_classOf 61 = .ok (.iconst 0, 1) := by decide +kernel
theorem dX11_classOf_62 : decode cX11_classOf 62 = .ok (.iastore, 1) := by decide +kernel
theorem dX11_classOf_63 : decode cX11_classOf 63 = .ok (.aload_n 0, 1) := by decide +kernel
theorem dX11_classOf_64 : decode cX11_classOf 64 = .ok (.getfield 118, 3) := by decide +kernel
theorem dX11_classOf_67 : decode cX11_classOf 67 = .ok (.iload_n 3, 1) := by decide +kernel
theorem dX11_classOf_68 : decode cX11_classOf 68 = .ok (.iload 4, 2) := by decide +kernel
theorem dX11_classOf_70 : decode cX11_classOf 70 = .ok (.ifCond .eq 7, 3) := by decide +kernel
theorem dX11_classOf_73 : decode cX11_classOf 73 = .ok (.iconst 5, 1) := by decide +kernel
theorem dX11_classOf_74 : decode cX11_classOf 74 = .ok (.goto 4, 3) := by decide +kernel
theorem dX11_classOf_77 : decode cX11_classOf 77 = .ok (.iconst 0, 1) := by decide +kernel
theorem dX11_classOf_78 : decode cX11_classOf 78 = .ok (.iastore, 1) := by decide +kernel
theorem dX11_classOf_79 : decode cX11_classOf 79 = .ok (.iinc 3 1, 3) := by decide +kernel
theorem dX11_classOf_82 : decode cX11_classOf 82 = .ok (.goto (-80), 3) := by decide +kernel
theorem dX11_classOf_85 : decode cX11_classOf 85 = .ok (.iconst 0, 1) := by decide +kernel
theorem dX11_classOf_86 : decode cX11_classOf 86 = .ok (.istore_n 3, 1) := by decide +kernel
theorem dX11_classOf_87 : decode cX11_classOf 87 = .ok (.iload_n 3, 1) := by decide +kernel
theorem dX11_classOf_88 : decode cX11_classOf 88 = .ok (.aload_n 0, 1) := by decide +kernel
theorem dX11_classOf_89 : decode cX11_classOf 89 = .ok (.getfield 138, 3) := by decide +kernel
theorem dX11_classOf_92 : decode cX11_classOf 92 = .ok (.if_icmp .ge 34, 3) := by decide +kernel
theorem dX11_classOf_95 : decode cX11_classOf 95 = .ok (.aload_n 0, 1) := by decide +kernel
theorem dX11_classOf_96 : decode cX11_classOf 96 = .ok (.getfield 46, 3) := by decide +kernel
theorem dX11_classOf_99 : decode cX11_classOf 99 = .ok (.iload_n 3, 1) := by decide +kernel
theorem dX11_classOf_100 : decode cX11_classOf 100 = .ok (.iaload, 1) := by decide +kernel
theorem dX11_classOf_101 : decode cX11_classOf 101 = .ok (.ifCond .eq 19, 3) := by decide +kernel
theorem dX11_classOf_104 : decode cX11_classOf 104 = .ok (.aload_n 0, 1) := by decide +kernel
theorem dX11_classOf_105 : decode cX11_classOf 105 = .ok (.getfield 55, 3) := by decide +kernel
theorem dX11_classOf_108 : decode cX11_classOf 108 = .ok (.iload_n 3, 1) := by decide +kernel
theorem dX11_classOf_109 : decode cX11_classOf 109 = .ok (.iaload, 1) := by decide +kernel
theorem dX11_classOf_110 : decode cX11_classOf 110 = .ok (.iload_n 2, 1) := by decide +kernel
theorem dX11_classOf_111 : decode cX11_classOf 111 = .ok (.if_icmp .gt 9, 3) := by decide +kernel
theorem dX11_classOf_114 : decode cX11_classOf 114 = .ok (.aload_n 0, 1) := by decide +kernel
theorem dX11_classOf_115 : decode cX11_classOf 115 = .ok (.iload_n 3, 1) := by decide +kernel
theorem dX11_classOf_116 : decode cX11_classOf 116 = .ok (.iload_n 2, 1) := by decide +kernel
theorem dX11_classOf_117 : decode cX11_classOf 117 = .ok (.invokevirtual 212, 3) := by decide +kernel
theorem dX11_classOf_120 : decode cX11_classOf 120 = .ok (.iinc 3 1, 3) := by decide +kernel
theorem dX11_classOf_123 : decode cX11_classOf 123 = .ok (.goto (-36), 3) := by decide +kernel
theorem dX11_classOf_126 : decode cX11_classOf 126 = .ok (.aload_n 0, 1) := by decide +kernel
theorem dX11_classOf_127 : decode cX11_classOf 127 = .ok (.getfield 115, 3) := by decide +kernel
theorem dX11_classOf_130 : decode cX11_classOf 130 = .ok (.iload_n 1, 1) := by decide +kernel
theorem dX11_classOf_131 : decode cX11_classOf 131 = .ok (.iaload, 1) := by decide +kernel
theorem dX11_classOf_132 : decode cX11_classOf 132 = .ok (.ireturn, 1) := by decide +kernel
theorem dX11_judgeOne_0 : decode cX11_judgeOne 0 = .ok (.aload_n 0, 1) := by decide +kernel
theorem dX11_judgeOne_1 : decode cX11_judgeOne 1 = .ok (.getfield 82, 3) := by decide +kernel
theorem dX11_judgeOne_4 : decode cX11_judgeOne 4 = .ok (.iload_n 1, 1) := by decide +kernel
theorem dX11_judgeOne_5 : decode cX11_judgeOne 5 = .ok (.iaload, 1) := by decide +kernel
theorem dX11_judgeOne_6 : decode cX11_judgeOne 6 = .ok (.iconst (-1), 1) := by decide +kernel
theorem dX11_judgeOne_7 : decode cX11_judgeOne 7 = .ok (.if_icmp .eq 17, 3) := by decide +kernel
theorem dX11_judgeOne_10 : decode cX11_judgeOne 10 = .ok (.aload_n 0, 1) := by decide +kernel
theorem dX11_judgeOne_11 : decode cX11_judgeOne 11 = .ok (.getfield 82, 3) := by decide +kernel
theorem dX11_judgeOne_14 : decode cX11_judgeOne 14 = .ok (.iload_n 1, 1) := by decide +kernel
theorem dX11_judgeOne_15 : decode cX11_judgeOne 15 = .ok (.iaload, 1) := by decide +kernel
theorem dX11_judgeOne_16 : decode cX11_judgeOne 16 = .ok (.iload_n 2, 1) := by decide +kernel
theorem dX11_judgeOne_17 : decode cX11_judgeOne 17 = .ok (.if_icmp .gt 7, 3) := by decide +kernel
theorem dX11_judgeOne_20 : decode cX11_judgeOne 20 = .ok (.iconst 5, 1) := by decide +kernel
theorem dX11_judgeOne_21 : decode cX11_judgeOne 21 = .ok (.goto 4, 3) := by decide +kernel
theorem dX11_judgeOne_24 : decode cX11_judgeOne 24 = .ok (.iconst 0, 1) := by decide +kernel
theorem dX11_judgeOne_25 : decode cX11_judgeOne 25 = .ok (.istore_n 3, 1) := by decide +kernel
theorem dX11_judgeOne_26 : decode cX11_judgeOne 26 = .ok (.aload_n 0, 1) := by decide +kernel
theorem dX11_judgeOne_27 : decode cX11_judgeOne 27 = .ok (.getfield 46, 3) := by decide +kernel
theorem dX11_judgeOne_30 : decode cX11_judgeOne 30 = .ok (.iload_n 1, 1) := by decide +kernel
theorem dX11_judgeOne_31 : decode cX11_judgeOne 31 = .ok (.iaload, 1) := by decide +kernel
theorem dX11_judgeOne_32 : decode cX11_judgeOne 32 = .ok (.iconst 2, 1) := by decide +kernel
theorem dX11_judgeOne_33 : decode cX11_judgeOne 33 = .ok (.if_icmp .ne 31, 3) := by decide +kernel
theorem dX11_judgeOne_36 : decode cX11_judgeOne 36 = .ok (.aload_n 0, 1) := by decide +kernel
theorem dX11_judgeOne_37 : decode cX11_judgeOne 37 = .ok (.getfield 115, 3) := by decide +kernel
theorem dX11_judgeOne_40 : decode cX11_judgeOne 40 = .ok (.aload_n 0, 1) := by decide +kernel
theorem dX11_judgeOne_41 : decode cX11_judgeOne 41 = .ok (.getfield 61, 3) := by decide +kernel
theorem dX11_judgeOne_44 : decode cX11_judgeOne 44 = .ok (.iload_n 1, 1) := by decide +kernel
theorem dX11_judgeOne_45 : decode cX11_judgeOne 45 = .ok (.iaload, 1) := by decide +kernel
theorem dX11_judgeOne_46 : decode cX11_judgeOne 46 = .ok (.iaload, 1) := by decide +kernel
theorem dX11_judgeOne_47 : decode cX11_judgeOne 47 = .ok (.aload_n 0, 1) := by decide +kernel
theorem dX11_judgeOne_48 : decode cX11_judgeOne 48 = .ok (.getfield 115, 3) := by decide +kernel
theorem dX11_judgeOne_51 : decode cX11_judgeOne 51 = .ok (.aload_n 0, 1) := by decide +kernel
theorem dX11_judgeOne_52 : decode cX11_judgeOne 52 = .ok (.getfield 64, 3) := by decide +kernel
theorem dX11_judgeOne_55 : decode cX11_judgeOne 55 = .ok (.iload_n 1, 1) := by decide +kernel
theorem dX11_judgeOne_56 : decode cX11_judgeOne 56 = .ok (.iaload, 1) := by decide +kernel
theorem dX11_judgeOne_57 : decode cX11_judgeOne 57 = .ok (.iaload, 1) := by decide +kernel
theorem dX11_judgeOne_58 : decode cX11_judgeOne 58 = .ok (.invokestatic 150, 3) := by decide +kernel
theorem dX11_judgeOne_61 : decode cX11_judgeOne 61 = .ok (.goto 14, 3) := by decide +kernel
theorem dX11_judgeOne_64 : decode cX11_judgeOne 64 = .ok (.aload_n 0, 1) := by decide +kernel
theorem dX11_judgeOne_65 : decode cX11_judgeOne 65 = .ok (.getfield 115, 3) := by decide +kernel
theorem dX11_judgeOne_68 : decode cX11_judgeOne 68 = .ok (.aload_n 0, 1) := by decide +kernel
theorem dX11_judgeOne_69 : decode cX11_judgeOne 69 = .ok (.getfield 61, 3) := by decide +kernel
theorem dX11_judgeOne_72 : decode cX11_judgeOne 72 = .ok (.iload_n 1, 1) := by decide +kernel
theorem dX11_judgeOne_73 : decode cX11_judgeOne 73 = .ok (.iaload, 1) := by decide +kernel
theorem dX11_judgeOne_74 : decode cX11_judgeOne 74 = .ok (.iaload, 1) := by decide +kernel
theorem dX11_judgeOne_75 : decode cX11_judgeOne 75 = .ok (.istore 4, 2) := by decide +kernel
theorem dX11_judgeOne_77 : decode cX11_judgeOne 77 = .ok (.iload_n 3, 1) := by decide +kernel
theorem dX11_judgeOne_78 : decode cX11_judgeOne 78 = .ok (.ifCond .ne 13, 3) := by decide +kernel
theorem dX11_judgeOne_81 : decode cX11_judgeOne 81 = .ok (.iload 4, 2) := by decide +kernel
theorem dX11_judgeOne_83 : decode cX11_judgeOne 83 = .ok (.bipush 9, 2) := by decide +kernel
theorem dX11_judgeOne_85 : decode cX11_judgeOne 85 = .ok (.if_icmp .ne 6, 3) := by decide +kernel
theorem dX11_judgeOne_88 : decode cX11_judgeOne 88 = .ok (.bipush 7, 2) := by decide +kernel
theorem dX11_judgeOne_90 : decode cX11_judgeOne 90 = .ok (.istore_n 3, 1) := by decide +kernel
theorem dX11_judgeOne_91 : decode cX11_judgeOne 91 = .ok (.iload_n 3, 1) := by decide +kernel
theorem dX11_judgeOne_92 : decode cX11_judgeOne 92 = .ok (.ifCond .ne 20, 3) := by decide +kernel
theorem dX11_judgeOne_95 : decode cX11_judgeOne 95 = .ok (.aload_n 0, 1) := by decide +kernel
theorem dX11_judgeOne_96 : decode cX11_judgeOne 96 = .ok (.getfield 46, 3) := by decide +kernel
theorem dX11_judgeOne_99 : decode cX11_judgeOne 99 = .ok (.iload_n 1, 1) := by decide +kernel
theorem dX11_judgeOne_100 : decode cX11_judgeOne 100 = .ok (.iaload, 1) := by decide +kernel
theorem dX11_judgeOne_101 : decode cX11_judgeOne 101 = .ok (.iconst 1, 1) := by decide +kernel
theorem dX11_judgeOne_102 : decode cX11_judgeOne 102 = .ok (.if_icmp .ne 10, 3) := by decide +kernel
theorem dX11_judgeOne_105 : decode cX11_judgeOne 105 = .ok (.aload_n 0, 1) := by decide +kernel
theorem dX11_judgeOne_106 : decode cX11_judgeOne 106 = .ok (.iload_n 1, 1) := by decide +kernel
theorem dX11_judgeOne_107 : decode cX11_judgeOne 107 = .ok (.iload_n 2, 1) := by decide +kernel
theorem dX11_judgeOne_108 : decode cX11_judgeOne 108 = .ok (.invokevirtual 216, 3) := by decide +kernel
theorem dX11_judgeOne_111 : decode cX11_judgeOne 111 = .ok (.istore_n 3, 1) := by decide +kernel
theorem dX11_judgeOne_112 : decode cX11_judgeOne 112 = .ok (.aload_n 0, 1) := by decide +kernel
theorem dX11_judgeOne_113 : decode cX11_judgeOne 113 = .ok (.getfield 118, 3) := by decide +kernel
theorem dX11_judgeOne_116 : decode cX11_judgeOne 116 = .ok (.iload_n 1, 1) := by decide +kernel
theorem dX11_judgeOne_117 : decode cX11_judgeOne 117 = .ok (.iload_n 3, 1) := by decide +kernel
theorem dX11_judgeOne_118 : decode cX11_judgeOne 118 = .ok (.iastore, 1) := by decide +kernel
theorem dX11_judgeOne_119 : decode cX11_judgeOne 119 = .ok (.aload_n 0, 1) := by decide +kernel
theorem dX11_judgeOne_120 : decode cX11_judgeOne 120 = .ok (.getfield 115, 3) := by decide +kernel
theorem dX11_judgeOne_123 : decode cX11_judgeOne 123 = .ok (.iload_n 1, 1) := by decide +kernel
theorem dX11_judgeOne_124 : decode cX11_judgeOne 124 = .ok (.iload_n 3, 1) := by decide +kernel
theorem dX11_judgeOne_125 : decode cX11_judgeOne 125 = .ok (.ifCond .le 8, 3) := by decide +kernel
theorem dX11_judgeOne_128 : decode cX11_judgeOne 128 = .ok (.bipush 9, 2) := by decide +kernel
theorem dX11_judgeOne_130 : decode cX11_judgeOne 130 = .ok (.goto 22, 3) := by decide +kernel
theorem dX11_judgeOne_133 : decode cX11_judgeOne 133 = .ok (.aload_n 0, 1) := by decide +kernel
theorem dX11_judgeOne_134 : decode cX11_judgeOne 134 = .ok (.getfield 46, 3) := by decide +kernel
theorem dX11_judgeOne_137 : decode cX11_judgeOne 137 = .ok (.iload_n 1, 1) := by decide +kernel
theorem dX11_judgeOne_138 : decode cX11_judgeOne 138 = .ok (.iaload, 1) := by decide +kernel
theorem dX11_judgeOne_139 : decode cX11_judgeOne 139 = .ok (.iconst 2, 1) := by decide +kernel
theorem dX11_judgeOne_140 : decode cX11_judgeOne 140 = .ok (.if_icmp .ne 8, 3) := by decide +kernel
theorem dX11_judgeOne_143 : decode cX11_judgeOne 143 = .ok (.iload 4, 2) := by decide +kernel
theorem dX11_judgeOne_145 : decode cX11_judgeOne 145 = .ok (.goto 7, 3) := by decide +kernel
theorem dX11_judgeOne_148 : decode cX11_judgeOne 148 = .ok (.iload 4, 2) := by decide +kernel
theorem dX11_judgeOne_150 : decode cX11_judgeOne 150 = .ok (.iconst 1, 1) := by decide +kernel
theorem dX11_judgeOne_151 : decode cX11_judgeOne 151 = .ok (.iadd, 1) := by decide +kernel
theorem dX11_judgeOne_152 : decode cX11_judgeOne 152 = .ok (.iastore, 1) := by decide +kernel
theorem dX11_judgeOne_153 : decode cX11_judgeOne 153 = .ok (.return_, 1) := by decide +kernel
theorem dX11_wrongField_0 : decode cX11_wrongField 0 = .ok (.aload_n 0, 1) := by decide +kernel
theorem dX11_wrongField_1 : decode cX11_wrongField 1 = .ok (.getfield 55, 3) := by decide +kernel
theorem dX11_wrongField_4 : decode cX11_wrongField 4 = .ok (.iload_n 1, 1) := by decide +kernel
theorem dX11_wrongField_5 : decode cX11_wrongField 5 = .ok (.iaload, 1) := by decide +kernel
theorem dX11_wrongField_6 : decode cX11_wrongField 6 = .ok (.istore_n 3, 1) := by decide +kernel
theorem dX11_wrongField_7 : decode cX11_wrongField 7 = .ok (.aload_n 0, 1) := by decide +kernel
theorem dX11_wrongField_8 : decode cX11_wrongField 8 = .ok (.iconst 0, 1) := by decide +kernel
theorem dX11_wrongField_9 : decode cX11_wrongField 9 = .ok (.iload_n 3, 1) := by decide +kernel
theorem dX11_wrongField_10 : decode cX11_wrongField 10 = .ok (.iload_n 2, 1) := by decide +kernel
theorem dX11_wrongField_11 : decode cX11_wrongField 11 = .ok (.invokevirtual 180, 3) := by decide +kernel
theorem dX11_wrongField_14 : decode cX11_wrongField 14 = .ok (.istore 4, 2) := by decide +kernel
theorem dX11_wrongField_16 : decode cX11_wrongField 16 = .ok (.iconst 0, 1) := by decide +kernel
theorem dX11_wrongField_17 : decode cX11_wrongField 17 = .ok (.istore 5, 2) := by decide +kernel
theorem dX11_wrongField_19 : decode cX11_wrongField 19 = .ok (.iload 5, 2) := by decide +kernel
theorem dX11_wrongField_21 : decode cX11_wrongField 21 = .ok (.aload_n 0, 1) := by decide +kernel
theorem dX11_wrongField_22 : decode cX11_wrongField 22 = .ok (.getfield 130, 3) := by decide +kernel
theorem dX11_wrongField_25 : decode cX11_wrongField 25 = .ok (.if_icmp .ge 100, 3) := by decide +kernel
theorem dX11_wrongField_28 : decode cX11_wrongField 28 = .ok (.iload 5, 2) := by decide +kernel
theorem dX11_wrongField_30 : decode cX11_wrongField 30 = .ok (.aload_n 0, 1) := by decide +kernel
theorem dX11_wrongField_31 : decode cX11_wrongField 31 = .ok (.getfield 58, 3) := by decide +kernel
theorem dX11_wrongField_34 : decode cX11_wrongField 34 = .ok (.iload_n 1, 1) := by decide +kernel
theorem dX11_wrongField_35 : decode cX11_wrongField 35 = .ok (.iaload, 1) := by decide +kernel
theorem dX11_wrongField_36 : decode cX11_wrongField 36 = .ok (.if_icmp .eq 83, 3) := by decide +kernel
theorem dX11_wrongField_39 : decode cX11_wrongField 39 = .ok (.aload_n 0, 1) := by decide +kernel
theorem dX11_wrongField_40 : decode cX11_wrongField 40 = .ok (.iload 5, 2) := by decide +kernel
theorem dX11_wrongField_42 : decode cX11_wrongField 42 = .ok (.iload_n 3, 1) := by decide +kernel
theorem dX11_wrongField_43 : decode cX11_wrongField 43 = .ok (.iload_n 2, 1) := by decide +kernel
theorem dX11_wrongField_44 : decode cX11_wrongField 44 = .ok (.invokevirtual 169, 3) := by decide +kernel
theorem dX11_wrongField_47 : decode cX11_wrongField 47 = .ok (.aload_n 0, 1) := by decide +kernel
theorem dX11_wrongField_48 : decode cX11_wrongField 48 = .ok (.getfield 49, 3) := by decide +kernel
theorem dX11_wrongField_51 : decode cX11_wrongField 51 = .ok (.iload_n 1, 1) := by decide +kernel
theorem dX11_wrongField_52 : decode cX11_wrongField 52 = .ok (.iaload, 1) := by decide +kernel
theorem dX11_wrongField_53 : decode cX11_wrongField 53 = .ok (.if_icmp .ne 66, 3) := by decide +kernel
theorem dX11_wrongField_56 : decode cX11_wrongField 56 = .ok (.aload_n 0, 1) := by decide +kernel
theorem dX11_wrongField_57 : decode cX11_wrongField 57 = .ok (.iload 5, 2) := by decide +kernel
theorem dX11_wrongField_59 : decode cX11_wrongField 59 = .ok (.aload_n 0, 1) := by decide +kernel
theorem dX11_wrongField_60 : decode cX11_wrongField 60 = .ok (.getfield 58, 3) := by decide +kernel
theorem dX11_wrongField_63 : decode cX11_wrongField 63 = .ok (.iload_n 1, 1) := by decide +kernel
theorem dX11_wrongField_64 : decode cX11_wrongField 64 = .ok (.iaload, 1) := by decide +kernel
theorem dX11_wrongField_65 : decode cX11_wrongField 65 = .ok (.invokevirtual 157, 3) := by decide +kernel
theorem dX11_wrongField_68 : decode cX11_wrongField 68 = .ok (.iload 4, 2) := by decide +kernel
theorem dX11_wrongField_70 : decode cX11_wrongField 70 = .ok (.iload 4, 2) := by decide +kernel
theorem dX11_wrongField_72 : decode cX11_wrongField 72 = .ok (.imul, 1) := by decide +kernel
theorem dX11_wrongField_73 : decode cX11_wrongField 73 = .ok (.if_icmp .ge 46, 3) := by decide +kernel
theorem dX11_wrongField_76 : decode cX11_wrongField 76 = .ok (.aload_n 0, 1) := by decide +kernel
theorem dX11_wrongField_77 : decode cX11_wrongField 77 = .ok (.iload 5, 2) := by decide +kernel
theorem dX11_wrongField_79 : decode cX11_wrongField 79 = .ok (.iload_n 3, 1) := by decide +kernel
theorem dX11_wrongField_80 : decode cX11_wrongField 80 = .ok (.invokevirtual 166, 3) := by decide +kernel
theorem dX11_wrongField_83 : decode cX11_wrongField 83 = .ok (.istore 6, 2) := by decide +kernel
theorem dX11_wrongField_85 : decode cX11_wrongField 85 = .ok (.iload 6, 2) := by decide +kernel
theorem dX11_wrongField_87 : decode cX11_wrongField 87 = .ok (.iconst (-1), 1) := by decide +kernel
theorem dX11_wrongField_88 : decode cX11_wrongField 88 = .ok (.if_icmp .eq 29, 3) := by decide +kernel
theorem dX11_wrongField_91 : decode cX11_wrongField 91 = .ok (.aload_n 0, 1) := by decide +kernel
theorem dX11_wrongField_92 : decode cX11_wrongField 92 = .ok (.getfield 115, 3) := by decide +kernel
theorem dX11_wrongField_95 : decode cX11_wrongField 95 = .ok (.aload_n 0, 1) := by decide +kernel
theorem dX11_wrongField_96 : decode cX11_wrongField 96 = .ok (.getfield 61, 3) := by decide +kernel
theorem dX11_wrongField_99 : decode cX11_wrongField 99 = .ok (.iload 6, 2) := by decide +kernel
theorem dX11_wrongField_101 : decode cX11_wrongField 101 = .ok (.iaload, 1) := by decide +kernel
theorem dX11_wrongField_102 : decode cX11_wrongField 102 = .ok (.iaload, 1) := by decide +kernel
theorem dX11_wrongField_103 : decode cX11_wrongField 103 = .ok (.aload_n 0, 1) := by decide +kernel
theorem dX11_wrongField_104 : decode cX11_wrongField 104 = .ok (.getfield 115, 3) := by decide +kernel
theorem dX11_wrongField_107 : decode cX11_wrongField 107 = .ok (.aload_n 0, 1) := by decide +kernel
theorem dX11_wrongField_108 : decode cX11_wrongField 108 = .ok (.getfield 61, 3) := by decide +kernel
theorem dX11_wrongField_111 : decode cX11_wrongField 111 = .ok (.iload_n 1, 1) := by decide +kernel
theorem dX11_wrongField_112 : decode cX11_wrongField 112 = .ok (.iaload, 1) := by decide +kernel
theorem dX11_wrongField_113 : decode cX11_wrongField 113 = .ok (.iaload, 1) := by decide +kernel
theorem dX11_wrongField_114 : decode cX11_wrongField 114 = .ok (.if_icmp .le 5, 3) := by decide +kernel
theorem dX11_wrongField_117 : decode cX11_wrongField 117 = .ok (.iconst 1, 1) := by decide +kernel
theorem dX11_wrongField_118 : decode cX11_wrongField 118 = .ok (.ireturn, 1) := by decide +kernel
theorem dX11_wrongField_119 : decode cX11_wrongField 119 = .ok (.iinc 5 1, 3) := by decide +kernel
theorem dX11_wrongField_122 : decode cX11_wrongField 122 = .ok (.goto (-103), 3) := by decide +kernel
theorem dX11_wrongField_125 : decode cX11_wrongField 125 = .ok (.aload_n 0, 1) := by decide +kernel
theorem dX11_wrongField_126 : decode cX11_wrongField 126 = .ok (.iconst 1, 1) := by decide +kernel
theorem dX11_wrongField_127 : decode cX11_wrongField 127 = .ok (.iload_n 3, 1) := by decide +kernel
theorem dX11_wrongField_128 : decode cX11_wrongField 128 = .ok (.iload_n 2, 1) := by decide +kernel
theorem dX11_wrongField_129 : decode cX11_wrongField 129 = .ok (.invokevirtual 180, 3) := by decide +kernel
theorem dX11_wrongField_132 : decode cX11_wrongField 132 = .ok (.istore 5, 2) := by decide +kernel
theorem dX11_wrongField_134 : decode cX11_wrongField 134 = .ok (.iconst 1, 1) := by decide +kernel
theorem dX11_wrongField_135 : decode cX11_wrongField 135 = .ok (.istore 6, 2) := by decide +kernel
theorem dX11_wrongField_137 : decode cX11_wrongField 137 = .ok (.iload 6, 2) := by decide +kernel
theorem dX11_wrongField_139 : decode cX11_wrongField 139 = .ok (.iload 5, 2) := by decide +kernel
theorem dX11_wrongField_141 : decode cX11_wrongField 141 = .ok (.if_icmp .gt 41, 3) := by decide +kernel
theorem dX11_wrongField_144 : decode cX11_wrongField 144 = .ok (.iload 6, 2) := by decide +kernel
theorem dX11_wrongField_146 : decode cX11_wrongField 146 = .ok (.iload_n 3, 1) := by decide +kernel
theorem dX11_wrongField_147 : decode cX11_wrongField 147 = .ok (.if_icmp .gt 35, 3) := by decide +kernel
theorem dX11_wrongField_150 : decode cX11_wrongField 150 = .ok (.aload_n 0, 1) := by decide +kernel
theorem dX11_wrongField_151 : decode cX11_wrongField 151 = .ok (.aload_n 0, 1) := by decide +kernel
theorem dX11_wrongField_152 : decode cX11_wrongField 152 = .ok (.getfield 58, 3) := by decide +kernel
theorem dX11_wrongField_155 : decode cX11_wrongField 155 = .ok (.iload_n 1, 1) := by decide +kernel
theorem dX11_wrongField_156 : decode cX11_wrongField 156 = .ok (.iaload, 1) := by decide +kernel
theorem dX11_wrongField_157 : decode cX11_wrongField 157 = .ok (.iload_n 3, 1) := by decide +kernel
theorem dX11_wrongField_158 : decode cX11_wrongField 158 = .ok (.iload 6, 2) := by decide +kernel
theorem dX11_wrongField_160 : decode cX11_wrongField 160 = .ok (.isub, 1) := by decide +kernel
theorem dX11_wrongField_161 : decode cX11_wrongField 161 = .ok (.iload_n 2, 1) := by decide +kernel
theorem dX11_wrongField_162 : decode cX11_wrongField 162 = .ok (.invokevirtual 169, 3) := by decide +kernel
theorem dX11_wrongField_165 : decode cX11_wrongField 165 = .ok (.aload_n 0, 1) := by decide +kernel
theorem dX11_wrongField_166 : decode cX11_wrongField 166 = .ok (.getfield 49, 3) := by decide +kernel
theorem dX11_wrongField_169 : decode cX11_wrongField 169 = .ok (.iload_n 1, 1) := by decide +kernel
theorem dX11_wrongField_170 : decode cX11_wrongField 170 = .ok (.iaload, 1) := by decide +kernel
theorem dX11_wrongField_171 : decode cX11_wrongField 171 = .ok (.if_icmp .ne 5, 3) := by decide +kernel
theorem dX11_wrongField_174 : decode cX11_wrongField 174 = .ok (.iconst 2, 1) := by decide +kernel
theorem dX11_wrongField_175 : decode cX11_wrongField 175 = .ok (.ireturn, 1) := by decide +kernel
theorem dX11_wrongField_176 : decode cX11_wrongField 176 = .ok (.iinc 6 1, 3) := by decide +kernel
theorem dX11_wrongField_179 : decode cX11_wrongField 179 = .ok (.goto (-42), 3) := by decide +kernel
theorem dX11_wrongField_182 : decode cX11_wrongField 182 = .ok (.aload_n 0, 1) := by decide +kernel
theorem dX11_wrongField_183 : decode cX11_wrongField 183 = .ok (.iload_n 1, 1) := by decide +kernel
theorem dX11_wrongField_184 : decode cX11_wrongField 184 = .ok (.iload_n 2, 1) := by decide +kernel
theorem dX11_wrongField_185 : decode cX11_wrongField 185 = .ok (.invokevirtual 205, 3) := by decide +kernel
theorem dX11_wrongField_188 : decode cX11_wrongField 188 = .ok (.aload_n 0, 1) := by decide +kernel
theorem dX11_wrongField_189 : decode cX11_wrongField 189 = .ok (.iconst 2, 1) := by decide +kernel
theorem dX11_wrongField_190 : decode cX11_wrongField 190 = .ok (.iload_n 3, 1) := by decide +kernel
theorem dX11_wrongField_191 : decode cX11_wrongField 191 = .ok (.iload_n 2, 1) := by decide +kernel
theorem dX11_wrongField_192 : decode cX11_wrongField 192 = .ok (.invokevirtual 180, 3) := by decide +kernel
theorem dX11_wrongField_195 : decode cX11_wrongField 195 = .ok (.if_icmp .ge 5, 3) := by decide +kernel
theorem dX11_wrongField_198 : decode cX11_wrongField 198 = .ok (.iconst 3, 1) := by decide +kernel
theorem dX11_wrongField_199 : decode cX11_wrongField 199 = .ok (.ireturn, 1) := by decide +kernel
theorem dX11_wrongField_200 : decode cX11_wrongField 200 = .ok (.lconst 0, 1) := by decide +kernel
theorem dX11_wrongField_201 : decode cX11_wrongField 201 = .ok (.lstore 6, 2) := by decide +kernel
theorem dX11_wrongField_203 : decode cX11_wrongField 203 = .ok (.lconst 0, 1) := by decide +kernel
theorem dX11_wrongField_204 : decode cX11_wrongField 204 = .ok (.lstore 8, 2) := by decide +kernel
theorem dX11_wrongField_206 : decode cX11_wrongField 206 = .ok (.iconst 0, 1) := by decide +kernel
theorem dX11_wrongField_207 : decode cX11_wrongField 207 = .ok (.istore 10, 2) := by decide +kernel
theorem dX11_wrongField_209 : decode cX11_wrongField 209 = .ok (.iload 10, 2) := by decide +kernel
theorem dX11_wrongField_211 : decode cX11_wrongField 211 = .ok (.aload_n 0, 1) := by decide +kernel
theorem dX11_wrongField_212 : decode cX11_wrongField 212 = .ok (.getfield 202, 3) := by decide +kernel
theorem dX11_wrongField_215 : decode cX11_wrongField 215 = .ok (.if_icmp .ge 57, 3) := by decide +kernel
theorem dX11_wrongField_218 : decode cX11_wrongField 218 = .ok (.aload_n 0, 1) := by decide +kernel
theorem dX11_wrongField_219 : decode cX11_wrongField 219 = .ok (.getfield 85, 3) := by decide +kernel
theorem dX11_wrongField_222 : decode cX11_wrongField 222 = .ok (.iload 10, 2) := by decide +kernel
theorem dX11_wrongField_224 : decode cX11_wrongField 224 = .ok (.iaload, 1) := by decide +kernel
theorem dX11_wrongField_225 : decode cX11_wrongField 225 = .ok (.iload_n 1, 1) := by decide +kernel
theorem dX11_wrongField_226 : decode cX11_wrongField 226 = .ok (.if_icmp .ne 40, 3) := by decide +kernel
theorem dX11_wrongField_229 : decode cX11_wrongField 229 = .ok (.aload_n 0, 1) := by decide +kernel
theorem dX11_wrongField_230 : decode cX11_wrongField 230 = .ok (.getfield 94, 3) := by decide +kernel
theorem dX11_wrongField_233 : decode cX11_wrongField 233 = .ok (.iload 10, 2) := by decide +kernel
theorem dX11_wrongField_235 : decode cX11_wrongField 235 = .ok (.iaload, 1) := by decide +kernel
theorem dX11_wrongField_236 : decode cX11_wrongField 236 = .ok (.iload_n 2, 1) := by decide +kernel
theorem dX11_wrongField_237 : decode cX11_wrongField 237 = .ok (.if_icmp .gt 29, 3) := by decide +kernel
theorem dX11_wrongField_240 : decode cX11_wrongField 240 = .ok (.lload 6, 2) := by decide +kernel
theorem dX11_wrongField_242 : decode cX11_wrongField 242 = .ok (.aload_n 0, 1) := by decide +kernel
theorem dX11_wrongField_243 : decode cX11_wrongField 243 = .ok (.getfield 88, 3) := by decide +kernel
theorem dX11_wrongField_246 : decode cX11_wrongField 246 = .ok (.iload 10, 2) := by decide +kernel
theorem dX11_wrongField_248 : decode cX11_wrongField 248 = .ok (.iaload, 1) := by decide +kernel
theorem dX11_wrongField_249 : decode cX11_wrongField 249 = .ok (.i2l, 1) := by decide +kernel
theorem dX11_wrongField_250 : decode cX11_wrongField 250 = .ok (.ladd, 1) := by decide +kernel
theorem dX11_wrongField_251 : decode cX11_wrongField 251 = .ok (.lstore 6, 2) := by decide +kernel
theorem dX11_wrongField_253 : decode cX11_wrongField 253 = .ok (.lload 8, 2) := by decide +kernel
theorem dX11_wrongField_255 : decode cX11_wrongField 255 = .ok (.aload_n 0, 1) := by decide +kernel
theorem dX11_wrongField_256 : decode cX11_wrongField 256 = .ok (.getfield 91, 3) := by decide +kernel
theorem dX11_wrongField_259 : decode cX11_wrongField 259 = .ok (.iload 10, 2) := by decide +kernel
theorem dX11_wrongField_261 : decode cX11_wrongField 261 = .ok (.iaload, 1) := by decide +kernel
theorem dX11_wrongField_262 : decode cX11_wrongField 262 = .ok (.i2l, 1) := by decide +kernel
theorem dX11_wrongField_263 : decode cX11_wrongField 263 = .ok (.ladd, 1) := by decide +kernel
theorem dX11_wrongField_264 : decode cX11_wrongField 264 = .ok (.lstore 8, 2) := by decide +kernel
theorem dX11_wrongField_266 : decode cX11_wrongField 266 = .ok (.iinc 10 1, 3) := by decide +kernel
theorem dX11_wrongField_269 : decode cX11_wrongField 269 = .ok (.goto (-60), 3) := by decide +kernel
theorem dX11_wrongField_272 : decode cX11_wrongField 272 = .ok (.ldc2_w 219, 3) := by decide +kernel
theorem dX11_wrongField_275 : decode cX11_wrongField 275 = .ok (.lload 8, 2) := by decide +kernel
theorem dX11_wrongField_277 : decode cX11_wrongField 277 = .ok (.lmul, 1) := by decide +kernel
theorem dX11_wrongField_278 : decode cX11_wrongField 278 = .ok (.aload_n 0, 1) := by decide +kernel
theorem dX11_wrongField_279 : decode cX11_wrongField 279 = .ok (.iconst 3, 1) := by decide +kernel
theorem dX11_wrongField_280 : decode cX11_wrongField 280 = .ok (.iload_n 3, 1) := by decide +kernel
theorem dX11_wrongField_281 : decode cX11_wrongField 281 = .ok (.iload_n 2, 1) := by decide +kernel
theorem dX11_wrongField_282 : decode cX11_wrongField 282 = .ok (.invokevirtual 180, 3) := by decide +kernel
theorem dX11_wrongField_285 : decode cX11_wrongField 285 = .ok (.i2l, 1) := by decide +kernel
theorem dX11_wrongField_286 : decode cX11_wrongField 286 = .ok (.lload 6, 2) := by decide +kernel
theorem dX11_wrongField_288 : decode cX11_wrongField 288 = .ok (.lmul, 1) := by decide +kernel
theorem dX11_wrongField_289 : decode cX11_wrongField 289 = .ok (.lcmp, 1) := by decide +kernel
theorem dX11_wrongField_290 : decode cX11_wrongField 290 = .ok (.ifCond .le 5, 3) := by decide +kernel
theorem dX11_wrongField_293 : decode cX11_wrongField 293 = .ok (.iconst 4, 1) := by decide +kernel
theorem dX11_wrongField_294 : decode cX11_wrongField 294 = .ok (.ireturn, 1) := by decide +kernel
theorem dX11_wrongField_295 : decode cX11_wrongField 295 = .ok (.aload_n 0, 1) := by decide +kernel
theorem dX11_wrongField_296 : decode cX11_wrongField 296 = .ok (.getfield 115, 3) := by decide +kernel
theorem dX11_wrongField_299 : decode cX11_wrongField 299 = .ok (.aload_n 0, 1) := by decide +kernel
theorem dX11_wrongField_300 : decode cX11_wrongField 300 = .ok (.getfield 61, 3) := by decide +kernel
theorem dX11_wrongField_303 : decode cX11_wrongField 303 = .ok (.iload_n 1, 1) := by decide +kernel
theorem dX11_wrongField_304 : decode cX11_wrongField 304 = .ok (.iaload, 1) := by decide +kernel
theorem dX11_wrongField_305 : decode cX11_wrongField 305 = .ok (.iaload, 1) := by decide +kernel
theorem dX11_wrongField_306 : decode cX11_wrongField 306 = .ok (.iconst 1, 1) := by decide +kernel
theorem dX11_wrongField_307 : decode cX11_wrongField 307 = .ok (.iadd, 1) := by decide +kernel
theorem dX11_wrongField_308 : decode cX11_wrongField 308 = .ok (.aload_n 0, 1) := by decide +kernel
theorem dX11_wrongField_309 : decode cX11_wrongField 309 = .ok (.iconst 4, 1) := by decide +kernel
theorem dX11_wrongField_310 : decode cX11_wrongField 310 = .ok (.iload_n 3, 1) := by decide +kernel
theorem dX11_wrongField_311 : decode cX11_wrongField 311 = .ok (.iload_n 2, 1) := by decide +kernel
theorem dX11_wrongField_312 : decode cX11_wrongField 312 = .ok (.invokevirtual 180, 3) := by decide +kernel
theorem dX11_wrongField_315 : decode cX11_wrongField 315 = .ok (.if_icmp .le 8, 3) := by decide +kernel
theorem dX11_wrongField_318 : decode cX11_wrongField 318 = .ok (.bipush 6, 2) := by decide +kernel
theorem dX11_wrongField_320 : decode cX11_wrongField 320 = .ok (.goto 4, 3) := by decide +kernel
theorem dX11_wrongField_323 : decode cX11_wrongField 323 = .ok (.iconst 0, 1) := by decide +kernel
theorem dX11_wrongField_324 : decode cX11_wrongField 324 = .ok (.ireturn, 1) := by decide +kernel
theorem dX11_isJudged_0 : decode cX11_isJudged 0 = .ok (.aload_n 0, 1) := by decide +kernel
theorem dX11_isJudged_1 : decode cX11_isJudged 1 = .ok (.iload_n 1, 1) := by decide +kernel
theorem dX11_isJudged_2 : decode cX11_isJudged 2 = .ok (.invokevirtual 186, 3) := by decide +kernel
theorem dX11_isJudged_5 : decode cX11_isJudged 5 = .ok (.ifCond .eq 24, 3) := by decide +kernel
theorem dX11_isJudged_8 : decode cX11_isJudged 8 = .ok (.iload_n 2, 1) := by decide +kernel
theorem dX11_isJudged_9 : decode cX11_isJudged 9 = .ok (.aload_n 0, 1) := by decide +kernel
theorem dX11_isJudged_10 : decode cX11_isJudged 10 = .ok (.getfield 55, 3) := by decide +kernel
theorem dX11_isJudged_13 : decode cX11_isJudged 13 = .ok (.iload_n 1, 1) := by decide +kernel
theorem dX11_isJudged_14 : decode cX11_isJudged 14 = .ok (.iaload, 1) := by decide +kernel
theorem dX11_isJudged_15 : decode cX11_isJudged 15 = .ok (.aload_n 0, 1) := by decide +kernel
theorem dX11_isJudged_16 : decode cX11_isJudged 16 = .ok (.getfield 141, 3) := by decide +kernel
theorem dX11_isJudged_19 : decode cX11_isJudged 19 = .ok (.invokestatic 134, 3) := by decide +kernel
theorem dX11_isJudged_22 : decode cX11_isJudged 22 = .ok (.ifCond .eq 7, 3) := by decide +kernel
theorem dX11_isJudged_25 : decode cX11_isJudged 25 = .ok (.iconst 1, 1) := by decide +kernel
theorem dX11_isJudged_26 : decode cX11_isJudged 26 = .ok (.goto 4, 3) := by decide +kernel
theorem dX11_isJudged_29 : decode cX11_isJudged 29 = .ok (.iconst 0, 1) := by decide +kernel
theorem dX11_isJudged_30 : decode cX11_isJudged 30 = .ok (.ireturn, 1) := by decide +kernel
theorem dX11_judge_0 : decode cX11_judge 0 = .ok (.aload_n 0, 1) := by decide +kernel
theorem dX11_judge_1 : decode cX11_judge 1 = .ok (.iload_n 1, 1) := by decide +kernel
theorem dX11_judge_2 : decode cX11_judge 2 = .ok (.iload_n 2, 1) := by decide +kernel
theorem dX11_judge_3 : decode cX11_judge 3 = .ok (.invokevirtual 221, 3) := by decide +kernel
theorem dX11_judge_6 : decode cX11_judge 6 = .ok (.ifCond .eq 12, 3) := by decide +kernel
theorem dX11_judge_9 : decode cX11_judge 9 = .ok (.aload_n 0, 1) := by decide +kernel
theorem dX11_judge_10 : decode cX11_judge 10 = .ok (.iload_n 1, 1) := by decide +kernel
theorem dX11_judge_11 : decode cX11_judge 11 = .ok (.iload_n 2, 1) := by decide +kernel
theorem dX11_judge_12 : decode cX11_judge 12 = .ok (.invokevirtual 193, 3) := by decide +kernel
theorem dX11_judge_15 : decode cX11_judge 15 = .ok (.goto 4, 3) := by decide +kernel
theorem dX11_judge_18 : decode cX11_judge 18 = .ok (.iconst (-1), 1) := by decide +kernel
theorem dX11_judge_19 : decode cX11_judge 19 = .ok (.ireturn, 1) := by decide +kernel
theorem dX11_why_0 : decode cX11_why 0 = .ok (.aload_n 0, 1) := by decide +kernel
theorem dX11_why_1 : decode cX11_why 1 = .ok (.iload_n 1, 1) := by decide +kernel
theorem dX11_why_2 : decode cX11_why 2 = .ok (.iload_n 2, 1) := by decide +kernel
theorem dX11_why_3 : decode cX11_why 3 = .ok (.invokevirtual 221, 3) := by decide +kernel
theorem dX11_why_6 : decode cX11_why 6 = .ok (.ifCond .ne 5, 3) := by decide +kernel
theorem dX11_why_9 : decode cX11_why 9 = .ok (.iconst (-1), 1) := by decide +kernel
theorem dX11_why_10 : decode cX11_why 10 = .ok (.ireturn, 1) := by decide +kernel
theorem dX11_why_11 : decode cX11_why 11 = .ok (.aload_n 0, 1) := by decide +kernel
theorem dX11_why_12 : decode cX11_why 12 = .ok (.iload_n 1, 1) := by decide +kernel
theorem dX11_why_13 : decode cX11_why 13 = .ok (.iload_n 2, 1) := by decide +kernel
theorem dX11_why_14 : decode cX11_why 14 = .ok (.invokevirtual 193, 3) := by decide +kernel
theorem dX11_why_17 : decode cX11_why 17 = .ok (.pop, 1) := by decide +kernel
theorem dX11_why_18 : decode cX11_why 18 = .ok (.aload_n 0, 1) := by decide +kernel
theorem dX11_why_19 : decode cX11_why 19 = .ok (.getfield 118, 3) := by decide +kernel
theorem dX11_why_22 : decode cX11_why 22 = .ok (.iload_n 1, 1) := by decide +kernel
theorem dX11_why_23 : decode cX11_why 23 = .ok (.iaload, 1) := by decide +kernel
theorem dX11_why_24 : decode cX11_why 24 = .ok (.ireturn, 1) := by decide +kernel
theorem dX11_rowsTo_0 : decode cX11_rowsTo 0 = .ok (.iconst 0, 1) := by decide +kernel
theorem dX11_rowsTo_1 : decode cX11_rowsTo 1 = .ok (.istore_n 2, 1) := by decide +kernel
theorem dX11_rowsTo_2 : decode cX11_rowsTo 2 = .ok (.iload_n 2, 1) := by decide +kernel
theorem dX11_rowsTo_3 : decode cX11_rowsTo 3 = .ok (.aload_n 0, 1) := by decide +kernel
theorem dX11_rowsTo_4 : decode cX11_rowsTo 4 = .ok (.getfield 138, 3) := by decide +kernel
theorem dX11_rowsTo_7 : decode cX11_rowsTo 7 = .ok (.if_icmp .ge 90, 3) := by decide +kernel
theorem dX11_rowsTo_10 : decode cX11_rowsTo 10 = .ok (.iload_n 2, 1) := by decide +kernel
theorem dX11_rowsTo_11 : decode cX11_rowsTo 11 = .ok (.iload_n 1, 1) := by decide +kernel
theorem dX11_rowsTo_12 : decode cX11_rowsTo 12 = .ok (.if_icmp .ne 7, 3) := by decide +kernel
theorem dX11_rowsTo_15 : decode cX11_rowsTo 15 = .ok (.iconst 1, 1) := by decide +kernel
theorem dX11_rowsTo_16 : decode cX11_rowsTo 16 = .ok (.goto 4, 3) := by decide +kernel
theorem dX11_rowsTo_19 : decode cX11_rowsTo 19 = .ok (.iconst 0, 1) := by decide +kernel
theorem dX11_rowsTo_20 : decode cX11_rowsTo 20 = .ok (.istore_n 3, 1) := by decide +kernel
theorem dX11_rowsTo_21 : decode cX11_rowsTo 21 = .ok (.iload_n 2, 1) := by decide +kernel
theorem dX11_rowsTo_22 : decode cX11_rowsTo 22 = .ok (.iload_n 1, 1) := by decide +kernel
theorem dX11_rowsTo_23 : decode cX11_rowsTo 23 = .ok (.if_icmp .eq 27, 3) := by decide +kernel
theorem dX11_rowsTo_26 : decode cX11_rowsTo 26 = .ok (.aload_n 0, 1) := by decide +kernel
theorem dX11_rowsTo_27 : decode cX11_rowsTo 27 = .ok (.getfield 61, 3) := by decide +kernel
theorem dX11_rowsTo_30 : decode cX11_rowsTo 30 = .ok (.iload_n 2, 1) := by decide +kernel
theorem dX11_rowsTo_31 : decode cX11_rowsTo 31 = .ok (.iaload, 1) := by decide +kernel
theorem dX11_rowsTo_32 : decode cX11_rowsTo 32 = .ok (.iconst (-1), 1) := by decide +kernel
theorem dX11_rowsTo_33 : decode cX11_rowsTo 33 = .ok (.if_icmp .eq 17, 3) := by decide +kernel
theorem dX11_rowsTo_36 : decode cX11_rowsTo 36 = .ok (.iload_n 3, 1) := by decide +kernel
theorem dX11_rowsTo_37 : decode cX11_rowsTo 37 = .ok (.aload_n 0, 1) := by decide +kernel
theorem dX11_rowsTo_38 : decode cX11_rowsTo 38 = .ok (.getfield 121, 3) := by decide +kernel
theorem dX11_rowsTo_41 : decode cX11_rowsTo 41 = .ok (.aload_n 0, 1) := by decide +kernel
theorem dX11_rowsTo_42 : decode cX11_rowsTo 42 = .ok (.getfield 61, 3) := by decide +kernel
theorem dX11_rowsTo_45 : decode cX11_rowsTo 45 = .ok (.iload_n 2, 1) := by decide +kernel
theorem dX11_rowsTo_46 : decode cX11_rowsTo 46 = .ok (.iaload, 1) := by decide +kernel
theorem dX11_rowsTo_47 : decode cX11_rowsTo 47 = .ok (.iaload, 1) := by decide +kernel
theorem dX11_rowsTo_48 : decode cX11_rowsTo 48 = .ok (.iadd, 1) := by decide +kernel
theorem dX11_rowsTo_49 : decode cX11_rowsTo 49 = .ok (.istore_n 3, 1) := by decide +kernel
theorem dX11_rowsTo_50 : decode cX11_rowsTo 50 = .ok (.iload_n 2, 1) := by decide +kernel
theorem dX11_rowsTo_51 : decode cX11_rowsTo 51 = .ok (.iload_n 1, 1) := by decide +kernel
theorem dX11_rowsTo_52 : decode cX11_rowsTo 52 = .ok (.if_icmp .eq 27, 3) := by decide +kernel
theorem dX11_rowsTo_55 : decode cX11_rowsTo 55 = .ok (.aload_n 0, 1) := by decide +kernel
theorem dX11_rowsTo_56 : decode cX11_rowsTo 56 = .ok (.getfield 64, 3) := by decide +kernel
theorem dX11_rowsTo_59 : decode cX11_rowsTo 59 = .ok (.iload_n 2, 1) := by decide +kernel
theorem dX11_rowsTo_60 : decode cX11_rowsTo 60 = .ok (.iaload, 1) := by decide +kernel
theorem dX11_rowsTo_61 : decode cX11_rowsTo 61 = .ok (.iconst (-1), 1) := by decide +kernel
theorem dX11_rowsTo_62 : decode cX11_rowsTo 62 = .ok (.if_icmp .eq 17, 3) := by decide +kernel
theorem dX11_rowsTo_65 : decode cX11_rowsTo 65 = .ok (.iload_n 3, 1) := by decide +kernel
theorem dX11_rowsTo_66 : decode cX11_rowsTo 66 = .ok (.aload_n 0, 1) := by decide +kernel
theorem dX11_rowsTo_67 : decode cX11_rowsTo 67 = .ok (.getfield 121, 3) := by decide +kernel
theorem dX11_rowsTo_70 : decode cX11_rowsTo 70 = .ok (.aload_n 0, 1) := by decide +kernel
theorem dX11_rowsTo_71 : decode cX11_rowsTo 71 = .ok (.getfield 64, 3) := by decide +kernel
theorem dX11_rowsTo_74 : decode cX11_rowsTo 74 = .ok (.iload_n 2, 1) := by decide +kernel
theorem dX11_rowsTo_75 : decode cX11_rowsTo 75 = .ok (.iaload, 1) := by decide +kernel
theorem dX11_rowsTo_76 : decode cX11_rowsTo 76 = .ok (.iaload, 1) := by decide +kernel
theorem dX11_rowsTo_77 : decode cX11_rowsTo 77 = .ok (.iadd, 1) := by decide +kernel
theorem dX11_rowsTo_78 : decode cX11_rowsTo 78 = .ok (.istore_n 3, 1) := by decide +kernel
theorem dX11_rowsTo_79 : decode cX11_rowsTo 79 = .ok (.aload_n 0, 1) := by decide +kernel
theorem dX11_rowsTo_80 : decode cX11_rowsTo 80 = .ok (.getfield 121, 3) := by decide +kernel
theorem dX11_rowsTo_83 : decode cX11_rowsTo 83 = .ok (.iload_n 2, 1) := by decide +kernel
theorem dX11_rowsTo_84 : decode cX11_rowsTo 84 = .ok (.iload_n 3, 1) := by decide +kernel
theorem dX11_rowsTo_85 : decode cX11_rowsTo 85 = .ok (.ldc 224, 2) := by decide +kernel
theorem dX11_rowsTo_87 : decode cX11_rowsTo 87 = .ok (.invokestatic 144, 3) := by decide +kernel
theorem dX11_rowsTo_90 : decode cX11_rowsTo 90 = .ok (.iastore, 1) := by decide +kernel
theorem dX11_rowsTo_91 : decode cX11_rowsTo 91 = .ok (.iinc 2 1, 3) := by decide +kernel
theorem dX11_rowsTo_94 : decode cX11_rowsTo 94 = .ok (.goto (-92), 3) := by decide +kernel
theorem dX11_rowsTo_97 : decode cX11_rowsTo 97 = .ok (.return_, 1) := by decide +kernel
theorem dX11_ways_0 : decode cX11_ways 0 = .ok (.aload_n 0, 1) := by decide +kernel
theorem dX11_ways_1 : decode cX11_ways 1 = .ok (.iload_n 1, 1) := by decide +kernel
theorem dX11_ways_2 : decode cX11_ways 2 = .ok (.invokevirtual 186, 3) := by decide +kernel
theorem dX11_ways_5 : decode cX11_ways 5 = .ok (.ifCond .eq 11, 3) := by decide +kernel
theorem dX11_ways_8 : decode cX11_ways 8 = .ok (.aload_n 0, 1) := by decide +kernel
theorem dX11_ways_9 : decode cX11_ways 9 = .ok (.iload_n 2, 1) := by decide +kernel
theorem dX11_ways_10 : decode cX11_ways 10 = .ok (.invokevirtual 186, 3) := by decide +kernel
theorem dX11_ways_13 : decode cX11_ways 13 = .ok (.ifCond .ne 5, 3) := by decide +kernel
theorem dX11_ways_16 : decode cX11_ways 16 = .ok (.iconst 0, 1) := by decide +kernel
theorem dX11_ways_17 : decode cX11_ways 17 = .ok (.ireturn, 1) := by decide +kernel
theorem dX11_ways_18 : decode cX11_ways 18 = .ok (.aload_n 0, 1) := by decide +kernel
theorem dX11_ways_19 : decode cX11_ways 19 = .ok (.iload_n 2, 1) := by decide +kernel
theorem dX11_ways_20 : decode cX11_ways 20 = .ok (.invokevirtual 225, 3) := by decide +kernel
theorem dX11_ways_23 : decode cX11_ways 23 = .ok (.aload_n 0, 1) := by decide +kernel
theorem dX11_ways_24 : decode cX11_ways 24 = .ok (.getfield 121, 3) := by decide +kernel
theorem dX11_ways_27 : decode cX11_ways 27 = .ok (.iload_n 1, 1) := by decide +kernel
theorem dX11_ways_28 : decode cX11_ways 28 = .ok (.iaload, 1) := by decide +kernel
theorem dX11_ways_29 : decode cX11_ways 29 = .ok (.ireturn, 1) := by decide +kernel
theorem dX11_isOf_0 : decode cX11_isOf 0 = .ok (.aload_n 0, 1) := by decide +kernel
theorem dX11_isOf_1 : decode cX11_isOf 1 = .ok (.iload_n 2, 1) := by decide +kernel
theorem dX11_isOf_2 : decode cX11_isOf 2 = .ok (.invokevirtual 225, 3) := by decide +kernel
theorem dX11_isOf_5 : decode cX11_isOf 5 = .ok (.aload_n 0, 1) := by decide +kernel
theorem dX11_isOf_6 : decode cX11_isOf 6 = .ok (.getfield 121, 3) := by decide +kernel
theorem dX11_isOf_9 : decode cX11_isOf 9 = .ok (.iload_n 1, 1) := by decide +kernel
theorem dX11_isOf_10 : decode cX11_isOf 10 = .ok (.iaload, 1) := by decide +kernel
theorem dX11_isOf_11 : decode cX11_isOf 11 = .ok (.ifCond .le 7, 3) := by decide +kernel
theorem dX11_isOf_14 : decode cX11_isOf 14 = .ok (.iconst 1, 1) := by decide +kernel
theorem dX11_isOf_15 : decode cX11_isOf 15 = .ok (.goto 4, 3) := by decide +kernel
theorem dX11_isOf_18 : decode cX11_isOf 18 = .ok (.iconst 0, 1) := by decide +kernel
theorem dX11_isOf_19 : decode cX11_isOf 19 = .ok (.ireturn, 1) := by decide +kernel
theorem dX11_isIn_0 : decode cX11_isIn 0 = .ok (.iload_n 1, 1) := by decide +kernel
theorem dX11_isIn_1 : decode cX11_isIn 1 = .ok (.ifCond .ne 10, 3) := by decide +kernel
theorem dX11_isIn_4 : decode cX11_isIn 4 = .ok (.aload_n 0, 1) := by decide +kernel
theorem dX11_isIn_5 : decode cX11_isIn 5 = .ok (.iload_n 2, 1) := by decide +kernel
theorem dX11_isIn_6 : decode cX11_isIn 6 = .ok (.iload_n 3, 1) := by decide +kernel
theorem dX11_isIn_7 : decode cX11_isIn 7 = .ok (.invokevirtual 229, 3) := by decide +kernel
theorem dX11_isIn_10 : decode cX11_isIn 10 = .ok (.ireturn, 1) := by decide +kernel
theorem dX11_isIn_11 : decode cX11_isIn 11 = .ok (.iload_n 1, 1) := by decide +kernel
theorem dX11_isIn_12 : decode cX11_isIn 12 = .ok (.iconst 1, 1) := by decide +kernel
theorem dX11_isIn_13 : decode cX11_isIn 13 = .ok (.if_icmp .ne 23, 3) := by decide +kernel
theorem dX11_isIn_16 : decode cX11_isIn 16 = .ok (.iload_n 2, 1) := by decide +kernel
theorem dX11_isIn_17 : decode cX11_isIn 17 = .ok (.iload_n 3, 1) := by decide +kernel
theorem dX11_isIn_18 : decode cX11_isIn 18 = .ok (.if_icmp .eq 16, 3) := by decide +kernel
theorem dX11_isIn_21 : decode cX11_isIn 21 = .ok (.aload_n 0, 1) := by decide +kernel
theorem dX11_isIn_22 : decode cX11_isIn 22 = .ok (.iload_n 3, 1) := by decide +kernel
theorem dX11_isIn_23 : decode cX11_isIn 23 = .ok (.iload_n 2, 1) := by decide +kernel
theorem dX11_isIn_24 : decode cX11_isIn 24 = .ok (.invokevirtual 229, 3) := by decide +kernel
theorem dX11_isIn_27 : decode cX11_isIn 27 = .ok (.ifCond .eq 7, 3) := by decide +kernel
theorem dX11_isIn_30 : decode cX11_isIn 30 = .ok (.iconst 1, 1) := by decide +kernel
theorem dX11_isIn_31 : decode cX11_isIn 31 = .ok (.goto 4, 3) := by decide +kernel
theorem dX11_isIn_34 : decode cX11_isIn 34 = .ok (.iconst 0, 1) := by decide +kernel
theorem dX11_isIn_35 : decode cX11_isIn 35 = .ok (.ireturn, 1) := by decide +kernel
theorem dX11_isIn_36 : decode cX11_isIn 36 = .ok (.aload_n 0, 1) := by decide +kernel
theorem dX11_isIn_37 : decode cX11_isIn 37 = .ok (.getfield 61, 3) := by decide +kernel
theorem dX11_isIn_40 : decode cX11_isIn 40 = .ok (.iload_n 3, 1) := by decide +kernel
theorem dX11_isIn_41 : decode cX11_isIn 41 = .ok (.iaload, 1) := by decide +kernel
theorem dX11_isIn_42 : decode cX11_isIn 42 = .ok (.iconst (-1), 1) := by decide +kernel
theorem dX11_isIn_43 : decode cX11_isIn 43 = .ok (.if_icmp .eq 17, 3) := by decide +kernel
theorem dX11_isIn_46 : decode cX11_isIn 46 = .ok (.aload_n 0, 1) := by decide +kernel
theorem dX11_isIn_47 : decode cX11_isIn 47 = .ok (.iload_n 2, 1) := by decide +kernel
theorem dX11_isIn_48 : decode cX11_isIn 48 = .ok (.aload_n 0, 1) := by decide +kernel
theorem dX11_isIn_49 : decode cX11_isIn 49 = .ok (.getfield 61, 3) := by decide +kernel
theorem dX11_isIn_52 : decode cX11_isIn 52 = .ok (.iload_n 3, 1) := by decide +kernel
theorem dX11_isIn_53 : decode cX11_isIn 53 = .ok (.iaload, 1) := by decide +kernel
theorem dX11_isIn_54 : decode cX11_isIn 54 = .ok (.invokevirtual 229, 3) := by decide +kernel
theorem dX11_isIn_57 : decode cX11_isIn 57 = .ok (.ifCond .ne 27, 3) := by decide +kernel
theorem dX11_isIn_60 : decode cX11_isIn 60 = .ok (.aload_n 0, 1) := by decide +kernel
theorem dX11_isIn_61 : decode cX11_isIn 61 = .ok (.getfield 64, 3) := by decide +kernel
theorem dX11_isIn_64 : decode cX11_isIn 64 = .ok (.iload_n 3, 1) := by decide +kernel
theorem dX11_isIn_65 : decode cX11_isIn 65 = .ok (.iaload, 1) := by decide +kernel
theorem dX11_isIn_66 : decode cX11_isIn 66 = .ok (.iconst (-1), 1) := by decide +kernel
theorem dX11_isIn_67 : decode cX11_isIn 67 = .ok (.if_icmp .eq 21, 3) := by decide +kernel
theorem dX11_isIn_70 : decode cX11_isIn 70 = .ok (.aload_n 0, 1) := by decide +kernel
theorem dX11_isIn_71 : decode cX11_isIn 71 = .ok (.iload_n 2, 1) := by decide +kernel
theorem dX11_isIn_72 : decode cX11_isIn 72 = .ok (.aload_n 0, 1) := by decide +kernel
theorem dX11_isIn_73 : decode cX11_isIn 73 = .ok (.getfield 64, 3) := by decide +kernel
theorem dX11_isIn_76 : decode cX11_isIn 76 = .ok (.iload_n 3, 1) := by decide +kernel
theorem dX11_isIn_77 : decode cX11_isIn 77 = .ok (.iaload, 1) := by decide +kernel
theorem dX11_isIn_78 : decode cX11_isIn 78 = .ok (.invokevirtual 229, 3) := by decide +kernel
theorem dX11_isIn_81 : decode cX11_isIn 81 = .ok (.ifCond .eq 7, 3) := by decide +kernel
theorem dX11_isIn_84 : decode cX11_isIn 84 = .ok (.iconst 1, 1) := by decide +kernel
theorem dX11_isIn_85 : decode cX11_isIn 85 = .ok (.goto 4, 3) := by decide +kernel
theorem dX11_isIn_88 : decode cX11_isIn 88 = .ok (.iconst 0, 1) := by decide +kernel
theorem dX11_isIn_89 : decode cX11_isIn 89 = .ok (.istore 4, 2) := by decide +kernel
theorem dX11_isIn_91 : decode cX11_isIn 91 = .ok (.iload 4, 2) := by decide +kernel
theorem dX11_isIn_93 : decode cX11_isIn 93 = .ok (.ifCond .eq 27, 3) := by decide +kernel
theorem dX11_isIn_96 : decode cX11_isIn 96 = .ok (.aload_n 0, 1) := by decide +kernel
theorem dX11_isIn_97 : decode cX11_isIn 97 = .ok (.iconst 0, 1) := by decide +kernel
theorem dX11_isIn_98 : decode cX11_isIn 98 = .ok (.iload_n 2, 1) := by decide +kernel
theorem dX11_isIn_99 : decode cX11_isIn 99 = .ok (.iload_n 3, 1) := by decide +kernel
theorem dX11_isIn_100 : decode cX11_isIn 100 = .ok (.invokevirtual 232, 3) := by decide +kernel
theorem dX11_isIn_103 : decode cX11_isIn 103 = .ok (.ifCond .ne 17, 3) := by decide +kernel
theorem dX11_isIn_106 : decode cX11_isIn 106 = .ok (.aload_n 0, 1) := by decide +kernel
theorem dX11_isIn_107 : decode cX11_isIn 107 = .ok (.iconst 1, 1) := by decide +kernel
theorem dX11_isIn_108 : decode cX11_isIn 108 = .ok (.iload_n 2, 1) := by decide +kernel
theorem dX11_isIn_109 : decode cX11_isIn 109 = .ok (.iload_n 3, 1) := by decide +kernel
theorem dX11_isIn_110 : decode cX11_isIn 110 = .ok (.invokevirtual 232, 3) := by decide +kernel
theorem dX11_isIn_113 : decode cX11_isIn 113 = .ok (.ifCond .ne 7, 3) := by decide +kernel
theorem dX11_isIn_116 : decode cX11_isIn 116 = .ok (.iconst 1, 1) := by decide +kernel
theorem dX11_isIn_117 : decode cX11_isIn 117 = .ok (.goto 4, 3) := by decide +kernel
theorem dX11_isIn_120 : decode cX11_isIn 120 = .ok (.iconst 0, 1) := by decide +kernel
theorem dX11_isIn_121 : decode cX11_isIn 121 = .ok (.ireturn, 1) := by decide +kernel
theorem dX11_touched_0 : decode cX11_touched 0 = .ok (.aload_n 0, 1) := by decide +kernel
theorem dX11_touched_1 : decode cX11_touched 1 = .ok (.iload_n 1, 1) := by decide +kernel
theorem dX11_touched_2 : decode cX11_touched 2 = .ok (.invokevirtual 186, 3) := by decide +kernel
theorem dX11_touched_5 : decode cX11_touched 5 = .ok (.ifCond .eq 16, 3) := by decide +kernel
theorem dX11_touched_8 : decode cX11_touched 8 = .ok (.iload_n 2, 1) := by decide +kernel
theorem dX11_touched_9 : decode cX11_touched 9 = .ok (.iconst 0, 1) := by decide +kernel
theorem dX11_touched_10 : decode cX11_touched 10 = .ok (.iconst 2, 1) := by decide +kernel
theorem dX11_touched_11 : decode cX11_touched 11 = .ok (.invokestatic 134, 3) := by decide +kernel
theorem dX11_touched_14 : decode cX11_touched 14 = .ok (.ifCond .eq 7, 3) := by decide +kernel
theorem dX11_touched_17 : decode cX11_touched 17 = .ok (.iload_n 3, 1) := by decide +kernel
theorem dX11_touched_18 : decode cX11_touched 18 = .ok (.ifCond .ge 5, 3) := by decide +kernel
theorem dX11_touched_21 : decode cX11_touched 21 = .ok (.iconst (-1), 1) := by decide +kernel
theorem dX11_touched_22 : decode cX11_touched 22 = .ok (.ireturn, 1) := by decide +kernel
theorem dX11_touched_23 : decode cX11_touched 23 = .ok (.iconst 0, 1) := by decide +kernel
theorem dX11_touched_24 : decode cX11_touched 24 = .ok (.istore 4, 2) := by decide +kernel
theorem dX11_touched_26 : decode cX11_touched 26 = .ok (.iconst 0, 1) := by decide +kernel
theorem dX11_touched_27 : decode cX11_touched 27 = .ok (.istore 5, 2) := by decide +kernel
theorem dX11_touched_29 : decode cX11_touched 29 = .ok (.iload 5, 2) := by decide +kernel
theorem dX11_touched_31 : decode cX11_touched 31 = .ok (.aload_n 0, 1) := by decide +kernel
theorem dX11_touched_32 : decode cX11_touched 32 = .ok (.getfield 138, 3) := by decide +kernel
theorem dX11_touched_35 : decode cX11_touched 35 = .ok (.if_icmp .ge 32, 3) := by decide +kernel
theorem dX11_touched_38 : decode cX11_touched 38 = .ok (.aload_n 0, 1) := by decide +kernel
theorem dX11_touched_39 : decode cX11_touched 39 = .ok (.iload_n 2, 1) := by decide +kernel
theorem dX11_touched_40 : decode cX11_touched 40 = .ok (.iload 5, 2) := by decide +kernel
theorem dX11_touched_42 : decode cX11_touched 42 = .ok (.iload_n 1, 1) := by decide +kernel
theorem dX11_touched_43 : decode cX11_touched 43 = .ok (.invokevirtual 232, 3) := by decide +kernel
theorem dX11_touched_46 : decode cX11_touched 46 = .ok (.ifCond .eq 15, 3) := by decide +kernel
theorem dX11_touched_49 : decode cX11_touched 49 = .ok (.iload 4, 2) := by decide +kernel
theorem dX11_touched_51 : decode cX11_touched 51 = .ok (.iload_n 3, 1) := by decide +kernel
theorem dX11_touched_52 : decode cX11_touched 52 = .ok (.if_icmp .ne 6, 3) := by decide +kernel
theorem dX11_touched_55 : decode cX11_touched 55 = .ok (.iload 5, 2) := by decide +kernel
theorem dX11_touched_57 : decode cX11_touched 57 = .ok (.ireturn, 1) := by decide +kernel
theorem dX11_touched_58 : decode cX11_touched 58 = .ok (.iinc 4 1, 3) := by decide +kernel
theorem dX11_touched_61 : decode cX11_touched 61 = .ok (.iinc 5 1, 3) := by decide +kernel
theorem dX11_touched_64 : decode cX11_touched 64 = .ok (.goto (-35), 3) := by decide +kernel
theorem dX11_touched_67 : decode cX11_touched 67 = .ok (.iconst (-1), 1) := by decide +kernel
theorem dX11_touched_68 : decode cX11_touched 68 = .ok (.ireturn, 1) := by decide +kernel
theorem dX11_buyers_0 : decode cX11_buyers 0 = .ok (.aload_n 0, 1) := by decide +kernel
theorem dX11_buyers_1 : decode cX11_buyers 1 = .ok (.iload_n 1, 1) := by decide +kernel
theorem dX11_buyers_2 : decode cX11_buyers 2 = .ok (.invokevirtual 186, 3) := by decide +kernel
theorem dX11_buyers_5 : decode cX11_buyers 5 = .ok (.ifCond .ne 5, 3) := by decide +kernel
theorem dX11_buyers_8 : decode cX11_buyers 8 = .ok (.iconst 0, 1) := by decide +kernel
theorem dX11_buyers_9 : decode cX11_buyers 9 = .ok (.ireturn, 1) := by decide +kernel
theorem dX11_buyers_10 : decode cX11_buyers 10 = .ok (.aload_n 0, 1) := by decide +kernel
theorem dX11_buyers_11 : decode cX11_buyers 11 = .ok (.iload_n 1, 1) := by decide +kernel
theorem dX11_buyers_12 : decode cX11_buyers 12 = .ok (.invokevirtual 225, 3) := by decide +kernel
theorem dX11_buyers_15 : decode cX11_buyers 15 = .ok (.iconst 0, 1) := by decide +kernel
theorem dX11_buyers_16 : decode cX11_buyers 16 = .ok (.istore_n 2, 1) := by decide +kernel
theorem dX11_buyers_17 : decode cX11_buyers 17 = .ok (.iconst 0, 1) := by decide +kernel
theorem dX11_buyers_18 : decode cX11_buyers 18 = .ok (.istore_n 3, 1) := by decide +kernel
theorem dX11_buyers_19 : decode cX11_buyers 19 = .ok (.iload_n 3, 1) := by decide +kernel
theorem dX11_buyers_20 : decode cX11_buyers 20 = .ok (.aload_n 0, 1) := by decide +kernel
theorem dX11_buyers_21 : decode cX11_buyers 21 = .ok (.getfield 190, 3) := by decide +kernel
theorem dX11_buyers_24 : decode cX11_buyers 24 = .ok (.if_icmp .ge 44, 3) := by decide +kernel
theorem dX11_buyers_27 : decode cX11_buyers 27 = .ok (.aload_n 0, 1) := by decide +kernel
theorem dX11_buyers_28 : decode cX11_buyers 28 = .ok (.getfield 106, 3) := by decide +kernel
theorem dX11_buyers_31 : decode cX11_buyers 31 = .ok (.iload_n 3, 1) := by decide +kernel
theorem dX11_buyers_32 : decode cX11_buyers 32 = .ok (.iaload, 1) := by decide +kernel
theorem dX11_buyers_33 : decode cX11_buyers 33 = .ok (.iconst (-1), 1) := by decide +kernel
theorem dX11_buyers_34 : decode cX11_buyers 34 = .ok (.if_icmp .eq 28, 3) := by decide +kernel
theorem dX11_buyers_37 : decode cX11_buyers 37 = .ok (.aload_n 0, 1) := by decide +kernel
theorem dX11_buyers_38 : decode cX11_buyers 38 = .ok (.getfield 121, 3) := by decide +kernel
theorem dX11_buyers_41 : decode cX11_buyers 41 = .ok (.aload_n 0, 1) := by decide +kernel
theorem dX11_buyers_42 : decode cX11_buyers 42 = .ok (.getfield 97, 3) := by decide +kernel
theorem dX11_buyers_45 : decode cX11_buyers 45 = .ok (.iload_n 3, 1) := by decide +kernel
theorem dX11_buyers_46 : decode cX11_buyers 46 = .ok (.iaload, 1) := by decide +kernel
theorem dX11_buyers_47 : decode cX11_buyers 47 = .ok (.iaload, 1) := by decide +kernel
theorem dX11_buyers_48 : decode cX11_buyers 48 = .ok (.ifCond .le 14, 3) := by decide +kernel
theorem dX11_buyers_51 : decode cX11_buyers 51 = .ok (.iload_n 2, 1) := by decide +kernel
theorem dX11_buyers_52 : decode cX11_buyers 52 = .ok (.iconst 1, 1) := by decide +kernel
theorem dX11_buyers_53 : decode cX11_buyers 53 = .ok (.aload_n 0, 1) := by decide +kernel
theorem dX11_buyers_54 : decode cX11_buyers 54 = .ok (.getfield 106, 3) := by decide +kernel
theorem dX11_buyers_57 : decode cX11_buyers 57 = .ok (.iload_n 3, 1) := by decide +kernel
theorem dX11_buyers_58 : decode cX11_buyers 58 = .ok (.iaload, 1) := by decide +kernel
theorem dX11_buyers_59 : decode cX11_buyers 59 = .ok (.ishl, 1) := by decide +kernel
theorem dX11_buyers_60 : decode cX11_buyers 60 = .ok (.ior, 1) := by decide +kernel
theorem dX11_buyers_61 : decode cX11_buyers 61 = .ok (.istore_n 2, 1) := by decide +kernel
theorem dX11_buyers_62 : decode cX11_buyers 62 = .ok (.iinc 3 1, 3) := by decide +kernel
theorem dX11_buyers_65 : decode cX11_buyers 65 = .ok (.goto (-46), 3) := by decide +kernel
theorem dX11_buyers_68 : decode cX11_buyers 68 = .ok (.iload_n 2, 1) := by decide +kernel
theorem dX11_buyers_69 : decode cX11_buyers 69 = .ok (.ireturn, 1) := by decide +kernel
theorem dX11_want_0 : decode cX11_want 0 = .ok (.iload_n 1, 1) := by decide +kernel
theorem dX11_want_1 : decode cX11_want 1 = .ok (.iconst (-1), 1) := by decide +kernel
theorem dX11_want_2 : decode cX11_want 2 = .ok (.if_icmp .ne 10, 3) := by decide +kernel
theorem dX11_want_5 : decode cX11_want 5 = .ok (.aload_n 0, 1) := by decide +kernel
theorem dX11_want_6 : decode cX11_want 6 = .ok (.iconst 0, 1) := by decide +kernel
theorem dX11_want_7 : decode cX11_want 7 = .ok (.putfield 235, 3) := by decide +kernel
theorem dX11_want_10 : decode cX11_want 10 = .ok (.iconst 0, 1) := by decide +kernel
theorem dX11_want_11 : decode cX11_want 11 = .ok (.ireturn, 1) := by decide +kernel
theorem dX11_want_12 : decode cX11_want 12 = .ok (.aload_n 0, 1) := by decide +kernel
theorem dX11_want_13 : decode cX11_want 13 = .ok (.iload_n 1, 1) := by decide +kernel
theorem dX11_want_14 : decode cX11_want 14 = .ok (.invokevirtual 186, 3) := by decide +kernel
theorem dX11_want_17 : decode cX11_want 17 = .ok (.ifCond .eq 11, 3) := by decide +kernel
theorem dX11_want_20 : decode cX11_want 20 = .ok (.aload_n 0, 1) := by decide +kernel
theorem dX11_want_21 : decode cX11_want 21 = .ok (.getfield 235, 3) := by decide +kernel
theorem dX11_want_24 : decode cX11_want 24 = .ok (.iconst 5, 1) := by decide +kernel
theorem dX11_want_25 : decode cX11_want 25 = .ok (.if_icmp .ne 5, 3) := by decide +kernel
theorem dX11_want_28 : decode cX11_want 28 = .ok (.iconst (-1), 1) := by decide +kernel
theorem dX11_want_29 : decode cX11_want 29 = .ok (.ireturn, 1) := by decide +kernel
theorem dX11_want_30 : decode cX11_want 30 = .ok (.iconst 0, 1) := by decide +kernel
theorem dX11_want_31 : decode cX11_want 31 = .ok (.istore_n 2, 1) := by decide +kernel
theorem dX11_want_32 : decode cX11_want 32 = .ok (.iload_n 2, 1) := by decide +kernel
theorem dX11_want_33 : decode cX11_want 33 = .ok (.aload_n 0, 1) := by decide +kernel
theorem dX11_want_34 : decode cX11_want 34 = .ok (.getfield 235, 3) := by decide +kernel
theorem dX11_want_37 : decode cX11_want 37 = .ok (.if_icmp .ge 21, 3) := by decide +kernel
theorem dX11_want_40 : decode cX11_want 40 = .ok (.aload_n 0, 1) := by decide +kernel
theorem dX11_want_41 : decode cX11_want 41 = .ok (.getfield 109, 3) := by decide +kernel
theorem dX11_want_44 : decode cX11_want 44 = .ok (.iload_n 2, 1) := by decide +kernel
theorem dX11_want_45 : decode cX11_want 45 = .ok (.iaload, 1) := by decide +kernel
theorem dX11_want_46 : decode cX11_want 46 = .ok (.iload_n 1, 1) := by decide +kernel
theorem dX11_want_47 : decode cX11_want 47 = .ok (.if_icmp .ne 5, 3) := by decide +kernel
theorem dX11_want_50 : decode cX11_want 50 = .ok (.iconst (-1), 1) := by decide +kernel
theorem dX11_want_51 : decode cX11_want 51 = .ok (.ireturn, 1) := by decide +kernel
theorem dX11_want_52 : decode cX11_want 52 = .ok (.iinc 2 1, 3) := by decide +kernel
theorem dX11_want_55 : decode cX11_want 55 = .ok (.goto (-23), 3) := by decide +kernel
theorem dX11_want_58 : decode cX11_want 58 = .ok (.aload_n 0, 1) := by decide +kernel
theorem dX11_want_59 : decode cX11_want 59 = .ok (.getfield 109, 3) := by decide +kernel
theorem dX11_want_62 : decode cX11_want 62 = .ok (.aload_n 0, 1) := by decide +kernel
theorem dX11_want_63 : decode cX11_want 63 = .ok (.getfield 235, 3) := by decide +kernel
theorem dX11_want_66 : decode cX11_want 66 = .ok (.iload_n 1, 1) := by decide +kernel
theorem dX11_want_67 : decode cX11_want 67 = .ok (.iastore, 1) := by decide +kernel
theorem dX11_want_68 : decode cX11_want 68 = .ok (.aload_n 0, 1) := by decide +kernel
theorem dX11_want_69 : decode cX11_want 69 = .ok (.dup, 1) := by decide +kernel
theorem dX11_want_70 : decode cX11_want 70 = .ok (.getfield 235, 3) := by decide +kernel
theorem dX11_want_73 : decode cX11_want 73 = .ok (.iconst 1, 1) := by decide +kernel
theorem dX11_want_74 : decode cX11_want 74 = .ok (.iadd, 1) := by decide +kernel
theorem dX11_want_75 : decode cX11_want 75 = .ok (.putfield 235, 3) := by decide +kernel
theorem dX11_want_78 : decode cX11_want 78 = .ok (.aload_n 0, 1) := by decide +kernel
theorem dX11_want_79 : decode cX11_want 79 = .ok (.getfield 235, 3) := by decide +kernel
theorem dX11_want_82 : decode cX11_want 82 = .ok (.ireturn, 1) := by decide +kernel
theorem dX11_isFree_0 : decode cX11_isFree 0 = .ok (.aload_n 0, 1) := by decide +kernel
theorem dX11_isFree_1 : decode cX11_isFree 1 = .ok (.iconst 1, 1) := by decide +kernel
theorem dX11_isFree_2 : decode cX11_isFree 2 = .ok (.aload_n 0, 1) := by decide +kernel
theorem dX11_isFree_3 : decode cX11_isFree 3 = .ok (.getfield 141, 3) := by decide +kernel
theorem dX11_isFree_6 : decode cX11_isFree 6 = .ok (.iconst 1, 1) := by decide +kernel
theorem dX11_isFree_7 : decode cX11_isFree 7 = .ok (.iadd, 1) := by decide +kernel
theorem dX11_isFree_8 : decode cX11_isFree 8 = .ok (.aload_n 0, 1) := by decide +kernel
theorem dX11_isFree_9 : decode cX11_isFree 9 = .ok (.getfield 141, 3) := by decide +kernel
theorem dX11_isFree_12 : decode cX11_isFree 12 = .ok (.invokevirtual 180, 3) := by decide +kernel
theorem dX11_isFree_15 : decode cX11_isFree 15 = .ok (.istore_n 3, 1) := by decide +kernel
theorem dX11_isFree_16 : decode cX11_isFree 16 = .ok (.iconst 1, 1) := by decide +kernel
theorem dX11_isFree_17 : decode cX11_isFree 17 = .ok (.istore 4, 2) := by decide +kernel
theorem dX11_isFree_19 : decode cX11_isFree 19 = .ok (.iload 4, 2) := by decide +kernel
theorem dX11_isFree_21 : decode cX11_isFree 21 = .ok (.iload_n 3, 1) := by decide +kernel
theorem dX11_isFree_22 : decode cX11_isFree 22 = .ok (.if_icmp .gt 44, 3) := by decide +kernel
theorem dX11_isFree_25 : decode cX11_isFree 25 = .ok (.iload 4, 2) := by decide +kernel
theorem dX11_isFree_27 : decode cX11_isFree 27 = .ok (.aload_n 0, 1) := by decide +kernel
theorem dX11_isFree_28 : decode cX11_isFree 28 = .ok (.getfield 141, 3) := by decide +kernel
theorem dX11_isFree_31 : decode cX11_isFree 31 = .ok (.iconst 1, 1) := by decide +kernel
theorem dX11_isFree_32 : decode cX11_isFree 32 = .ok (.iadd, 1) := by decide +kernel
theorem dX11_isFree_33 : decode cX11_isFree 33 = .ok (.if_icmp .gt 33, 3) := by decide +kernel
theorem dX11_isFree_36 : decode cX11_isFree 36 = .ok (.aload_n 0, 1) := by decide +kernel
theorem dX11_isFree_37 : decode cX11_isFree 37 = .ok (.iload_n 2, 1) := by decide +kernel
theorem dX11_isFree_38 : decode cX11_isFree 38 = .ok (.aload_n 0, 1) := by decide +kernel
theorem dX11_isFree_39 : decode cX11_isFree 39 = .ok (.getfield 141, 3) := by decide +kernel
theorem dX11_isFree_42 : decode cX11_isFree 42 = .ok (.iconst 1, 1) := by decide +kernel
theorem dX11_isFree_43 : decode cX11_isFree 43 = .ok (.iadd, 1) := by decide +kernel
theorem dX11_isFree_44 : decode cX11_isFree 44 = .ok (.iload 4, 2) := by decide +kernel
theorem dX11_isFree_46 : decode cX11_isFree 46 = .ok (.isub, 1) := by decide +kernel
theorem dX11_isFree_47 : decode cX11_isFree 47 = .ok (.aload_n 0, 1) := by decide +kernel
theorem dX11_isFree_48 : decode cX11_isFree 48 = .ok (.getfield 141, 3) := by decide +kernel
theorem dX11_isFree_51 : decode cX11_isFree 51 = .ok (.invokevirtual 169, 3) := by decide +kernel
theorem dX11_isFree_54 : decode cX11_isFree 54 = .ok (.iload_n 1, 1) := by decide +kernel
theorem dX11_isFree_55 : decode cX11_isFree 55 = .ok (.if_icmp .ne 5, 3) := by decide +kernel
theorem dX11_isFree_58 : decode cX11_isFree 58 = .ok (.iconst 0, 1) := by decide +kernel
theorem dX11_isFree_59 : decode cX11_isFree 59 = .ok (.ireturn, 1) := by decide +kernel
theorem dX11_isFree_60 : decode cX11_isFree 60 = .ok (.iinc 4 1, 3) := by decide +kernel
theorem dX11_isFree_63 : decode cX11_isFree 63 = .ok (.goto (-44), 3) := by decide +kernel
theorem dX11_isFree_66 : decode cX11_isFree 66 = .ok (.iconst 1, 1) := by decide +kernel
theorem dX11_isFree_67 : decode cX11_isFree 67 = .ok (.ireturn, 1) := by decide +kernel
theorem dX11_isGood_0 : decode cX11_isGood 0 = .ok (.aload_n 0, 1) := by decide +kernel
theorem dX11_isGood_1 : decode cX11_isGood 1 = .ok (.iconst 0, 1) := by decide +kernel
theorem dX11_isGood_2 : decode cX11_isGood 2 = .ok (.aload_n 0, 1) := by decide +kernel
theorem dX11_isGood_3 : decode cX11_isGood 3 = .ok (.getfield 141, 3) := by decide +kernel
theorem dX11_isGood_6 : decode cX11_isGood 6 = .ok (.iconst 1, 1) := by decide +kernel
theorem dX11_isGood_7 : decode cX11_isGood 7 = .ok (.iadd, 1) := by decide +kernel
theorem dX11_isGood_8 : decode cX11_isGood 8 = .ok (.aload_n 0, 1) := by decide +kernel
theorem dX11_isGood_9 : decode cX11_isGood 9 = .ok (.getfield 141, 3) := by decide +kernel
theorem dX11_isGood_12 : decode cX11_isGood 12 = .ok (.invokevirtual 180, 3) := by decide +kernel
theorem dX11_isGood_15 : decode cX11_isGood 15 = .ok (.istore_n 2, 1) := by decide +kernel
theorem dX11_isGood_16 : decode cX11_isGood 16 = .ok (.iconst 0, 1) := by decide +kernel
theorem dX11_isGood_17 : decode cX11_isGood 17 = .ok (.istore_n 3, 1) := by decide +kernel
theorem dX11_isGood_18 : decode cX11_isGood 18 = .ok (.iload_n 3, 1) := by decide +kernel
theorem dX11_isGood_19 : decode cX11_isGood 19 = .ok (.aload_n 0, 1) := by decide +kernel
theorem dX11_isGood_20 : decode cX11_isGood 20 = .ok (.getfield 235, 3) := by decide +kernel
theorem dX11_isGood_23 : decode cX11_isGood 23 = .ok (.if_icmp .ge 153, 3) := by decide +kernel
theorem dX11_isGood_26 : decode cX11_isGood 26 = .ok (.aload_n 0, 1) := by decide +kernel
theorem dX11_isGood_27 : decode cX11_isGood 27 = .ok (.getfield 124, 3) := by decide +kernel
theorem dX11_isGood_30 : decode cX11_isGood 30 = .ok (.iload_n 3, 1) := by decide +kernel
theorem dX11_isGood_31 : decode cX11_isGood 31 = .ok (.iaload, 1) := by decide +kernel
theorem dX11_isGood_32 : decode cX11_isGood 32 = .ok (.iload_n 1, 1) := by decide +kernel
theorem dX11_isGood_33 : decode cX11_isGood 33 = .ok (.if_icmp .ne 6, 3) := by decide +kernel
theorem dX11_isGood_36 : decode cX11_isGood 36 = .ok (.goto 134, 3) := by decide +kernel
theorem dX11_isGood_39 : decode cX11_isGood 39 = .ok (.aload_n 0, 1) := by decide +kernel
theorem dX11_isGood_40 : decode cX11_isGood 40 = .ok (.aload_n 0, 1) := by decide +kernel
theorem dX11_isGood_41 : decode cX11_isGood 41 = .ok (.getfield 49, 3) := by decide +kernel
theorem dX11_isGood_44 : decode cX11_isGood 44 = .ok (.aload_n 0, 1) := by decide +kernel
theorem dX11_isGood_45 : decode cX11_isGood 45 = .ok (.getfield 109, 3) := by decide +kernel
theorem dX11_isGood_48 : decode cX11_isGood 48 = .ok (.iload_n 3, 1) := by decide +kernel
theorem dX11_isGood_49 : decode cX11_isGood 49 = .ok (.iaload, 1) := by decide +kernel
theorem dX11_isGood_50 : decode cX11_isGood 50 = .ok (.iaload, 1) := by decide +kernel
theorem dX11_isGood_51 : decode cX11_isGood 51 = .ok (.aload_n 0, 1) := by decide +kernel
theorem dX11_isGood_52 : decode cX11_isGood 52 = .ok (.getfield 124, 3) := by decide +kernel
theorem dX11_isGood_55 : decode cX11_isGood 55 = .ok (.iload_n 3, 1) := by decide +kernel
theorem dX11_isGood_56 : decode cX11_isGood 56 = .ok (.iaload, 1) := by decide +kernel
theorem dX11_isGood_57 : decode cX11_isGood 57 = .ok (.invokevirtual 238, 3) := by decide +kernel
theorem dX11_isGood_60 : decode cX11_isGood 60 = .ok (.ifCond .ne 5, 3) := by decide +kernel
theorem dX11_isGood_63 : decode cX11_isGood 63 = .ok (.iconst 0, 1) := by decide +kernel
theorem dX11_isGood_64 : decode cX11_isGood 64 = .ok (.ireturn, 1) := by decide +kernel
theorem dX11_isGood_65 : decode cX11_isGood 65 = .ok (.iconst 0, 1) := by decide +kernel
theorem dX11_isGood_66 : decode cX11_isGood 66 = .ok (.istore 4, 2) := by decide +kernel
theorem dX11_isGood_68 : decode cX11_isGood 68 = .ok (.iload 4, 2) := by decide +kernel
theorem dX11_isGood_70 : decode cX11_isGood 70 = .ok (.iload_n 3, 1) := by decide +kernel
theorem dX11_isGood_71 : decode cX11_isGood 71 = .ok (.if_icmp .ge 99, 3) := by decide +kernel
theorem dX11_isGood_74 : decode cX11_isGood 74 = .ok (.aload_n 0, 1) := by decide +kernel
theorem dX11_isGood_75 : decode cX11_isGood 75 = .ok (.getfield 124, 3) := by decide +kernel
theorem dX11_isGood_78 : decode cX11_isGood 78 = .ok (.iload 4, 2) := by decide +kernel
theorem dX11_isGood_80 : decode cX11_isGood 80 = .ok (.iaload, 1) := by decide +kernel
theorem dX11_isGood_81 : decode cX11_isGood 81 = .ok (.iload_n 1, 1) := by decide +kernel
theorem dX11_isGood_82 : decode cX11_isGood 82 = .ok (.if_icmp .ge 7, 3) := by decide +kernel
theorem dX11_isGood_85 : decode cX11_isGood 85 = .ok (.iconst 1, 1) := by decide +kernel
theorem dX11_isGood_86 : decode cX11_isGood 86 = .ok (.goto 4, 3) := by decide +kernel
theorem dX11_isGood_89 : decode cX11_isGood 89 = .ok (.iconst 0, 1) := by decide +kernel
theorem dX11_isGood_90 : decode cX11_isGood 90 = .ok (.istore 5, 2) := by decide +kernel
theorem dX11_isGood_92 : decode cX11_isGood 92 = .ok (.iload 5, 2) := by decide +kernel
theorem dX11_isGood_94 : decode cX11_isGood 94 = .ok (.ifCond .eq 70, 3) := by decide +kernel
theorem dX11_isGood_97 : decode cX11_isGood 97 = .ok (.aload_n 0, 1) := by decide +kernel
theorem dX11_isGood_98 : decode cX11_isGood 98 = .ok (.getfield 124, 3) := by decide +kernel
theorem dX11_isGood_101 : decode cX11_isGood 101 = .ok (.iload 4, 2) := by decide +kernel
theorem dX11_isGood_103 : decode cX11_isGood 103 = .ok (.iaload, 1) := by decide +kernel
theorem dX11_isGood_104 : decode cX11_isGood 104 = .ok (.aload_n 0, 1) := by decide +kernel
theorem dX11_isGood_105 : decode cX11_isGood 105 = .ok (.getfield 124, 3) := by decide +kernel
theorem dX11_isGood_108 : decode cX11_isGood 108 = .ok (.iload_n 3, 1) := by decide +kernel
theorem dX11_isGood_109 : decode cX11_isGood 109 = .ok (.iaload, 1) := by decide +kernel
theorem dX11_isGood_110 : decode cX11_isGood 110 = .ok (.if_icmp .eq 52, 3) := by decide +kernel
theorem dX11_isGood_113 : decode cX11_isGood 113 = .ok (.aload_n 0, 1) := by decide +kernel
theorem dX11_isGood_114 : decode cX11_isGood 114 = .ok (.getfield 49, 3) := by decide +kernel
theorem dX11_isGood_117 : decode cX11_isGood 117 = .ok (.aload_n 0, 1) := by decide +kernel
theorem dX11_isGood_118 : decode cX11_isGood 118 = .ok (.getfield 109, 3) := by decide +kernel
theorem dX11_isGood_121 : decode cX11_isGood 121 = .ok (.iload 4, 2) := by decide +kernel
theorem dX11_isGood_123 : decode cX11_isGood 123 = .ok (.iaload, 1) := by decide +kernel
theorem dX11_isGood_124 : decode cX11_isGood 124 = .ok (.iaload, 1) := by decide +kernel
theorem dX11_isGood_125 : decode cX11_isGood 125 = .ok (.aload_n 0, 1) := by decide +kernel
theorem dX11_isGood_126 : decode cX11_isGood 126 = .ok (.getfield 49, 3) := by decide +kernel
theorem dX11_isGood_129 : decode cX11_isGood 129 = .ok (.aload_n 0, 1) := by decide +kernel
theorem dX11_isGood_130 : decode cX11_isGood 130 = .ok (.getfield 109, 3) := by decide +kernel
theorem dX11_isGood_133 : decode cX11_isGood 133 = .ok (.iload_n 3, 1) := by decide +kernel
theorem dX11_isGood_134 : decode cX11_isGood 134 = .ok (.iaload, 1) := by decide +kernel
theorem dX11_isGood_135 : decode cX11_isGood 135 = .ok (.iaload, 1) := by decide +kernel
theorem dX11_isGood_136 : decode cX11_isGood 136 = .ok (.if_icmp .ne 28, 3) := by decide +kernel
theorem dX11_isGood_139 : decode cX11_isGood 139 = .ok (.aload_n 0, 1) := by decide +kernel
theorem dX11_isGood_140 : decode cX11_isGood 140 = .ok (.aload_n 0, 1) := by decide +kernel
theorem dX11_isGood_141 : decode cX11_isGood 141 = .ok (.getfield 124, 3) := by decide +kernel
theorem dX11_isGood_144 : decode cX11_isGood 144 = .ok (.iload 4, 2) := by decide +kernel
theorem dX11_isGood_146 : decode cX11_isGood 146 = .ok (.iaload, 1) := by decide +kernel
theorem dX11_isGood_147 : decode cX11_isGood 147 = .ok (.aload_n 0, 1) := by decide +kernel
theorem dX11_isGood_148 : decode cX11_isGood 148 = .ok (.getfield 124, 3) := by decide +kernel
theorem dX11_isGood_151 : decode cX11_isGood 151 = .ok (.iload_n 3, 1) := by decide +kernel
theorem dX11_isGood_152 : decode cX11_isGood 152 = .ok (.iaload, 1) := by decide +kernel
theorem dX11_isGood_153 : decode cX11_isGood 153 = .ok (.invokevirtual 157, 3) := by decide +kernel
theorem dX11_isGood_156 : decode cX11_isGood 156 = .ok (.iload_n 2, 1) := by decide +kernel
theorem dX11_isGood_157 : decode cX11_isGood 157 = .ok (.iload_n 2, 1) := by decide +kernel
theorem dX11_isGood_158 : decode cX11_isGood 158 = .ok (.imul, 1) := by decide +kernel
theorem dX11_isGood_159 : decode cX11_isGood 159 = .ok (.if_icmp .ge 5, 3) := by decide +kernel
theorem dX11_isGood_162 : decode cX11_isGood 162 = .ok (.iconst 0, 1) := by decide +kernel
theorem dX11_isGood_163 : decode cX11_isGood 163 = .ok (.ireturn, 1) := by decide +kernel
theorem dX11_isGood_164 : decode cX11_isGood 164 = .ok (.iinc 4 1, 3) := by decide +kernel
theorem dX11_isGood_167 : decode cX11_isGood 167 = .ok (.goto (-99), 3) := by decide +kernel
theorem dX11_isGood_170 : decode cX11_isGood 170 = .ok (.iinc 3 1, 3) := by decide +kernel
theorem dX11_isGood_173 : decode cX11_isGood 173 = .ok (.goto (-155), 3) := by decide +kernel
theorem dX11_isGood_176 : decode cX11_isGood 176 = .ok (.iconst 1, 1) := by decide +kernel
theorem dX11_isGood_177 : decode cX11_isGood 177 = .ok (.ireturn, 1) := by decide +kernel
theorem dX11_findPlan_0 : decode cX11_findPlan 0 = .ok (.bipush 6, 2) := by decide +kernel
theorem dX11_findPlan_2 : decode cX11_findPlan 2 = .ok (.aload_n 0, 1) := by decide +kernel
theorem dX11_findPlan_3 : decode cX11_findPlan 3 = .ok (.getfield 130, 3) := by decide +kernel
theorem dX11_findPlan_6 : decode cX11_findPlan 6 = .ok (.invokestatic 144, 3) := by decide +kernel
theorem dX11_findPlan_9 : decode cX11_findPlan 9 = .ok (.istore_n 1, 1) := by decide +kernel
theorem dX11_findPlan_10 : decode cX11_findPlan 10 = .ok (.iconst (-1), 1) := by decide +kernel
theorem dX11_findPlan_11 : decode cX11_findPlan 11 = .ok (.istore_n 2, 1) := by decide +kernel
theorem dX11_findPlan_12 : decode cX11_findPlan 12 = .ok (.iconst 1, 1) := by decide +kernel
theorem dX11_findPlan_13 : decode cX11_findPlan 13 = .ok (.istore_n 3, 1) := by decide +kernel
theorem dX11_findPlan_14 : decode cX11_findPlan 14 = .ok (.iconst 0, 1) := by decide +kernel
theorem dX11_findPlan_15 : decode cX11_findPlan 15 = .ok (.istore 4, 2) := by decide +kernel
theorem dX11_findPlan_17 : decode cX11_findPlan 17 = .ok (.iload 4, 2) := by decide +kernel
theorem dX11_findPlan_19 : decode cX11_findPlan 19 = .ok (.aload_n 0, 1) := by decide +kernel
theorem dX11_findPlan_20 : decode cX11_findPlan 20 = .ok (.getfield 235, 3) := by decide +kernel
theorem dX11_findPlan_23 : decode cX11_findPlan 23 = .ok (.if_icmp .ge 15, 3) := by decide +kernel
theorem dX11_findPlan_26 : decode cX11_findPlan 26 = .ok (.iload_n 3, 1) := by decide +kernel
theorem dX11_findPlan_27 : decode cX11_findPlan 27 = .ok (.iload_n 1, 1) := by decide +kernel
theorem dX11_findPlan_28 : decode cX11_findPlan 28 = .ok (.iconst 1, 1) := by decide +kernel
theorem dX11_findPlan_29 : decode cX11_findPlan 29 = .ok (.iadd, 1) := by decide +kernel
theorem dX11_findPlan_30 : decode cX11_findPlan 30 = .ok (.imul, 1) := by decide +kernel
theorem dX11_findPlan_31 : decode cX11_findPlan 31 = .ok (.istore_n 3, 1) := by decide +kernel
theorem dX11_findPlan_32 : decode cX11_findPlan 32 = .ok (.iinc 4 1, 3) := by decide +kernel
theorem dX11_findPlan_35 : decode cX11_findPlan 35 = .ok (.goto (-18), 3) := by decide +kernel
theorem dX11_findPlan_38 : decode cX11_findPlan 38 = .ok (.iconst 0, 1) := by decide +kernel
theorem dX11_findPlan_39 : decode cX11_findPlan 39 = .ok (.istore 4, 2) := by decide +kernel
theorem dX11_findPlan_41 : decode cX11_findPlan 41 = .ok (.iload 4, 2) := by decide +kernel
theorem dX11_findPlan_43 : decode cX11_findPlan 43 = .ok (.iload_n 3, 1) := by decide +kernel
theorem dX11_findPlan_44 : decode cX11_findPlan 44 = .ok (.if_icmp .ge 141, 3) := by decide +kernel
theorem dX11_findPlan_47 : decode cX11_findPlan 47 = .ok (.iload 4, 2) := by decide +kernel
theorem dX11_findPlan_49 : decode cX11_findPlan 49 = .ok (.istore 5, 2) := by decide +kernel
theorem dX11_findPlan_51 : decode cX11_findPlan 51 = .ok (.iconst 0, 1) := by decide +kernel
theorem dX11_findPlan_52 : decode cX11_findPlan 52 = .ok (.istore 6, 2) := by decide +kernel
theorem dX11_findPlan_54 : decode cX11_findPlan 54 = .ok (.aload_n 0, 1) := by decide +kernel
theorem dX11_findPlan_55 : decode cX11_findPlan 55 = .ok (.getfield 235, 3) := by decide +kernel
theorem dX11_findPlan_58 : decode cX11_findPlan 58 = .ok (.iconst 1, 1) := by decide +kernel
theorem dX11_findPlan_59 : decode cX11_findPlan 59 = .ok (.isub, 1) := by decide +kernel
theorem dX11_findPlan_60 : decode cX11_findPlan 60 = .ok (.istore 7, 2) := by decide +kernel
theorem dX11_findPlan_62 : decode cX11_findPlan 62 = .ok (.iload 7, 2) := by decide +kernel
theorem dX11_findPlan_64 : decode cX11_findPlan 64 = .ok (.ifCond .lt 51, 3) := by decide +kernel
theorem dX11_findPlan_67 : decode cX11_findPlan 67 = .ok (.aload_n 0, 1) := by decide +kernel
theorem dX11_findPlan_68 : decode cX11_findPlan 68 = .ok (.getfield 124, 3) := by decide +kernel
theorem dX11_findPlan_71 : decode cX11_findPlan 71 = .ok (.iload 7, 2) := by decide +kernel
theorem dX11_findPlan_73 : decode cX11_findPlan 73 = .ok (.iload 5, 2) := by decide +kernel
theorem dX11_findPlan_75 : decode cX11_findPlan 75 = .ok (.iload_n 1, 1) := by decide +kernel
theorem dX11_findPlan_76 : decode cX11_findPlan 76 = .ok (.iconst 1, 1) := by decide +kernel
theorem dX11_findPlan_77 : decode cX11_findPlan 77 = .ok (.iadd, 1) := by decide +kernel
theorem dX11_findPlan_78 : decode cX11_findPlan 78 = .ok (.irem, 1) := by decide +kernel
theorem dX11_findPlan_79 : decode cX11_findPlan 79 = .ok (.iastore, 1) := by decide +kernel
theorem dX11_findPlan_80 : decode cX11_findPlan 80 = .ok (.iload 5, 2) := by decide +kernel
theorem dX11_findPlan_82 : decode cX11_findPlan 82 = .ok (.iload_n 1, 1) := by decide +kernel
theorem dX11_findPlan_83 : decode cX11_findPlan 83 = .ok (.iconst 1, 1) := by decide +kernel
theorem dX11_findPlan_84 : decode cX11_findPlan 84 = .ok (.iadd, 1) := by decide +kernel
theorem dX11_findPlan_85 : decode cX11_findPlan 85 = .ok (.idiv, 1) := by decide +kernel
theorem dX11_findPlan_86 : decode cX11_findPlan 86 = .ok (.istore 5, 2) := by decide +kernel
theorem dX11_findPlan_88 : decode cX11_findPlan 88 = .ok (.iload 6, 2) := by decide +kernel
theorem dX11_findPlan_90 : decode cX11_findPlan 90 = .ok (.aload_n 0, 1) := by decide +kernel
theorem dX11_findPlan_91 : decode cX11_findPlan 91 = .ok (.getfield 124, 3) := by decide +kernel
theorem dX11_findPlan_94 : decode cX11_findPlan 94 = .ok (.iload 7, 2) := by decide +kernel
theorem dX11_findPlan_96 : decode cX11_findPlan 96 = .ok (.iaload, 1) := by decide +kernel
theorem dX11_findPlan_97 : decode cX11_findPlan 97 = .ok (.iload_n 1, 1) := by decide +kernel
theorem dX11_findPlan_98 : decode cX11_findPlan 98 = .ok (.if_icmp .ge 7, 3) := by decide +kernel
theorem dX11_findPlan_101 : decode cX11_findPlan 101 = .ok (.iconst 1, 1) := by decide +kernel
theorem dX11_findPlan_102 : decode cX11_findPlan 102 = .ok (.goto 4, 3) := by decide +kernel
theorem dX11_findPlan_105 : decode cX11_findPlan 105 = .ok (.iconst 0, 1) := by decide +kernel
theorem dX11_findPlan_106 : decode cX11_findPlan 106 = .ok (.iadd, 1) := by decide +kernel
theorem dX11_findPlan_107 : decode cX11_findPlan 107 = .ok (.istore 6, 2) := by decide +kernel
theorem dX11_findPlan_109 : decode cX11_findPlan 109 = .ok (.iinc 7 (-1), 3) := by decide +kernel
theorem dX11_findPlan_112 : decode cX11_findPlan 112 = .ok (.goto (-50), 3) := by decide +kernel
theorem dX11_findPlan_115 : decode cX11_findPlan 115 = .ok (.iload 6, 2) := by decide +kernel
theorem dX11_findPlan_117 : decode cX11_findPlan 117 = .ok (.iload_n 2, 1) := by decide +kernel
theorem dX11_findPlan_118 : decode cX11_findPlan 118 = .ok (.if_icmp .le 61, 3) := by decide +kernel
theorem dX11_findPlan_121 : decode cX11_findPlan 121 = .ok (.aload_n 0, 1) := by decide +kernel
theorem dX11_findPlan_122 : decode cX11_findPlan 122 = .ok (.iload_n 1, 1) := by decide +kernel
theorem dX11_findPlan_123 : decode cX11_findPlan 123 = .ok (.invokevirtual 241, 3) := by decide +kernel
theorem dX11_findPlan_126 : decode cX11_findPlan 126 = .ok (.ifCond .eq 53, 3) := by decide +kernel
theorem dX11_findPlan_129 : decode cX11_findPlan 129 = .ok (.iload 6, 2) := by decide +kernel
theorem dX11_findPlan_131 : decode cX11_findPlan 131 = .ok (.istore_n 2, 1) := by decide +kernel
theorem dX11_findPlan_132 : decode cX11_findPlan 132 = .ok (.iconst 0, 1) := by decide +kernel
theorem dX11_findPlan_133 : decode cX11_findPlan 133 = .ok (.istore 7, 2) := by decide +kernel
theorem dX11_findPlan_135 : decode cX11_findPlan 135 = .ok (.iload 7, 2) := by decide +kernel
theorem dX11_findPlan_137 : decode cX11_findPlan 137 = .ok (.aload_n 0, 1) := by decide +kernel
theorem dX11_findPlan_138 : decode cX11_findPlan 138 = .ok (.getfield 235, 3) := by decide +kernel
theorem dX11_findPlan_141 : decode cX11_findPlan 141 = .ok (.if_icmp .ge 38, 3) := by decide +kernel
theorem dX11_findPlan_144 : decode cX11_findPlan 144 = .ok (.aload_n 0, 1) := by decide +kernel
theorem dX11_findPlan_145 : decode cX11_findPlan 145 = .ok (.getfield 127, 3) := by decide +kernel
theorem dX11_findPlan_148 : decode cX11_findPlan 148 = .ok (.iload 7, 2) := by decide +kernel
theorem dX11_findPlan_150 : decode cX11_findPlan 150 = .ok (.aload_n 0, 1) := by decide +kernel
theorem dX11_findPlan_151 : decode cX11_findPlan 151 = .ok (.getfield 124, 3) := by decide +kernel
theorem dX11_findPlan_154 : decode cX11_findPlan 154 = .ok (.iload 7, 2) := by decide +kernel
theorem dX11_findPlan_156 : decode cX11_findPlan 156 = .ok (.iaload, 1) := by decide +kernel
theorem dX11_findPlan_157 : decode cX11_findPlan 157 = .ok (.iload_n 1, 1) := by decide +kernel
theorem dX11_findPlan_158 : decode cX11_findPlan 158 = .ok (.if_icmp .ge 13, 3) := by decide +kernel
theorem dX11_findPlan_161 : decode cX11_findPlan 161 = .ok (.aload_n 0, 1) := by decide +kernel
theorem dX11_findPlan_162 : decode cX11_findPlan 162 = .ok (.getfield 124, 3) := by decide +kernel
theorem dX11_findPlan_165 : decode cX11_findPlan 165 = .ok (.iload 7, 2) := by decide +kernel
theorem dX11_findPlan_167 : decode cX11_findPlan 167 = .ok (.iaload, 1) := by decide +kernel
theorem dX11_findPlan_168 : decode cX11_findPlan 168 = .ok (.goto 4, 3) := by decide +kernel
theorem dX11_findPlan_171 : decode cX11_findPlan 171 = .ok (.iconst (-1), 1) := by decide +kernel
theorem dX11_findPlan_172 : decode cX11_findPlan 172 = .ok (.iastore, 1) := by decide +kernel
theorem dX11_findPlan_173 : decode cX11_findPlan 173 = .ok (.iinc 7 1, 3) := by decide +kernel
theorem dX11_findPlan_176 : decode cX11_findPlan 176 = .ok (.goto (-41), 3) := by decide +kernel
theorem dX11_findPlan_179 : decode cX11_findPlan 179 = .ok (.iinc 4 1, 3) := by decide +kernel
theorem dX11_findPlan_182 : decode cX11_findPlan 182 = .ok (.goto (-141), 3) := by decide +kernel
theorem dX11_findPlan_185 : decode cX11_findPlan 185 = .ok (.return_, 1) := by decide +kernel
theorem dX11_plan_0 : decode cX11_plan 0 = .ok (.iload_n 1, 1) := by decide +kernel
theorem dX11_plan_1 : decode cX11_plan 1 = .ok (.iconst 0, 1) := by decide +kernel
theorem dX11_plan_2 : decode cX11_plan 2 = .ok (.aload_n 0, 1) := by decide +kernel
theorem dX11_plan_3 : decode cX11_plan 3 = .ok (.getfield 235, 3) := by decide +kernel
theorem dX11_plan_6 : decode cX11_plan 6 = .ok (.iconst 1, 1) := by decide +kernel
theorem dX11_plan_7 : decode cX11_plan 7 = .ok (.isub, 1) := by decide +kernel
theorem dX11_plan_8 : decode cX11_plan 8 = .ok (.invokestatic 134, 3) := by decide +kernel
theorem dX11_plan_11 : decode cX11_plan 11 = .ok (.ifCond .ne 5, 3) := by decide +kernel
theorem dX11_plan_14 : decode cX11_plan 14 = .ok (.iconst (-1), 1) := by decide +kernel
theorem dX11_plan_15 : decode cX11_plan 15 = .ok (.ireturn, 1) := by decide +kernel
theorem dX11_plan_16 : decode cX11_plan 16 = .ok (.aload_n 0, 1) := by decide +kernel
theorem dX11_plan_17 : decode cX11_plan 17 = .ok (.invokevirtual 244, 3) := by decide +kernel
theorem dX11_plan_20 : decode cX11_plan 20 = .ok (.aload_n 0, 1) := by decide +kernel
theorem dX11_plan_21 : decode cX11_plan 21 = .ok (.getfield 127, 3) := by decide +kernel
theorem dX11_plan_24 : decode cX11_plan 24 = .ok (.iload_n 1, 1) := by decide +kernel
theorem dX11_plan_25 : decode cX11_plan 25 = .ok (.iaload, 1) := by decide +kernel
theorem dX11_plan_26 : decode cX11_plan 26 = .ok (.ireturn, 1) := by decide +kernel
theorem dX11_told_0 : decode cX11_told 0 = .ok (.aload_n 0, 1) := by decide +kernel
theorem dX11_told_1 : decode cX11_told 1 = .ok (.iload_n 1, 1) := by decide +kernel
theorem dX11_told_2 : decode cX11_told 2 = .ok (.invokevirtual 186, 3) := by decide +kernel
theorem dX11_told_5 : decode cX11_told 5 = .ok (.ifCond .ne 5, 3) := by decide +kernel
theorem dX11_told_8 : decode cX11_told 8 = .ok (.iconst (-1), 1) := by decide +kernel
theorem dX11_told_9 : decode cX11_told 9 = .ok (.ireturn, 1) := by decide +kernel
theorem dX11_told_10 : decode cX11_told 10 = .ok (.iload_n 2, 1) := by decide +kernel
theorem dX11_told_11 : decode cX11_told 11 = .ok (.tableswitch 170 0 13 #[69, 76, 83, 90, 97, 104, 111, 118, 125, 132, 139, 146, 153, 163], 69) := by decide +kernel
theorem dX11_told_80 : decode cX11_told 80 = .ok (.aload_n 0, 1) := by decide +kernel
theorem dX11_told_81 : decode cX11_told 81 = .ok (.getfield 46, 3) := by decide +kernel
theorem dX11_told_84 : decode cX11_told 84 = .ok (.iload_n 1, 1) := by decide +kernel
theorem dX11_told_85 : decode cX11_told 85 = .ok (.iaload, 1) := by decide +kernel
theorem dX11_told_86 : decode cX11_told 86 = .ok (.ireturn, 1) := by decide +kernel
theorem dX11_told_87 : decode cX11_told 87 = .ok (.aload_n 0, 1) := by decide +kernel
theorem dX11_told_88 : decode cX11_told 88 = .ok (.getfield 49, 3) := by decide +kernel
theorem dX11_told_91 : decode cX11_told 91 = .ok (.iload_n 1, 1) := by decide +kernel
theorem dX11_told_92 : decode cX11_told 92 = .ok (.iaload, 1) := by decide +kernel
theorem dX11_told_93 : decode cX11_told 93 = .ok (.ireturn, 1) := by decide +kernel
theorem dX11_told_94 : decode cX11_told 94 = .ok (.aload_n 0, 1) := by decide +kernel
theorem dX11_told_95 : decode cX11_told 95 = .ok (.getfield 52, 3) := by decide +kernel
theorem dX11_told_98 : decode cX11_told 98 = .ok (.iload_n 1, 1) := by decide +kernel
theorem dX11_told_99 : decode cX11_told 99 = .ok (.iaload, 1) := by decide +kernel
theorem dX11_told_100 : decode cX11_told 100 = .ok (.ireturn, 1) := by decide +kernel
theorem dX11_told_101 : decode cX11_told 101 = .ok (.aload_n 0, 1) := by decide +kernel
theorem dX11_told_102 : decode cX11_told 102 = .ok (.getfield 55, 3) := by decide +kernel
theorem dX11_told_105 : decode cX11_told 105 = .ok (.iload_n 1, 1) := by decide +kernel
theorem dX11_told_106 : decode cX11_told 106 = .ok (.iaload, 1) := by decide +kernel
theorem dX11_told_107 : decode cX11_told 107 = .ok (.ireturn, 1) := by decide +kernel
theorem dX11_told_108 : decode cX11_told 108 = .ok (.aload_n 0, 1) := by decide +kernel
theorem dX11_told_109 : decode cX11_told 109 = .ok (.getfield 58, 3) := by decide +kernel
theorem dX11_told_112 : decode cX11_told 112 = .ok (.iload_n 1, 1) := by decide +kernel
theorem dX11_told_113 : decode cX11_told 113 = .ok (.iaload, 1) := by decide +kernel
theorem dX11_told_114 : decode cX11_told 114 = .ok (.ireturn, 1) := by decide +kernel
theorem dX11_told_115 : decode cX11_told 115 = .ok (.aload_n 0, 1) := by decide +kernel
theorem dX11_told_116 : decode cX11_told 116 = .ok (.getfield 61, 3) := by decide +kernel
theorem dX11_told_119 : decode cX11_told 119 = .ok (.iload_n 1, 1) := by decide +kernel
theorem dX11_told_120 : decode cX11_told 120 = .ok (.iaload, 1) := by decide +kernel
theorem dX11_told_121 : decode cX11_told 121 = .ok (.ireturn, 1) := by decide +kernel
theorem dX11_told_122 : decode cX11_told 122 = .ok (.aload_n 0, 1) := by decide +kernel
theorem dX11_told_123 : decode cX11_told 123 = .ok (.getfield 64, 3) := by decide +kernel
theorem dX11_told_126 : decode cX11_told 126 = .ok (.iload_n 1, 1) := by decide +kernel
theorem dX11_told_127 : decode cX11_told 127 = .ok (.iaload, 1) := by decide +kernel
theorem dX11_told_128 : decode cX11_told 128 = .ok (.ireturn, 1) := by decide +kernel
theorem dX11_told_129 : decode cX11_told 129 = .ok (.aload_n 0, 1) := by decide +kernel
theorem dX11_told_130 : decode cX11_told 130 = .ok (.getfield 67, 3) := by decide +kernel
theorem dX11_told_133 : decode cX11_told 133 = .ok (.iload_n 1, 1) := by decide +kernel
theorem dX11_told_134 : decode cX11_told 134 = .ok (.iaload, 1) := by decide +kernel
theorem dX11_told_135 : decode cX11_told 135 = .ok (.ireturn, 1) := by decide +kernel
theorem dX11_told_136 : decode cX11_told 136 = .ok (.aload_n 0, 1) := by decide +kernel
theorem dX11_told_137 : decode cX11_told 137 = .ok (.getfield 70, 3) := by decide +kernel
theorem dX11_told_140 : decode cX11_told 140 = .ok (.iload_n 1, 1) := by decide +kernel
theorem dX11_told_141 : decode cX11_told 141 = .ok (.iaload, 1) := by decide +kernel
theorem dX11_told_142 : decode cX11_told 142 = .ok (.ireturn, 1) := by decide +kernel
theorem dX11_told_143 : decode cX11_told 143 = .ok (.aload_n 0, 1) := by decide +kernel
theorem dX11_told_144 : decode cX11_told 144 = .ok (.getfield 73, 3) := by decide +kernel
theorem dX11_told_147 : decode cX11_told 147 = .ok (.iload_n 1, 1) := by decide +kernel
theorem dX11_told_148 : decode cX11_told 148 = .ok (.iaload, 1) := by decide +kernel
theorem dX11_told_149 : decode cX11_told 149 = .ok (.ireturn, 1) := by decide +kernel
theorem dX11_told_150 : decode cX11_told 150 = .ok (.aload_n 0, 1) := by decide +kernel
theorem dX11_told_151 : decode cX11_told 151 = .ok (.getfield 76, 3) := by decide +kernel
theorem dX11_told_154 : decode cX11_told 154 = .ok (.iload_n 1, 1) := by decide +kernel
theorem dX11_told_155 : decode cX11_told 155 = .ok (.iaload, 1) := by decide +kernel
theorem dX11_told_156 : decode cX11_told 156 = .ok (.ireturn, 1) := by decide +kernel
theorem dX11_told_157 : decode cX11_told 157 = .ok (.aload_n 0, 1) := by decide +kernel
theorem dX11_told_158 : decode cX11_told 158 = .ok (.getfield 79, 3) := by decide +kernel
theorem dX11_told_161 : decode cX11_told 161 = .ok (.iload_n 1, 1) := by decide +kernel
theorem dX11_told_162 : decode cX11_told 162 = .ok (.iaload, 1) := by decide +kernel
theorem dX11_told_163 : decode cX11_told 163 = .ok (.ireturn, 1) := by decide +kernel
theorem dX11_told_164 : decode cX11_told 164 = .ok (.aload_n 0, 1) := by decide +kernel
theorem dX11_told_165 : decode cX11_told 165 = .ok (.iload_n 1, 1) := by decide +kernel
theorem dX11_told_166 : decode cX11_told 166 = .ok (.aload_n 0, 1) := by decide +kernel
theorem dX11_told_167 : decode cX11_told 167 = .ok (.getfield 141, 3) := by decide +kernel
theorem dX11_told_170 : decode cX11_told 170 = .ok (.invokevirtual 205, 3) := by decide +kernel
theorem dX11_told_173 : decode cX11_told 173 = .ok (.ireturn, 1) := by decide +kernel
theorem dX11_told_174 : decode cX11_told 174 = .ok (.aload_n 0, 1) := by decide +kernel
theorem dX11_told_175 : decode cX11_told 175 = .ok (.getfield 82, 3) := by decide +kernel
theorem dX11_told_178 : decode cX11_told 178 = .ok (.iload_n 1, 1) := by decide +kernel
theorem dX11_told_179 : decode cX11_told 179 = .ok (.iaload, 1) := by decide +kernel
theorem dX11_told_180 : decode cX11_told 180 = .ok (.ireturn, 1) := by decide +kernel
theorem dX11_told_181 : decode cX11_told 181 = .ok (.iconst (-1), 1) := by decide +kernel
theorem dX11_told_182 : decode cX11_told 182 = .ok (.ireturn, 1) := by decide +kernel
theorem dX11_sack_0 : decode cX11_sack 0 = .ok (.aload_n 0, 1) := by decide +kernel
theorem dX11_sack_1 : decode cX11_sack 1 = .ok (.iload_n 1, 1) := by decide +kernel
theorem dX11_sack_2 : decode cX11_sack 2 = .ok (.invokevirtual 199, 3) := by decide +kernel
theorem dX11_sack_5 : decode cX11_sack 5 = .ok (.ifCond .ne 5, 3) := by decide +kernel
theorem dX11_sack_8 : decode cX11_sack 8 = .ok (.iconst (-1), 1) := by decide +kernel
theorem dX11_sack_9 : decode cX11_sack 9 = .ok (.ireturn, 1) := by decide +kernel
theorem dX11_sack_10 : decode cX11_sack 10 = .ok (.iload_n 2, 1) := by decide +kernel
theorem dX11_sack_11 : decode cX11_sack 11 = .ok (.ifCond .ne 12, 3) := by decide +kernel
theorem dX11_sack_14 : decode cX11_sack 14 = .ok (.aload_n 0, 1) := by decide +kernel
theorem dX11_sack_15 : decode cX11_sack 15 = .ok (.getfield 97, 3) := by decide +kernel
theorem dX11_sack_18 : decode cX11_sack 18 = .ok (.iload_n 1, 1) := by decide +kernel
theorem dX11_sack_19 : decode cX11_sack 19 = .ok (.iaload, 1) := by decide +kernel
theorem dX11_sack_20 : decode cX11_sack 20 = .ok (.goto 46, 3) := by decide +kernel
theorem dX11_sack_23 : decode cX11_sack 23 = .ok (.iload_n 2, 1) := by decide +kernel
theorem dX11_sack_24 : decode cX11_sack 24 = .ok (.iconst 1, 1) := by decide +kernel
theorem dX11_sack_25 : decode cX11_sack 25 = .ok (.if_icmp .ne 12, 3) := by decide +kernel
theorem dX11_sack_28 : decode cX11_sack 28 = .ok (.aload_n 0, 1) := by decide +kernel
theorem dX11_sack_29 : decode cX11_sack 29 = .ok (.getfield 100, 3) := by decide +kernel
theorem dX11_sack_32 : decode cX11_sack 32 = .ok (.iload_n 1, 1) := by decide +kernel
theorem dX11_sack_33 : decode cX11_sack 33 = .ok (.iaload, 1) := by decide +kernel
theorem dX11_sack_34 : decode cX11_sack 34 = .ok (.goto 32, 3) := by decide +kernel
theorem dX11_sack_37 : decode cX11_sack 37 = .ok (.iload_n 2, 1) := by decide +kernel
theorem dX11_sack_38 : decode cX11_sack 38 = .ok (.iconst 2, 1) := by decide +kernel
theorem dX11_sack_39 : decode cX11_sack 39 = .ok (.if_icmp .ne 12, 3) := by decide +kernel
theorem dX11_sack_42 : decode cX11_sack 42 = .ok (.aload_n 0, 1) := by decide +kernel
theorem dX11_sack_43 : decode cX11_sack 43 = .ok (.getfield 103, 3) := by decide +kernel
theorem dX11_sack_46 : decode cX11_sack 46 = .ok (.iload_n 1, 1) := by decide +kernel
theorem dX11_sack_47 : decode cX11_sack 47 = .ok (.iaload, 1) := by decide +kernel
theorem dX11_sack_48 : decode cX11_sack 48 = .ok (.goto 18, 3) := by decide +kernel
theorem dX11_sack_51 : decode cX11_sack 51 = .ok (.iload_n 2, 1) := by decide +kernel
theorem dX11_sack_52 : decode cX11_sack 52 = .ok (.iconst 3, 1) := by decide +kernel
theorem dX11_sack_53 : decode cX11_sack 53 = .ok (.if_icmp .ne 12, 3) := by decide +kernel
theorem dX11_sack_56 : decode cX11_sack 56 = .ok (.aload_n 0, 1) := by decide +kernel
theorem dX11_sack_57 : decode cX11_sack 57 = .ok (.getfield 106, 3) := by decide +kernel
theorem dX11_sack_60 : decode cX11_sack 60 = .ok (.iload_n 1, 1) := by decide +kernel
theorem dX11_sack_61 : decode cX11_sack 61 = .ok (.iaload, 1) := by decide +kernel
theorem dX11_sack_62 : decode cX11_sack 62 = .ok (.goto 4, 3) := by decide +kernel
theorem dX11_sack_65 : decode cX11_sack 65 = .ok (.iconst (-1), 1) := by decide +kernel
theorem dX11_sack_66 : decode cX11_sack 66 = .ok (.ireturn, 1) := by decide +kernel
theorem dX11_outs_0 : decode cX11_outs 0 = .ok (.iconst 0, 1) := by decide +kernel
theorem dX11_outs_1 : decode cX11_outs 1 = .ok (.istore_n 1, 1) := by decide +kernel
theorem dX11_outs_2 : decode cX11_outs 2 = .ok (.aload_n 0, 1) := by decide +kernel
theorem dX11_outs_3 : decode cX11_outs 3 = .ok (.iconst 0, 1) := by decide +kernel
theorem dX11_outs_4 : decode cX11_outs 4 = .ok (.aload_n 0, 1) := by decide +kernel
theorem dX11_outs_5 : decode cX11_outs 5 = .ok (.getfield 141, 3) := by decide +kernel
theorem dX11_outs_8 : decode cX11_outs 8 = .ok (.invokevirtual 193, 3) := by decide +kernel
theorem dX11_outs_11 : decode cX11_outs 11 = .ok (.pop, 1) := by decide +kernel
theorem dX11_outs_12 : decode cX11_outs 12 = .ok (.iconst 0, 1) := by decide +kernel
theorem dX11_outs_13 : decode cX11_outs 13 = .ok (.istore_n 2, 1) := by decide +kernel
theorem dX11_outs_14 : decode cX11_outs 14 = .ok (.iload_n 2, 1) := by decide +kernel
theorem dX11_outs_15 : decode cX11_outs 15 = .ok (.aload_n 0, 1) := by decide +kernel
theorem dX11_outs_16 : decode cX11_outs 16 = .ok (.getfield 138, 3) := by decide +kernel
theorem dX11_outs_19 : decode cX11_outs 19 = .ok (.if_icmp .ge 28, 3) := by decide +kernel
theorem dX11_outs_22 : decode cX11_outs 22 = .ok (.iload_n 1, 1) := by decide +kernel
theorem dX11_outs_23 : decode cX11_outs 23 = .ok (.aload_n 0, 1) := by decide +kernel
theorem dX11_outs_24 : decode cX11_outs 24 = .ok (.getfield 115, 3) := by decide +kernel
theorem dX11_outs_27 : decode cX11_outs 27 = .ok (.iload_n 2, 1) := by decide +kernel
theorem dX11_outs_28 : decode cX11_outs 28 = .ok (.iaload, 1) := by decide +kernel
theorem dX11_outs_29 : decode cX11_outs 29 = .ok (.bipush 9, 2) := by decide +kernel
theorem dX11_outs_31 : decode cX11_outs 31 = .ok (.if_icmp .ne 7, 3) := by decide +kernel
theorem dX11_outs_34 : decode cX11_outs 34 = .ok (.iconst 1, 1) := by decide +kernel
theorem dX11_outs_35 : decode cX11_outs 35 = .ok (.goto 4, 3) := by decide +kernel
theorem dX11_outs_38 : decode cX11_outs 38 = .ok (.iconst 0, 1) := by decide +kernel
theorem dX11_outs_39 : decode cX11_outs 39 = .ok (.iadd, 1) := by decide +kernel
theorem dX11_outs_40 : decode cX11_outs 40 = .ok (.istore_n 1, 1) := by decide +kernel
theorem dX11_outs_41 : decode cX11_outs 41 = .ok (.iinc 2 1, 3) := by decide +kernel
theorem dX11_outs_44 : decode cX11_outs 44 = .ok (.goto (-30), 3) := by decide +kernel
theorem dX11_outs_47 : decode cX11_outs 47 = .ok (.iload_n 1, 1) := by decide +kernel
theorem dX11_outs_48 : decode cX11_outs 48 = .ok (.ireturn, 1) := by decide +kernel
theorem dX11_count_0 : decode cX11_count 0 = .ok (.iload_n 1, 1) := by decide +kernel
theorem dX11_count_1 : decode cX11_count 1 = .ok (.tableswitch 96 0 8 #[51, 56, 61, 66, 71, 76, 81, 86, 91], 51) := by decide +kernel
theorem dX11_count_52 : decode cX11_count 52 = .ok (.aload_n 0, 1) := by decide +kernel
theorem dX11_count_53 : decode cX11_count 53 = .ok (.getfield 141, 3) := by decide +kernel
theorem dX11_count_56 : decode cX11_count 56 = .ok (.ireturn, 1) := by decide +kernel
theorem dX11_count_57 : decode cX11_count 57 = .ok (.aload_n 0, 1) := by decide +kernel
theorem dX11_count_58 : decode cX11_count 58 = .ok (.getfield 130, 3) := by decide +kernel
theorem dX11_count_61 : decode cX11_count 61 = .ok (.ireturn, 1) := by decide +kernel
theorem dX11_count_62 : decode cX11_count 62 = .ok (.aload_n 0, 1) := by decide +kernel
theorem dX11_count_63 : decode cX11_count 63 = .ok (.getfield 138, 3) := by decide +kernel
theorem dX11_count_66 : decode cX11_count 66 = .ok (.ireturn, 1) := by decide +kernel
theorem dX11_count_67 : decode cX11_count 67 = .ok (.aload_n 0, 1) := by decide +kernel
theorem dX11_count_68 : decode cX11_count 68 = .ok (.getfield 190, 3) := by decide +kernel
theorem dX11_count_71 : decode cX11_count 71 = .ok (.ireturn, 1) := by decide +kernel
theorem dX11_count_72 : decode cX11_count 72 = .ok (.aload_n 0, 1) := by decide +kernel
theorem dX11_count_73 : decode cX11_count 73 = .ok (.getfield 196, 3) := by decide +kernel
theorem dX11_count_76 : decode cX11_count 76 = .ok (.ireturn, 1) := by decide +kernel
theorem dX11_count_77 : decode cX11_count 77 = .ok (.aload_n 0, 1) := by decide +kernel
theorem dX11_count_78 : decode cX11_count 78 = .ok (.getfield 177, 3) := by decide +kernel
theorem dX11_count_81 : decode cX11_count 81 = .ok (.ireturn, 1) := by decide +kernel
theorem dX11_count_82 : decode cX11_count 82 = .ok (.aload_n 0, 1) := by decide +kernel
theorem dX11_count_83 : decode cX11_count 83 = .ok (.getfield 202, 3) := by decide +kernel
theorem dX11_count_86 : decode cX11_count 86 = .ok (.ireturn, 1) := by decide +kernel
theorem dX11_count_87 : decode cX11_count 87 = .ok (.aload_n 0, 1) := by decide +kernel
theorem dX11_count_88 : decode cX11_count 88 = .ok (.invokevirtual 247, 3) := by decide +kernel
theorem dX11_count_91 : decode cX11_count 91 = .ok (.ireturn, 1) := by decide +kernel
theorem dX11_count_92 : decode cX11_count 92 = .ok (.aload_n 0, 1) := by decide +kernel
theorem dX11_count_93 : decode cX11_count 93 = .ok (.getfield 235, 3) := by decide +kernel
theorem dX11_count_96 : decode cX11_count 96 = .ok (.ireturn, 1) := by decide +kernel
theorem dX11_count_97 : decode cX11_count 97 = .ok (.iconst (-1), 1) := by decide +kernel
theorem dX11_count_98 : decode cX11_count 98 = .ok (.ireturn, 1) := by decide +kernel
end
section
theorem dX0_init_0 : decode cX0_init 0 = .ok (.aload_n 0, 1) := by decide +kernel
theorem dX0_init_1 : decode cX0_init 1 = .ok (.invokespecial 3, 3) := by decide +kernel
theorem dX0_init_4 : decode cX0_init 4 = .ok (.aload_n 0, 1) := by decide +kernel
theorem dX0_init_5 : decode cX0_init 5 = .ok (.aload_n 1, 1) := by decide +kernel
theorem dX0_init_6 : decode cX0_init 6 = .ok (.putfield 9, 3) := by decide +kernel
theorem dX0_init_9 : decode cX0_init 9 = .ok (.return_, 1) := by decide +kernel
theorem dX0_assessUpTo_0 : decode cX0_assessUpTo 0 = .ok (.iconst 0, 1) := by decide +kernel
theorem dX0_assessUpTo_1 : decode cX0_assessUpTo 1 = .ok (.istore_n 3, 1) := by decide +kernel
theorem dX0_assessUpTo_2 : decode cX0_assessUpTo 2 = .ok (.iload_n 3, 1) := by decide +kernel
theorem dX0_assessUpTo_3 : decode cX0_assessUpTo 3 = .ok (.aload_n 0, 1) := by decide +kernel
theorem dX0_assessUpTo_4 : decode cX0_assessUpTo 4 = .ok (.getfield 9, 3) := by decide +kernel
theorem dX0_assessUpTo_7 : decode cX0_assessUpTo 7 = .ok (.getfield 15, 3) := by decide +kernel
theorem dX0_assessUpTo_10 : decode cX0_assessUpTo 10 = .ok (.if_icmp .ge 39, 3) := by decide +kernel
theorem dX0_assessUpTo_13 : decode cX0_assessUpTo 13 = .ok (.aload_n 0, 1) := by decide +kernel
theorem dX0_assessUpTo_14 : decode cX0_assessUpTo 14 = .ok (.getfield 9, 3) := by decide +kernel
theorem dX0_assessUpTo_17 : decode cX0_assessUpTo 17 = .ok (.iload_n 3, 1) := by decide +kernel
theorem dX0_assessUpTo_18 : decode cX0_assessUpTo 18 = .ok (.invokevirtual 21, 3) := by decide +kernel
theorem dX0_assessUpTo_21 : decode cX0_assessUpTo 21 = .ok (.astore 4, 2) := by decide +kernel
theorem dX0_assessUpTo_23 : decode cX0_assessUpTo 23 = .ok (.aload 4, 2) := by decide +kernel
theorem dX0_assessUpTo_25 : decode cX0_assessUpTo 25 = .ok (.ifnull 18, 3) := by decide +kernel
theorem dX0_assessUpTo_28 : decode cX0_assessUpTo 28 = .ok (.aload 4, 2) := by decide +kernel
theorem dX0_assessUpTo_30 : decode cX0_assessUpTo 30 = .ok (.getfield 25, 3) := by decide +kernel
theorem dX0_assessUpTo_33 : decode cX0_assessUpTo 33 = .ok (.ifCond .ne 10, 3) := by decide +kernel
theorem dX0_assessUpTo_36 : decode cX0_assessUpTo 36 = .ok (.aload_n 0, 1) := by decide +kernel
theorem dX0_assessUpTo_37 : decode cX0_assessUpTo 37 = .ok (.aload 4, 2) := by decide +kernel
theorem dX0_assessUpTo_39 : decode cX0_assessUpTo 39 = .ok (.iload_n 2, 1) := by decide +kernel
theorem dX0_assessUpTo_40 : decode cX0_assessUpTo 40 = .ok (.invokevirtual 30, 3) := by decide +kernel
theorem dX0_assessUpTo_43 : decode cX0_assessUpTo 43 = .ok (.iinc 3 1, 3) := by decide +kernel
theorem dX0_assessUpTo_46 : decode cX0_assessUpTo 46 = .ok (.goto (-44), 3) := by decide +kernel
theorem dX0_assessUpTo_49 : decode cX0_assessUpTo 49 = .ok (.iconst 0, 1) := by decide +kernel
theorem dX0_assessUpTo_50 : decode cX0_assessUpTo 50 = .ok (.istore_n 3, 1) := by decide +kernel
theorem dX0_assessUpTo_51 : decode cX0_assessUpTo 51 = .ok (.iload_n 3, 1) := by decide +kernel
theorem dX0_assessUpTo_52 : decode cX0_assessUpTo 52 = .ok (.iload_n 1, 1) := by decide +kernel
theorem dX0_assessUpTo_53 : decode cX0_assessUpTo 53 = .ok (.if_icmp .gt 50, 3) := by decide +kernel
theorem dX0_assessUpTo_56 : decode cX0_assessUpTo 56 = .ok (.iload_n 3, 1) := by decide +kernel
theorem dX0_assessUpTo_57 : decode cX0_assessUpTo 57 = .ok (.aload_n 0, 1) := by decide +kernel
theorem dX0_assessUpTo_58 : decode cX0_assessUpTo 58 = .ok (.getfield 9, 3) := by decide +kernel
theorem dX0_assessUpTo_61 : decode cX0_assessUpTo 61 = .ok (.getfield 15, 3) := by decide +kernel
theorem dX0_assessUpTo_64 : decode cX0_assessUpTo 64 = .ok (.if_icmp .ge 39, 3) := by decide +kernel
theorem dX0_assessUpTo_67 : decode cX0_assessUpTo 67 = .ok (.aload_n 0, 1) := by decide +kernel
theorem dX0_assessUpTo_68 : decode cX0_assessUpTo 68 = .ok (.getfield 9, 3) := by decide +kernel
theorem dX0_assessUpTo_71 : decode cX0_assessUpTo 71 = .ok (.iload_n 3, 1) := by decide +kernel
theorem dX0_assessUpTo_72 : decode cX0_assessUpTo 72 = .ok (.invokevirtual 21, 3) := by decide +kernel
theorem dX0_assessUpTo_75 : decode cX0_assessUpTo 75 = .ok (.astore 4, 2) := by decide +kernel
theorem dX0_assessUpTo_77 : decode cX0_assessUpTo 77 = .ok (.aload 4, 2) := by decide +kernel
theorem dX0_assessUpTo_79 : decode cX0_assessUpTo 79 = .ok (.ifnull 18, 3) := by decide +kernel
theorem dX0_assessUpTo_82 : decode cX0_assessUpTo 82 = .ok (.aload 4, 2) := by decide +kernel
theorem dX0_assessUpTo_84 : decode cX0_assessUpTo 84 = .ok (.getfield 25, 3) := by decide +kernel
theorem dX0_assessUpTo_87 : decode cX0_assessUpTo 87 = .ok (.ifCond .eq 10, 3) := by decide +kernel
theorem dX0_assessUpTo_90 : decode cX0_assessUpTo 90 = .ok (.aload_n 0, 1) := by decide +kernel
theorem dX0_assessUpTo_91 : decode cX0_assessUpTo 91 = .ok (.aload 4, 2) := by decide +kernel
theorem dX0_assessUpTo_93 : decode cX0_assessUpTo 93 = .ok (.iload_n 2, 1) := by decide +kernel
theorem dX0_assessUpTo_94 : decode cX0_assessUpTo 94 = .ok (.invokevirtual 30, 3) := by decide +kernel
theorem dX0_assessUpTo_97 : decode cX0_assessUpTo 97 = .ok (.iinc 3 1, 3) := by decide +kernel
theorem dX0_assessUpTo_100 : decode cX0_assessUpTo 100 = .ok (.goto (-49), 3) := by decide +kernel
theorem dX0_assessUpTo_103 : decode cX0_assessUpTo 103 = .ok (.return_, 1) := by decide +kernel
theorem dX0_countOut_0 : decode cX0_countOut 0 = .ok (.aload_n 0, 1) := by decide +kernel
theorem dX0_countOut_1 : decode cX0_countOut 1 = .ok (.aload_n 0, 1) := by decide +kernel
theorem dX0_countOut_2 : decode cX0_countOut 2 = .ok (.getfield 9, 3) := by decide +kernel
theorem dX0_countOut_5 : decode cX0_countOut 5 = .ok (.getfield 15, 3) := by decide +kernel
theorem dX0_countOut_8 : decode cX0_countOut 8 = .ok (.iconst 1, 1) := by decide +kernel
theorem dX0_countOut_9 : decode cX0_countOut 9 = .ok (.isub, 1) := by decide +kernel
theorem dX0_countOut_10 : decode cX0_countOut 10 = .ok (.iload_n 1, 1) := by decide +kernel
theorem dX0_countOut_11 : decode cX0_countOut 11 = .ok (.invokevirtual 34, 3) := by decide +kernel
theorem dX0_countOut_14 : decode cX0_countOut 14 = .ok (.iconst 0, 1) := by decide +kernel
theorem dX0_countOut_15 : decode cX0_countOut 15 = .ok (.istore_n 2, 1) := by decide +kernel
theorem dX0_countOut_16 : decode cX0_countOut 16 = .ok (.iconst 0, 1) := by decide +kernel
theorem dX0_countOut_17 : decode cX0_countOut 17 = .ok (.istore_n 3, 1) := by decide +kernel
theorem dX0_countOut_18 : decode cX0_countOut 18 = .ok (.iload_n 3, 1) := by decide +kernel
theorem dX0_countOut_19 : decode cX0_countOut 19 = .ok (.aload_n 0, 1) := by decide +kernel
theorem dX0_countOut_20 : decode cX0_countOut 20 = .ok (.getfield 9, 3) := by decide +kernel
theorem dX0_countOut_23 : decode cX0_countOut 23 = .ok (.getfield 15, 3) := by decide +kernel
theorem dX0_countOut_26 : decode cX0_countOut 26 = .ok (.if_icmp .ge 37, 3) := by decide +kernel
theorem dX0_countOut_29 : decode cX0_countOut 29 = .ok (.aload_n 0, 1) := by decide +kernel
theorem dX0_countOut_30 : decode cX0_countOut 30 = .ok (.getfield 9, 3) := by decide +kernel
theorem dX0_countOut_33 : decode cX0_countOut 33 = .ok (.iload_n 3, 1) := by decide +kernel
theorem dX0_countOut_34 : decode cX0_countOut 34 = .ok (.invokevirtual 21, 3) := by decide +kernel
theorem dX0_countOut_37 : decode cX0_countOut 37 = .ok (.astore 4, 2) := by decide +kernel
theorem dX0_countOut_39 : decode cX0_countOut 39 = .ok (.aload 4, 2) := by decide +kernel
theorem dX0_countOut_41 : decode cX0_countOut 41 = .ok (.ifnull 16, 3) := by decide +kernel
theorem dX0_countOut_44 : decode cX0_countOut 44 = .ok (.aload 4, 2) := by decide +kernel
theorem dX0_countOut_46 : decode cX0_countOut 46 = .ok (.getfield 38, 3) := by decide +kernel
theorem dX0_countOut_49 : decode cX0_countOut 49 = .ok (.bipush 9, 2) := by decide +kernel
theorem dX0_countOut_51 : decode cX0_countOut 51 = .ok (.if_icmp .ne 6, 3) := by decide +kernel
theorem dX0_countOut_54 : decode cX0_countOut 54 = .ok (.iinc 2 1, 3) := by decide +kernel
theorem dX0_countOut_57 : decode cX0_countOut 57 = .ok (.iinc 3 1, 3) := by decide +kernel
theorem dX0_countOut_60 : decode cX0_countOut 60 = .ok (.goto (-42), 3) := by decide +kernel
theorem dX0_countOut_63 : decode cX0_countOut 63 = .ok (.iload_n 2, 1) := by decide +kernel
theorem dX0_countOut_64 : decode cX0_countOut 64 = .ok (.ireturn, 1) := by decide +kernel
theorem dX0_assess_0 : decode cX0_assess 0 = .ok (.aload_n 1, 1) := by decide +kernel
theorem dX0_assess_1 : decode cX0_assess 1 = .ok (.aload_n 0, 1) := by decide +kernel
theorem dX0_assess_2 : decode cX0_assess 2 = .ok (.aload_n 1, 1) := by decide +kernel
theorem dX0_assess_3 : decode cX0_assess 3 = .ok (.iload_n 2, 1) := by decide +kernel
theorem dX0_assess_4 : decode cX0_assess 4 = .ok (.invokevirtual 41, 3) := by decide +kernel
theorem dX0_assess_7 : decode cX0_assess 7 = .ok (.putfield 45, 3) := by decide +kernel
theorem dX0_assess_10 : decode cX0_assess 10 = .ok (.aload_n 1, 1) := by decide +kernel
theorem dX0_assess_11 : decode cX0_assess 11 = .ok (.getfield 45, 3) := by decide +kernel
theorem dX0_assess_14 : decode cX0_assess 14 = .ok (.ifCond .eq 12, 3) := by decide +kernel
theorem dX0_assess_17 : decode cX0_assess 17 = .ok (.aload_n 1, 1) := by decide +kernel
theorem dX0_assess_18 : decode cX0_assess 18 = .ok (.bipush 9, 2) := by decide +kernel
theorem dX0_assess_20 : decode cX0_assess 20 = .ok (.putfield 38, 3) := by decide +kernel
theorem dX0_assess_23 : decode cX0_assess 23 = .ok (.goto 28, 3) := by decide +kernel
theorem dX0_assess_26 : decode cX0_assess 26 = .ok (.aload_n 1, 1) := by decide +kernel
theorem dX0_assess_27 : decode cX0_assess 27 = .ok (.aload_n 1, 1) := by decide +kernel
theorem dX0_assess_28 : decode cX0_assess 28 = .ok (.getfield 25, 3) := by decide +kernel
theorem dX0_assess_31 : decode cX0_assess 31 = .ok (.iconst 1, 1) := by decide +kernel
theorem dX0_assess_32 : decode cX0_assess 32 = .ok (.if_icmp .ne 12, 3) := by decide +kernel
theorem dX0_assess_35 : decode cX0_assess 35 = .ok (.aload_n 1, 1) := by decide +kernel
theorem dX0_assess_36 : decode cX0_assess 36 = .ok (.invokevirtual 48, 3) := by decide +kernel
theorem dX0_assess_39 : decode cX0_assess 39 = .ok (.iconst 1, 1) := by decide +kernel
theorem dX0_assess_40 : decode cX0_assess 40 = .ok (.iadd, 1) := by decide +kernel
theorem dX0_assess_41 : decode cX0_assess 41 = .ok (.goto 7, 3) := by decide +kernel
theorem dX0_assess_44 : decode cX0_assess 44 = .ok (.aload_n 1, 1) := by decide +kernel
theorem dX0_assess_45 : decode cX0_assess 45 = .ok (.invokevirtual 48, 3) := by decide +kernel
theorem dX0_assess_48 : decode cX0_assess 48 = .ok (.putfield 38, 3) := by decide +kernel
theorem dX0_assess_51 : decode cX0_assess 51 = .ok (.return_, 1) := by decide +kernel
theorem dX0_reasonToRefuse_0 : decode cX0_reasonToRefuse 0 = .ok (.aload_n 1, 1) := by decide +kernel
theorem dX0_reasonToRefuse_1 : decode cX0_reasonToRefuse 1 = .ok (.iload_n 2, 1) := by decide +kernel
theorem dX0_reasonToRefuse_2 : decode cX0_reasonToRefuse 2 = .ok (.invokevirtual 52, 3) := by decide +kernel
theorem dX0_reasonToRefuse_5 : decode cX0_reasonToRefuse 5 = .ok (.ifCond .eq 5, 3) := by decide +kernel
theorem dX0_reasonToRefuse_8 : decode cX0_reasonToRefuse 8 = .ok (.iconst 5, 1) := by decide +kernel
theorem dX0_reasonToRefuse_9 : decode cX0_reasonToRefuse 9 = .ok (.ireturn, 1) := by decide +kernel
theorem dX0_reasonToRefuse_10 : decode cX0_reasonToRefuse 10 = .ok (.aload_n 1, 1) := by decide +kernel
theorem dX0_reasonToRefuse_11 : decode cX0_reasonToRefuse 11 = .ok (.invokevirtual 48, 3) := by decide +kernel
theorem dX0_reasonToRefuse_14 : decode cX0_reasonToRefuse 14 = .ok (.bipush 9, 2) := by decide +kernel
theorem dX0_reasonToRefuse_16 : decode cX0_reasonToRefuse 16 = .ok (.if_icmp .ne 6, 3) := by decide +kernel
theorem dX0_reasonToRefuse_19 : decode cX0_reasonToRefuse 19 = .ok (.bipush 7, 2) := by decide +kernel
theorem dX0_reasonToRefuse_21 : decode cX0_reasonToRefuse 21 = .ok (.ireturn, 1) := by decide +kernel
theorem dX0_reasonToRefuse_22 : decode cX0_reasonToRefuse 22 = .ok (.aload_n 1, 1) := by decide +kernel
theorem dX0_reasonToRefuse_23 : decode cX0_reasonToRefuse 23 = .ok (.getfield 25, 3) := by decide +kernel
theorem dX0_reasonToRefuse_26 : decode cX0_reasonToRefuse 26 = .ok (.iconst 1, 1) := by decide +kernel
theorem dX0_reasonToRefuse_27 : decode cX0_reasonToRefuse 27 = .ok (.if_icmp .ne 12, 3) := by decide +kernel
theorem dX0_reasonToRefuse_30 : decode cX0_reasonToRefuse 30 = .ok (.aload_n 0, 1) := by decide +kernel
theorem dX0_reasonToRefuse_31 : decode cX0_reasonToRefuse 31 = .ok (.aload_n 1, 1) := by decide +kernel
theorem dX0_reasonToRefuse_32 : decode cX0_reasonToRefuse 32 = .ok (.iload_n 2, 1) := by decide +kernel
theorem dX0_reasonToRefuse_33 : decode cX0_reasonToRefuse 33 = .ok (.invokevirtual 56, 3) := by decide +kernel
theorem dX0_reasonToRefuse_36 : decode cX0_reasonToRefuse 36 = .ok (.goto 4, 3) := by decide +kernel
theorem dX0_reasonToRefuse_39 : decode cX0_reasonToRefuse 39 = .ok (.iconst 0, 1) := by decide +kernel
theorem dX0_reasonToRefuse_40 : decode cX0_reasonToRefuse 40 = .ok (.ireturn, 1) := by decide +kernel
theorem dX0_reasonInField_0 : decode cX0_reasonInField 0 = .ok (.aload_n 1, 1) := by decide +kernel
theorem dX0_reasonInField_1 : decode cX0_reasonInField 1 = .ok (.getfield 59, 3) := by decide +kernel
theorem dX0_reasonInField_4 : decode cX0_reasonInField 4 = .ok (.ifnonnull 5, 3) := by decide +kernel
theorem dX0_reasonInField_7 : decode cX0_reasonInField 7 = .ok (.iconst 0, 1) := by decide +kernel
theorem dX0_reasonInField_8 : decode cX0_reasonInField 8 = .ok (.ireturn, 1) := by decide +kernel
theorem dX0_reasonInField_9 : decode cX0_reasonInField 9 = .ok (.aload_n 0, 1) := by decide +kernel
theorem dX0_reasonInField_10 : decode cX0_reasonInField 10 = .ok (.aload_n 1, 1) := by decide +kernel
theorem dX0_reasonInField_11 : decode cX0_reasonInField 11 = .ok (.iload_n 2, 1) := by decide +kernel
theorem dX0_reasonInField_12 : decode cX0_reasonInField 12 = .ok (.invokevirtual 63, 3) := by decide +kernel
theorem dX0_reasonInField_15 : decode cX0_reasonInField 15 = .ok (.ifCond .eq 5, 3) := by decide +kernel
theorem dX0_reasonInField_18 : decode cX0_reasonInField 18 = .ok (.iconst 1, 1) := by decide +kernel
theorem dX0_reasonInField_19 : decode cX0_reasonInField 19 = .ok (.ireturn, 1) := by decide +kernel
theorem dX0_reasonInField_20 : decode cX0_reasonInField 20 = .ok (.aload_n 0, 1) := by decide +kernel
theorem dX0_reasonInField_21 : decode cX0_reasonInField 21 = .ok (.getfield 9, 3) := by decide +kernel
theorem dX0_reasonInField_24 : decode cX0_reasonInField 24 = .ok (.iconst 1, 1) := by decide +kernel
theorem dX0_reasonInField_25 : decode cX0_reasonInField 25 = .ok (.aload_n 1, 1) := by decide +kernel
theorem dX0_reasonInField_26 : decode cX0_reasonInField 26 = .ok (.getfield 67, 3) := by decide +kernel
theorem dX0_reasonInField_29 : decode cX0_reasonInField 29 = .ok (.iload_n 2, 1) := by decide +kernel
theorem dX0_reasonInField_30 : decode cX0_reasonInField 30 = .ok (.invokevirtual 70, 3) := by decide +kernel
theorem dX0_reasonInField_33 : decode cX0_reasonInField 33 = .ok (.istore_n 3, 1) := by decide +kernel
theorem dX0_reasonInField_34 : decode cX0_reasonInField 34 = .ok (.aload_n 1, 1) := by decide +kernel
theorem dX0_reasonInField_35 : decode cX0_reasonInField 35 = .ok (.getfield 59, 3) := by decide +kernel
theorem dX0_reasonInField_38 : decode cX0_reasonInField 38 = .ok (.aload_n 1, 1) := by decide +kernel
theorem dX0_reasonInField_39 : decode cX0_reasonInField 39 = .ok (.getfield 67, 3) := by decide +kernel
theorem dX0_reasonInField_42 : decode cX0_reasonInField 42 = .ok (.iload_n 3, 1) := by decide +kernel
theorem dX0_reasonInField_43 : decode cX0_reasonInField 43 = .ok (.aload_n 1, 1) := by decide +kernel
theorem dX0_reasonInField_44 : decode cX0_reasonInField 44 = .ok (.getfield 74, 3) := by decide +kernel
theorem dX0_reasonInField_47 : decode cX0_reasonInField 47 = .ok (.iload_n 2, 1) := by decide +kernel
theorem dX0_reasonInField_48 : decode cX0_reasonInField 48 = .ok (.invokevirtual 77, 3) := by decide +kernel
theorem dX0_reasonInField_51 : decode cX0_reasonInField 51 = .ok (.ifCond .eq 5, 3) := by decide +kernel
theorem dX0_reasonInField_54 : decode cX0_reasonInField 54 = .ok (.iconst 2, 1) := by decide +kernel
theorem dX0_reasonInField_55 : decode cX0_reasonInField 55 = .ok (.ireturn, 1) := by decide +kernel
theorem dX0_reasonInField_56 : decode cX0_reasonInField 56 = .ok (.aload_n 1, 1) := by decide +kernel
theorem dX0_reasonInField_57 : decode cX0_reasonInField 57 = .ok (.iload_n 2, 1) := by decide +kernel
theorem dX0_reasonInField_58 : decode cX0_reasonInField 58 = .ok (.invokevirtual 83, 3) := by decide +kernel
theorem dX0_reasonInField_61 : decode cX0_reasonInField 61 = .ok (.astore 4, 2) := by decide +kernel
theorem dX0_reasonInField_63 : decode cX0_reasonInField 63 = .ok (.aload 4, 2) := by decide +kernel
theorem dX0_reasonInField_65 : decode cX0_reasonInField 65 = .ok (.ifnonnull 7, 3) := by decide +kernel
theorem dX0_reasonInField_68 : decode cX0_reasonInField 68 = .ok (.iconst 0, 1) := by decide +kernel
theorem dX0_reasonInField_69 : decode cX0_reasonInField 69 = .ok (.goto 8, 3) := by decide +kernel
theorem dX0_reasonInField_72 : decode cX0_reasonInField 72 = .ok (.aload 4, 2) := by decide +kernel
theorem dX0_reasonInField_74 : decode cX0_reasonInField 74 = .ok (.getfield 87, 3) := by decide +kernel
theorem dX0_reasonInField_77 : decode cX0_reasonInField 77 = .ok (.istore 5, 2) := by decide +kernel
theorem dX0_reasonInField_79 : decode cX0_reasonInField 79 = .ok (.iload 5, 2) := by decide +kernel
theorem dX0_reasonInField_81 : decode cX0_reasonInField 81 = .ok (.aload_n 0, 1) := by decide +kernel
theorem dX0_reasonInField_82 : decode cX0_reasonInField 82 = .ok (.getfield 9, 3) := by decide +kernel
theorem dX0_reasonInField_85 : decode cX0_reasonInField 85 = .ok (.iconst 2, 1) := by decide +kernel
theorem dX0_reasonInField_86 : decode cX0_reasonInField 86 = .ok (.aload_n 1, 1) := by decide +kernel
theorem dX0_reasonInField_87 : decode cX0_reasonInField 87 = .ok (.getfield 67, 3) := by decide +kernel
theorem dX0_reasonInField_90 : decode cX0_reasonInField 90 = .ok (.iload_n 2, 1) := by decide +kernel
theorem dX0_reasonInField_91 : decode cX0_reasonInField 91 = .ok (.invokevirtual 70, 3) := by decide +kernel
theorem dX0_reasonInField_94 : decode cX0_reasonInField 94 = .ok (.if_icmp .ge 5, 3) := by decide +kernel
theorem dX0_reasonInField_97 : decode cX0_reasonInField 97 = .ok (.iconst 3, 1) := by decide +kernel
theorem dX0_reasonInField_98 : decode cX0_reasonInField 98 = .ok (.ireturn, 1) := by decide +kernel
theorem dX0_reasonInField_99 : decode cX0_reasonInField 99 = .ok (.aload 4, 2) := by decide +kernel
theorem dX0_reasonInField_101 : decode cX0_reasonInField 101 = .ok (.ifnull 40, 3) := by decide +kernel
theorem dX0_reasonInField_104 : decode cX0_reasonInField 104 = .ok (.ldc2_w 92, 3) := by decide +kernel
theorem dX0_reasonInField_107 : decode cX0_reasonInField 107 = .ok (.aload 4, 2) := by decide +kernel
theorem dX0_reasonInField_109 : decode cX0_reasonInField 109 = .ok (.getfield 94, 3) := by decide +kernel
theorem dX0_reasonInField_112 : decode cX0_reasonInField 112 = .ok (.i2l, 1) := by decide +kernel
theorem dX0_reasonInField_113 : decode cX0_reasonInField 113 = .ok (.lmul, 1) := by decide +kernel
theorem dX0_reasonInField_114 : decode cX0_reasonInField 114 = .ok (.aload_n 0, 1) := by decide +kernel
theorem dX0_reasonInField_115 : decode cX0_reasonInField 115 = .ok (.getfield 9, 3) := by decide +kernel
theorem dX0_reasonInField_118 : decode cX0_reasonInField 118 = .ok (.iconst 3, 1) := by decide +kernel
theorem dX0_reasonInField_119 : decode cX0_reasonInField 119 = .ok (.aload_n 1, 1) := by decide +kernel
theorem dX0_reasonInField_120 : decode cX0_reasonInField 120 = .ok (.getfield 67, 3) := by decide +kernel
theorem dX0_reasonInField_123 : decode cX0_reasonInField 123 = .ok (.iload_n 2, 1) := by decide +kernel
theorem dX0_reasonInField_124 : decode cX0_reasonInField 124 = .ok (.invokevirtual 70, 3) := by decide +kernel
theorem dX0_reasonInField_127 : decode cX0_reasonInField 127 = .ok (.i2l, 1) := by decide +kernel
theorem dX0_reasonInField_128 : decode cX0_reasonInField 128 = .ok (.aload 4, 2) := by decide +kernel
theorem dX0_reasonInField_130 : decode cX0_reasonInField 130 = .ok (.getfield 97, 3) := by decide +kernel
theorem dX0_reasonInField_133 : decode cX0_reasonInField 133 = .ok (.i2l, 1) := by decide +kernel
theorem dX0_reasonInField_134 : decode cX0_reasonInField 134 = .ok (.lmul, 1) := by decide +kernel
theorem dX0_reasonInField_135 : decode cX0_reasonInField 135 = .ok (.lcmp, 1) := by decide +kernel
theorem dX0_reasonInField_136 : decode cX0_reasonInField 136 = .ok (.ifCond .le 5, 3) := by decide +kernel
theorem dX0_reasonInField_139 : decode cX0_reasonInField 139 = .ok (.iconst 4, 1) := by decide +kernel
theorem dX0_reasonInField_140 : decode cX0_reasonInField 140 = .ok (.ireturn, 1) := by decide +kernel
theorem dX0_reasonInField_141 : decode cX0_reasonInField 141 = .ok (.aload_n 1, 1) := by decide +kernel
theorem dX0_reasonInField_142 : decode cX0_reasonInField 142 = .ok (.invokevirtual 48, 3) := by decide +kernel
theorem dX0_reasonInField_145 : decode cX0_reasonInField 145 = .ok (.iconst 1, 1) := by decide +kernel
theorem dX0_reasonInField_146 : decode cX0_reasonInField 146 = .ok (.iadd, 1) := by decide +kernel
theorem dX0_reasonInField_147 : decode cX0_reasonInField 147 = .ok (.aload_n 0, 1) := by decide +kernel
theorem dX0_reasonInField_148 : decode cX0_reasonInField 148 = .ok (.getfield 9, 3) := by decide +kernel
theorem dX0_reasonInField_151 : decode cX0_reasonInField 151 = .ok (.iconst 4, 1) := by decide +kernel
theorem dX0_reasonInField_152 : decode cX0_reasonInField 152 = .ok (.aload_n 1, 1) := by decide +kernel
theorem dX0_reasonInField_153 : decode cX0_reasonInField 153 = .ok (.getfield 67, 3) := by decide +kernel
theorem dX0_reasonInField_156 : decode cX0_reasonInField 156 = .ok (.iload_n 2, 1) := by decide +kernel
theorem dX0_reasonInField_157 : decode cX0_reasonInField 157 = .ok (.invokevirtual 70, 3) := by decide +kernel
theorem dX0_reasonInField_160 : decode cX0_reasonInField 160 = .ok (.if_icmp .le 7, 3) := by decide +kernel
theorem dX0_reasonInField_163 : decode cX0_reasonInField 163 = .ok (.iconst 1, 1) := by decide +kernel
theorem dX0_reasonInField_164 : decode cX0_reasonInField 164 = .ok (.goto 4, 3) := by decide +kernel
theorem dX0_reasonInField_167 : decode cX0_reasonInField 167 = .ok (.iconst 0, 1) := by decide +kernel
theorem dX0_reasonInField_168 : decode cX0_reasonInField 168 = .ok (.istore 6, 2) := by decide +kernel
theorem dX0_reasonInField_170 : decode cX0_reasonInField 170 = .ok (.iload 6, 2) := by decide +kernel
theorem dX0_reasonInField_172 : decode cX0_reasonInField 172 = .ok (.ifCond .eq 8, 3) := by decide +kernel
theorem dX0_reasonInField_175 : decode cX0_reasonInField 175 = .ok (.bipush 6, 2) := by decide +kernel
theorem dX0_reasonInField_177 : decode cX0_reasonInField 177 = .ok (.goto 4, 3) := by decide +kernel
theorem dX0_reasonInField_180 : decode cX0_reasonInField 180 = .ok (.iconst 0, 1) := by decide +kernel
theorem dX0_reasonInField_181 : decode cX0_reasonInField 181 = .ok (.ireturn, 1) := by decide +kernel
theorem dX0_isCrowded_0 : decode cX0_isCrowded 0 = .ok (.aload_n 0, 1) := by decide +kernel
theorem dX0_isCrowded_1 : decode cX0_isCrowded 1 = .ok (.getfield 9, 3) := by decide +kernel
theorem dX0_isCrowded_4 : decode cX0_isCrowded 4 = .ok (.iconst 0, 1) := by decide +kernel
theorem dX0_isCrowded_5 : decode cX0_isCrowded 5 = .ok (.aload_n 1, 1) := by decide +kernel
theorem dX0_isCrowded_6 : decode cX0_isCrowded 6 = .ok (.getfield 67, 3) := by decide +kernel
theorem dX0_isCrowded_9 : decode cX0_isCrowded 9 = .ok (.iload_n 2, 1) := by decide +kernel
theorem dX0_isCrowded_10 : decode cX0_isCrowded 10 = .ok (.invokevirtual 70, 3) := by decide +kernel
theorem dX0_isCrowded_13 : decode cX0_isCrowded 13 = .ok (.istore_n 3, 1) := by decide +kernel
theorem dX0_isCrowded_14 : decode cX0_isCrowded 14 = .ok (.iconst 0, 1) := by decide +kernel
theorem dX0_isCrowded_15 : decode cX0_isCrowded 15 = .ok (.istore 4, 2) := by decide +kernel
theorem dX0_isCrowded_17 : decode cX0_isCrowded 17 = .ok (.iload 4, 2) := by decide +kernel
theorem dX0_isCrowded_19 : decode cX0_isCrowded 19 = .ok (.aload_n 0, 1) := by decide +kernel
theorem dX0_isCrowded_20 : decode cX0_isCrowded 20 = .ok (.getfield 9, 3) := by decide +kernel
theorem dX0_isCrowded_23 : decode cX0_isCrowded 23 = .ok (.getfield 100, 3) := by decide +kernel
theorem dX0_isCrowded_26 : decode cX0_isCrowded 26 = .ok (.if_icmp .ge 85, 3) := by decide +kernel
theorem dX0_isCrowded_29 : decode cX0_isCrowded 29 = .ok (.aload_n 0, 1) := by decide +kernel
theorem dX0_isCrowded_30 : decode cX0_isCrowded 30 = .ok (.getfield 9, 3) := by decide +kernel
theorem dX0_isCrowded_33 : decode cX0_isCrowded 33 = .ok (.iload 4, 2) := by decide +kernel
theorem dX0_isCrowded_35 : decode cX0_isCrowded 35 = .ok (.invokevirtual 103, 3) := by decide +kernel
theorem dX0_isCrowded_38 : decode cX0_isCrowded 38 = .ok (.astore 5, 2) := by decide +kernel
theorem dX0_isCrowded_40 : decode cX0_isCrowded 40 = .ok (.aload 5, 2) := by decide +kernel
theorem dX0_isCrowded_42 : decode cX0_isCrowded 42 = .ok (.ifnull 63, 3) := by decide +kernel
theorem dX0_isCrowded_45 : decode cX0_isCrowded 45 = .ok (.aload 5, 2) := by decide +kernel
theorem dX0_isCrowded_47 : decode cX0_isCrowded 47 = .ok (.aload_n 1, 1) := by decide +kernel
theorem dX0_isCrowded_48 : decode cX0_isCrowded 48 = .ok (.getfield 59, 3) := by decide +kernel
theorem dX0_isCrowded_51 : decode cX0_isCrowded 51 = .ok (.if_acmp .eq 54, 3) := by decide +kernel
theorem dX0_isCrowded_54 : decode cX0_isCrowded 54 = .ok (.aload 5, 2) := by decide +kernel
theorem dX0_isCrowded_56 : decode cX0_isCrowded 56 = .ok (.aload_n 1, 1) := by decide +kernel
theorem dX0_isCrowded_57 : decode cX0_isCrowded 57 = .ok (.getfield 67, 3) := by decide +kernel
theorem dX0_isCrowded_60 : decode cX0_isCrowded 60 = .ok (.iload_n 2, 1) := by decide +kernel
theorem dX0_isCrowded_61 : decode cX0_isCrowded 61 = .ok (.invokevirtual 107, 3) := by decide +kernel
theorem dX0_isCrowded_64 : decode cX0_isCrowded 64 = .ok (.aload_n 1, 1) := by decide +kernel
theorem dX0_isCrowded_65 : decode cX0_isCrowded 65 = .ok (.getfield 74, 3) := by decide +kernel
theorem dX0_isCrowded_68 : decode cX0_isCrowded 68 = .ok (.if_icmp .ne 37, 3) := by decide +kernel
theorem dX0_isCrowded_71 : decode cX0_isCrowded 71 = .ok (.aload 5, 2) := by decide +kernel
theorem dX0_isCrowded_73 : decode cX0_isCrowded 73 = .ok (.aload_n 1, 1) := by decide +kernel
theorem dX0_isCrowded_74 : decode cX0_isCrowded 74 = .ok (.getfield 59, 3) := by decide +kernel
theorem dX0_isCrowded_77 : decode cX0_isCrowded 77 = .ok (.invokevirtual 111, 3) := by decide +kernel
theorem dX0_isCrowded_80 : decode cX0_isCrowded 80 = .ok (.iload_n 3, 1) := by decide +kernel
theorem dX0_isCrowded_81 : decode cX0_isCrowded 81 = .ok (.iload_n 3, 1) := by decide +kernel
theorem dX0_isCrowded_82 : decode cX0_isCrowded 82 = .ok (.imul, 1) := by decide +kernel
theorem dX0_isCrowded_83 : decode cX0_isCrowded 83 = .ok (.if_icmp .ge 22, 3) := by decide +kernel
theorem dX0_isCrowded_86 : decode cX0_isCrowded 86 = .ok (.aload_n 0, 1) := by decide +kernel
theorem dX0_isCrowded_87 : decode cX0_isCrowded 87 = .ok (.aload 5, 2) := by decide +kernel
theorem dX0_isCrowded_89 : decode cX0_isCrowded 89 = .ok (.aload_n 1, 1) := by decide +kernel
theorem dX0_isCrowded_90 : decode cX0_isCrowded 90 = .ok (.getfield 67, 3) := by decide +kernel
theorem dX0_isCrowded_93 : decode cX0_isCrowded 93 = .ok (.invokevirtual 115, 3) := by decide +kernel
theorem dX0_isCrowded_96 : decode cX0_isCrowded 96 = .ok (.aload_n 1, 1) := by decide +kernel
theorem dX0_isCrowded_97 : decode cX0_isCrowded 97 = .ok (.invokevirtual 118, 3) := by decide +kernel
theorem dX0_isCrowded_100 : decode cX0_isCrowded 100 = .ok (.ifCond .ne 5, 3) := by decide +kernel
theorem dX0_isCrowded_103 : decode cX0_isCrowded 103 = .ok (.iconst 1, 1) := by decide +kernel
theorem dX0_isCrowded_104 : decode cX0_isCrowded 104 = .ok (.ireturn, 1) := by decide +kernel
theorem dX0_isCrowded_105 : decode cX0_isCrowded 105 = .ok (.iinc 4 1, 3) := by decide +kernel
theorem dX0_isCrowded_108 : decode cX0_isCrowded 108 = .ok (.goto (-91), 3) := by decide +kernel
theorem dX0_isCrowded_111 : decode cX0_isCrowded 111 = .ok (.iconst 0, 1) := by decide +kernel
theorem dX0_isCrowded_112 : decode cX0_isCrowded 112 = .ok (.ireturn, 1) := by decide +kernel
theorem dX0_isAsGood_0 : decode cX0_isAsGood 0 = .ok (.aload_n 1, 1) := by decide +kernel
theorem dX0_isAsGood_1 : decode cX0_isAsGood 1 = .ok (.ifnull 18, 3) := by decide +kernel
theorem dX0_isAsGood_4 : decode cX0_isAsGood 4 = .ok (.aload_n 1, 1) := by decide +kernel
theorem dX0_isAsGood_5 : decode cX0_isAsGood 5 = .ok (.invokevirtual 48, 3) := by decide +kernel
theorem dX0_isAsGood_8 : decode cX0_isAsGood 8 = .ok (.aload_n 2, 1) := by decide +kernel
theorem dX0_isAsGood_9 : decode cX0_isAsGood 9 = .ok (.invokevirtual 48, 3) := by decide +kernel
theorem dX0_isAsGood_12 : decode cX0_isAsGood 12 = .ok (.if_icmp .gt 7, 3) := by decide +kernel
theorem dX0_isAsGood_15 : decode cX0_isAsGood 15 = .ok (.iconst 1, 1) := by decide +kernel
theorem dX0_isAsGood_16 : decode cX0_isAsGood 16 = .ok (.goto 4, 3) := by decide +kernel
theorem dX0_isAsGood_19 : decode cX0_isAsGood 19 = .ok (.iconst 0, 1) := by decide +kernel
theorem dX0_isAsGood_20 : decode cX0_isAsGood 20 = .ok (.ireturn, 1) := by decide +kernel
theorem dX1_init_0 : decode cX1_init 0 = .ok (.aload_n 0, 1) := by decide +kernel
theorem dX1_init_1 : decode cX1_init 1 = .ok (.invokespecial 3, 3) := by decide +kernel
theorem dX1_init_4 : decode cX1_init 4 = .ok (.aload_n 0, 1) := by decide +kernel
theorem dX1_init_5 : decode cX1_init 5 = .ok (.iconst (-1), 1) := by decide +kernel
theorem dX1_init_6 : decode cX1_init 6 = .ok (.putfield 9, 3) := by decide +kernel
theorem dX1_init_9 : decode cX1_init 9 = .ok (.aload_n 0, 1) := by decide +kernel
theorem dX1_init_10 : decode cX1_init 10 = .ok (.aload_n 1, 1) := by decide +kernel
theorem dX1_init_11 : decode cX1_init 11 = .ok (.putfield 15, 3) := by decide +kernel
theorem dX1_init_14 : decode cX1_init 14 = .ok (.aload_n 0, 1) := by decide +kernel
theorem dX1_init_15 : decode cX1_init 15 = .ok (.iload_n 2, 1) := by decide +kernel
theorem dX1_init_16 : decode cX1_init 16 = .ok (.putfield 19, 3) := by decide +kernel
theorem dX1_init_19 : decode cX1_init 19 = .ok (.aload_n 0, 1) := by decide +kernel
theorem dX1_init_20 : decode cX1_init 20 = .ok (.iload_n 3, 1) := by decide +kernel
theorem dX1_init_21 : decode cX1_init 21 = .ok (.putfield 22, 3) := by decide +kernel
theorem dX1_init_24 : decode cX1_init 24 = .ok (.return_, 1) := by decide +kernel
theorem dX1_isOpened_0 : decode cX1_isOpened 0 = .ok (.aload_n 0, 1) := by decide +kernel
theorem dX1_isOpened_1 : decode cX1_isOpened 1 = .ok (.getfield 22, 3) := by decide +kernel
theorem dX1_isOpened_4 : decode cX1_isOpened 4 = .ok (.ifCond .ne 7, 3) := by decide +kernel
theorem dX1_isOpened_7 : decode cX1_isOpened 7 = .ok (.iconst 1, 1) := by decide +kernel
theorem dX1_isOpened_8 : decode cX1_isOpened 8 = .ok (.goto 4, 3) := by decide +kernel
theorem dX1_isOpened_11 : decode cX1_isOpened 11 = .ok (.iconst 0, 1) := by decide +kernel
theorem dX1_isOpened_12 : decode cX1_isOpened 12 = .ok (.ireturn, 1) := by decide +kernel
theorem dX1_isSold_0 : decode cX1_isSold 0 = .ok (.aload_n 0, 1) := by decide +kernel
theorem dX1_isSold_1 : decode cX1_isSold 1 = .ok (.getfield 9, 3) := by decide +kernel
theorem dX1_isSold_4 : decode cX1_isSold 4 = .ok (.iconst (-1), 1) := by decide +kernel
theorem dX1_isSold_5 : decode cX1_isSold 5 = .ok (.if_icmp .eq 7, 3) := by decide +kernel
theorem dX1_isSold_8 : decode cX1_isSold 8 = .ok (.iconst 1, 1) := by decide +kernel
theorem dX1_isSold_9 : decode cX1_isSold 9 = .ok (.goto 4, 3) := by decide +kernel
theorem dX1_isSold_12 : decode cX1_isSold 12 = .ok (.iconst 0, 1) := by decide +kernel
theorem dX1_isSold_13 : decode cX1_isSold 13 = .ok (.ireturn, 1) := by decide +kernel
theorem dX1_about_0 : decode cX1_about 0 = .ok (.iload_n 1, 1) := by decide +kernel
theorem dX1_about_1 : decode cX1_about 1 = .ok (.tableswitch 54 0 3 #[31, 39, 44, 49], 31) := by decide +kernel
theorem dX1_about_32 : decode cX1_about 32 = .ok (.aload_n 0, 1) := by decide +kernel
theorem dX1_about_33 : decode cX1_about 33 = .ok (.getfield 15, 3) := by decide +kernel
theorem dX1_about_36 : decode cX1_about 36 = .ok (.getfield 25, 3) := by decide +kernel
theorem dX1_about_39 : decode cX1_about 39 = .ok (.ireturn, 1) := by decide +kernel
theorem dX1_about_40 : decode cX1_about 40 = .ok (.aload_n 0, 1) := by decide +kernel
theorem dX1_about_41 : decode cX1_about 41 = .ok (.getfield 19, 3) := by decide +kernel
theorem dX1_about_44 : decode cX1_about 44 = .ok (.ireturn, 1) := by decide +kernel
theorem dX1_about_45 : decode cX1_about 45 = .ok (.aload_n 0, 1) := by decide +kernel
theorem dX1_about_46 : decode cX1_about 46 = .ok (.getfield 22, 3) := by decide +kernel
theorem dX1_about_49 : decode cX1_about 49 = .ok (.ireturn, 1) := by decide +kernel
theorem dX1_about_50 : decode cX1_about 50 = .ok (.aload_n 0, 1) := by decide +kernel
theorem dX1_about_51 : decode cX1_about 51 = .ok (.getfield 9, 3) := by decide +kernel
theorem dX1_about_54 : decode cX1_about 54 = .ok (.ireturn, 1) := by decide +kernel
theorem dX1_about_55 : decode cX1_about 55 = .ok (.iconst (-1), 1) := by decide +kernel
theorem dX1_about_56 : decode cX1_about 56 = .ok (.ireturn, 1) := by decide +kernel
theorem dX2_init_0 : decode cX2_init 0 = .ok (.aload_n 0, 1) := by decide +kernel
theorem dX2_init_1 : decode cX2_init 1 = .ok (.invokespecial 3, 3) := by decide +kernel
theorem dX2_init_4 : decode cX2_init 4 = .ok (.aload_n 0, 1) := by decide +kernel
theorem dX2_init_5 : decode cX2_init 5 = .ok (.iconst 0, 1) := by decide +kernel
theorem dX2_init_6 : decode cX2_init 6 = .ok (.putfield 9, 3) := by decide +kernel
theorem dX2_init_9 : decode cX2_init 9 = .ok (.aload_n 0, 1) := by decide +kernel
theorem dX2_init_10 : decode cX2_init 10 = .ok (.bipush 40, 2) := by decide +kernel
theorem dX2_init_12 : decode cX2_init 12 = .ok (.anewarray 15, 3) := by decide +kernel
theorem dX2_init_15 : decode cX2_init 15 = .ok (.putfield 17, 3) := by decide +kernel
theorem dX2_init_18 : decode cX2_init 18 = .ok (.aload_n 0, 1) := by decide +kernel
theorem dX2_init_19 : decode cX2_init 19 = .ok (.iconst 0, 1) := by decide +kernel
theorem dX2_init_20 : decode cX2_init 20 = .ok (.putfield 21, 3) := by decide +kernel
theorem dX2_init_23 : decode cX2_init 23 = .ok (.aload_n 0, 1) := by decide +kernel
theorem dX2_init_24 : decode cX2_init 24 = .ok (.sipush 200, 3) := by decide +kernel
theorem dX2_init_27 : decode cX2_init 27 = .ok (.anewarray 24, 3) := by decide +kernel
theorem dX2_init_30 : decode cX2_init 30 = .ok (.putfield 26, 3) := by decide +kernel
theorem dX2_init_33 : decode cX2_init 33 = .ok (.aload_n 0, 1) := by decide +kernel
theorem dX2_init_34 : decode cX2_init 34 = .ok (.iconst 0, 1) := by decide +kernel
theorem dX2_init_35 : decode cX2_init 35 = .ok (.putfield 30, 3) := by decide +kernel
theorem dX2_init_38 : decode cX2_init 38 = .ok (.aload_n 0, 1) := by decide +kernel
theorem dX2_init_39 : decode cX2_init 39 = .ok (.sipush 200, 3) := by decide +kernel
theorem dX2_init_42 : decode cX2_init 42 = .ok (.anewarray 33, 3) := by decide +kernel
theorem dX2_init_45 : decode cX2_init 45 = .ok (.putfield 35, 3) := by decide +kernel
theorem dX2_init_48 : decode cX2_init 48 = .ok (.aload_n 0, 1) := by decide +kernel
theorem dX2_init_49 : decode cX2_init 49 = .ok (.iconst 0, 1) := by decide +kernel
theorem dX2_init_50 : decode cX2_init 50 = .ok (.putfield 39, 3) := by decide +kernel
theorem dX2_init_53 : decode cX2_init 53 = .ok (.aload_n 0, 1) := by decide +kernel
theorem dX2_init_54 : decode cX2_init 54 = .ok (.iconst 0, 1) := by decide +kernel
theorem dX2_init_55 : decode cX2_init 55 = .ok (.putfield 42, 3) := by decide +kernel
theorem dX2_init_58 : decode cX2_init 58 = .ok (.aload_n 0, 1) := by decide +kernel
theorem dX2_init_59 : decode cX2_init 59 = .ok (.getstatic 45, 3) := by decide +kernel
theorem dX2_init_62 : decode cX2_init 62 = .ok (.arraylength, 1) := by decide +kernel
theorem dX2_init_63 : decode cX2_init 63 = .ok (.anewarray 49, 3) := by decide +kernel
theorem dX2_init_66 : decode cX2_init 66 = .ok (.putfield 51, 3) := by decide +kernel
theorem dX2_init_69 : decode cX2_init 69 = .ok (.aload_n 0, 1) := by decide +kernel
theorem dX2_init_70 : decode cX2_init 70 = .ok (.iconst 0, 1) := by decide +kernel
theorem dX2_init_71 : decode cX2_init 71 = .ok (.putfield 55, 3) := by decide +kernel
theorem dX2_init_74 : decode cX2_init 74 = .ok (.aload_n 0, 1) := by decide +kernel
theorem dX2_init_75 : decode cX2_init 75 = .ok (.iconst 0, 1) := by decide +kernel
theorem dX2_init_76 : decode cX2_init 76 = .ok (.putfield 58, 3) := by decide +kernel
theorem dX2_init_79 : decode cX2_init 79 = .ok (.aload_n 0, 1) := by decide +kernel
theorem dX2_init_80 : decode cX2_init 80 = .ok (.iconst 0, 1) := by decide +kernel
theorem dX2_init_81 : decode cX2_init 81 = .ok (.putfield 61, 3) := by decide +kernel
theorem dX2_init_84 : decode cX2_init 84 = .ok (.return_, 1) := by decide +kernel
theorem dX2_fieldAt_0 : decode cX2_fieldAt 0 = .ok (.iload_n 1, 1) := by decide +kernel
theorem dX2_fieldAt_1 : decode cX2_fieldAt 1 = .ok (.ifCond .lt 29, 3) := by decide +kernel
theorem dX2_fieldAt_4 : decode cX2_fieldAt 4 = .ok (.iload_n 1, 1) := by decide +kernel
theorem dX2_fieldAt_5 : decode cX2_fieldAt 5 = .ok (.aload_n 0, 1) := by decide +kernel
theorem dX2_fieldAt_6 : decode cX2_fieldAt 6 = .ok (.getfield 21, 3) := by decide +kernel
theorem dX2_fieldAt_9 : decode cX2_fieldAt 9 = .ok (.if_icmp .ge 21, 3) := by decide +kernel
theorem dX2_fieldAt_12 : decode cX2_fieldAt 12 = .ok (.iload_n 1, 1) := by decide +kernel
theorem dX2_fieldAt_13 : decode cX2_fieldAt 13 = .ok (.aload_n 0, 1) := by decide +kernel
theorem dX2_fieldAt_14 : decode cX2_fieldAt 14 = .ok (.getfield 17, 3) := by decide +kernel
theorem dX2_fieldAt_17 : decode cX2_fieldAt 17 = .ok (.arraylength, 1) := by decide +kernel
theorem dX2_fieldAt_18 : decode cX2_fieldAt 18 = .ok (.if_icmp .ge 12, 3) := by decide +kernel
theorem dX2_fieldAt_21 : decode cX2_fieldAt 21 = .ok (.aload_n 0, 1) := by decide +kernel
theorem dX2_fieldAt_22 : decode cX2_fieldAt 22 = .ok (.getfield 17, 3) := by decide +kernel
theorem dX2_fieldAt_25 : decode cX2_fieldAt 25 = .ok (.iload_n 1, 1) := by decide +kernel
theorem dX2_fieldAt_26 : decode cX2_fieldAt 26 = .ok (.aaload, 1) := by decide +kernel
theorem dX2_fieldAt_27 : decode cX2_fieldAt 27 = .ok (.goto 4, 3) := by decide +kernel
theorem dX2_fieldAt_30 : decode cX2_fieldAt 30 = .ok (.aconst_null, 1) := by decide +kernel
theorem dX2_fieldAt_31 : decode cX2_fieldAt 31 = .ok (.areturn, 1) := by decide +kernel
theorem dX2_lotAt_0 : decode cX2_lotAt 0 = .ok (.iload_n 1, 1) := by decide +kernel
theorem dX2_lotAt_1 : decode cX2_lotAt 1 = .ok (.ifCond .lt 29, 3) := by decide +kernel
theorem dX2_lotAt_4 : decode cX2_lotAt 4 = .ok (.iload_n 1, 1) := by decide +kernel
theorem dX2_lotAt_5 : decode cX2_lotAt 5 = .ok (.aload_n 0, 1) := by decide +kernel
theorem dX2_lotAt_6 : decode cX2_lotAt 6 = .ok (.getfield 30, 3) := by decide +kernel
theorem dX2_lotAt_9 : decode cX2_lotAt 9 = .ok (.if_icmp .ge 21, 3) := by decide +kernel
theorem dX2_lotAt_12 : decode cX2_lotAt 12 = .ok (.iload_n 1, 1) := by decide +kernel
theorem dX2_lotAt_13 : decode cX2_lotAt 13 = .ok (.aload_n 0, 1) := by decide +kernel
theorem dX2_lotAt_14 : decode cX2_lotAt 14 = .ok (.getfield 26, 3) := by decide +kernel
theorem dX2_lotAt_17 : decode cX2_lotAt 17 = .ok (.arraylength, 1) := by decide +kernel
theorem dX2_lotAt_18 : decode cX2_lotAt 18 = .ok (.if_icmp .ge 12, 3) := by decide +kernel
theorem dX2_lotAt_21 : decode cX2_lotAt 21 = .ok (.aload_n 0, 1) := by decide +kernel
theorem dX2_lotAt_22 : decode cX2_lotAt 22 = .ok (.getfield 26, 3) := by decide +kernel
theorem dX2_lotAt_25 : decode cX2_lotAt 25 = .ok (.iload_n 1, 1) := by decide +kernel
theorem dX2_lotAt_26 : decode cX2_lotAt 26 = .ok (.aaload, 1) := by decide +kernel
theorem dX2_lotAt_27 : decode cX2_lotAt 27 = .ok (.goto 4, 3) := by decide +kernel
theorem dX2_lotAt_30 : decode cX2_lotAt 30 = .ok (.aconst_null, 1) := by decide +kernel
theorem dX2_lotAt_31 : decode cX2_lotAt 31 = .ok (.areturn, 1) := by decide +kernel
theorem dX2_bagAt_0 : decode cX2_bagAt 0 = .ok (.iload_n 1, 1) := by decide +kernel
theorem dX2_bagAt_1 : decode cX2_bagAt 1 = .ok (.ifCond .lt 29, 3) := by decide +kernel
theorem dX2_bagAt_4 : decode cX2_bagAt 4 = .ok (.iload_n 1, 1) := by decide +kernel
theorem dX2_bagAt_5 : decode cX2_bagAt 5 = .ok (.aload_n 0, 1) := by decide +kernel
theorem dX2_bagAt_6 : decode cX2_bagAt 6 = .ok (.getfield 39, 3) := by decide +kernel
theorem dX2_bagAt_9 : decode cX2_bagAt 9 = .ok (.if_icmp .ge 21, 3) := by decide +kernel
theorem dX2_bagAt_12 : decode cX2_bagAt 12 = .ok (.iload_n 1, 1) := by decide +kernel
theorem dX2_bagAt_13 : decode cX2_bagAt 13 = .ok (.aload_n 0, 1) := by decide +kernel
theorem dX2_bagAt_14 : decode cX2_bagAt 14 = .ok (.getfield 35, 3) := by decide +kernel
theorem dX2_bagAt_17 : decode cX2_bagAt 17 = .ok (.arraylength, 1) := by decide +kernel
theorem dX2_bagAt_18 : decode cX2_bagAt 18 = .ok (.if_icmp .ge 12, 3) := by decide +kernel
theorem dX2_bagAt_21 : decode cX2_bagAt 21 = .ok (.aload_n 0, 1) := by decide +kernel
theorem dX2_bagAt_22 : decode cX2_bagAt 22 = .ok (.getfield 35, 3) := by decide +kernel
theorem dX2_bagAt_25 : decode cX2_bagAt 25 = .ok (.iload_n 1, 1) := by decide +kernel
theorem dX2_bagAt_26 : decode cX2_bagAt 26 = .ok (.aaload, 1) := by decide +kernel
theorem dX2_bagAt_27 : decode cX2_bagAt 27 = .ok (.goto 4, 3) := by decide +kernel
theorem dX2_bagAt_30 : decode cX2_bagAt 30 = .ok (.aconst_null, 1) := by decide +kernel
theorem dX2_bagAt_31 : decode cX2_bagAt 31 = .ok (.areturn, 1) := by decide +kernel
theorem dX2_addField_0 : decode cX2_addField 0 = .ok (.aload_n 0, 1) := by decide +kernel
theorem dX2_addField_1 : decode cX2_addField 1 = .ok (.getfield 21, 3) := by decide +kernel
theorem dX2_addField_4 : decode cX2_addField 4 = .ok (.aload_n 0, 1) := by decide +kernel
theorem dX2_addField_5 : decode cX2_addField 5 = .ok (.getfield 17, 3) := by decide +kernel
theorem dX2_addField_8 : decode cX2_addField 8 = .ok (.arraylength, 1) := by decide +kernel
theorem dX2_addField_9 : decode cX2_addField 9 = .ok (.if_icmp .lt 5, 3) := by decide +kernel
theorem dX2_addField_12 : decode cX2_addField 12 = .ok (.iconst (-1), 1) := by decide +kernel
theorem dX2_addField_13 : decode cX2_addField 13 = .ok (.ireturn, 1) := by decide +kernel
theorem dX2_addField_14 : decode cX2_addField 14 = .ok (.aload_n 0, 1) := by decide +kernel
theorem dX2_addField_15 : decode cX2_addField 15 = .ok (.getfield 17, 3) := by decide +kernel
theorem dX2_addField_18 : decode cX2_addField 18 = .ok (.aload_n 0, 1) := by decide +kernel
theorem dX2_addField_19 : decode cX2_addField 19 = .ok (.getfield 21, 3) := by decide +kernel
theorem dX2_addField_22 : decode cX2_addField 22 = .ok (.aload_n 1, 1) := by decide +kernel
theorem dX2_addField_23 : decode cX2_addField 23 = .ok (.aastore, 1) := by decide +kernel
theorem dX2_addField_24 : decode cX2_addField 24 = .ok (.aload_n 0, 1) := by decide +kernel
theorem dX2_addField_25 : decode cX2_addField 25 = .ok (.dup, 1) := by decide +kernel
theorem dX2_addField_26 : decode cX2_addField 26 = .ok (.getfield 21, 3) := by decide +kernel
theorem dX2_addField_29 : decode cX2_addField 29 = .ok (.iconst 1, 1) := by decide +kernel
theorem dX2_addField_30 : decode cX2_addField 30 = .ok (.iadd, 1) := by decide +kernel
theorem dX2_addField_31 : decode cX2_addField 31 = .ok (.putfield 21, 3) := by decide +kernel
theorem dX2_addField_34 : decode cX2_addField 34 = .ok (.aload_n 0, 1) := by decide +kernel
theorem dX2_addField_35 : decode cX2_addField 35 = .ok (.getfield 21, 3) := by decide +kernel
theorem dX2_addField_38 : decode cX2_addField 38 = .ok (.iconst 1, 1) := by decide +kernel
theorem dX2_addField_39 : decode cX2_addField 39 = .ok (.isub, 1) := by decide +kernel
theorem dX2_addField_40 : decode cX2_addField 40 = .ok (.ireturn, 1) := by decide +kernel
theorem dX2_addLot_0 : decode cX2_addLot 0 = .ok (.aload_n 0, 1) := by decide +kernel
theorem dX2_addLot_1 : decode cX2_addLot 1 = .ok (.getfield 30, 3) := by decide +kernel
theorem dX2_addLot_4 : decode cX2_addLot 4 = .ok (.aload_n 0, 1) := by decide +kernel
theorem dX2_addLot_5 : decode cX2_addLot 5 = .ok (.getfield 26, 3) := by decide +kernel
theorem dX2_addLot_8 : decode cX2_addLot 8 = .ok (.arraylength, 1) := by decide +kernel
theorem dX2_addLot_9 : decode cX2_addLot 9 = .ok (.if_icmp .lt 5, 3) := by decide +kernel
theorem dX2_addLot_12 : decode cX2_addLot 12 = .ok (.iconst (-1), 1) := by decide +kernel
theorem dX2_addLot_13 : decode cX2_addLot 13 = .ok (.ireturn, 1) := by decide +kernel
theorem dX2_addLot_14 : decode cX2_addLot 14 = .ok (.aload_n 0, 1) := by decide +kernel
theorem dX2_addLot_15 : decode cX2_addLot 15 = .ok (.getfield 26, 3) := by decide +kernel
theorem dX2_addLot_18 : decode cX2_addLot 18 = .ok (.aload_n 0, 1) := by decide +kernel
theorem dX2_addLot_19 : decode cX2_addLot 19 = .ok (.getfield 30, 3) := by decide +kernel
theorem dX2_addLot_22 : decode cX2_addLot 22 = .ok (.aload_n 1, 1) := by decide +kernel
theorem dX2_addLot_23 : decode cX2_addLot 23 = .ok (.aastore, 1) := by decide +kernel
theorem dX2_addLot_24 : decode cX2_addLot 24 = .ok (.aload_n 0, 1) := by decide +kernel
theorem dX2_addLot_25 : decode cX2_addLot 25 = .ok (.dup, 1) := by decide +kernel
theorem dX2_addLot_26 : decode cX2_addLot 26 = .ok (.getfield 30, 3) := by decide +kernel
theorem dX2_addLot_29 : decode cX2_addLot 29 = .ok (.iconst 1, 1) := by decide +kernel
theorem dX2_addLot_30 : decode cX2_addLot 30 = .ok (.iadd, 1) := by decide +kernel
theorem dX2_addLot_31 : decode cX2_addLot 31 = .ok (.putfield 30, 3) := by decide +kernel
theorem dX2_addLot_34 : decode cX2_addLot 34 = .ok (.aload_n 0, 1) := by decide +kernel
theorem dX2_addLot_35 : decode cX2_addLot 35 = .ok (.getfield 30, 3) := by decide +kernel
theorem dX2_addLot_38 : decode cX2_addLot 38 = .ok (.iconst 1, 1) := by decide +kernel
theorem dX2_addLot_39 : decode cX2_addLot 39 = .ok (.isub, 1) := by decide +kernel
theorem dX2_addLot_40 : decode cX2_addLot 40 = .ok (.ireturn, 1) := by decide +kernel
theorem dX2_addBag_0 : decode cX2_addBag 0 = .ok (.aload_n 0, 1) := by decide +kernel
theorem dX2_addBag_1 : decode cX2_addBag 1 = .ok (.getfield 39, 3) := by decide +kernel
theorem dX2_addBag_4 : decode cX2_addBag 4 = .ok (.aload_n 0, 1) := by decide +kernel
theorem dX2_addBag_5 : decode cX2_addBag 5 = .ok (.getfield 35, 3) := by decide +kernel
theorem dX2_addBag_8 : decode cX2_addBag 8 = .ok (.arraylength, 1) := by decide +kernel
theorem dX2_addBag_9 : decode cX2_addBag 9 = .ok (.if_icmp .lt 5, 3) := by decide +kernel
theorem dX2_addBag_12 : decode cX2_addBag 12 = .ok (.iconst (-1), 1) := by decide +kernel
theorem dX2_addBag_13 : decode cX2_addBag 13 = .ok (.ireturn, 1) := by decide +kernel
theorem dX2_addBag_14 : decode cX2_addBag 14 = .ok (.aload_n 0, 1) := by decide +kernel
theorem dX2_addBag_15 : decode cX2_addBag 15 = .ok (.getfield 35, 3) := by decide +kernel
theorem dX2_addBag_18 : decode cX2_addBag 18 = .ok (.aload_n 0, 1) := by decide +kernel
theorem dX2_addBag_19 : decode cX2_addBag 19 = .ok (.getfield 39, 3) := by decide +kernel
theorem dX2_addBag_22 : decode cX2_addBag 22 = .ok (.aload_n 1, 1) := by decide +kernel
theorem dX2_addBag_23 : decode cX2_addBag 23 = .ok (.aastore, 1) := by decide +kernel
theorem dX2_addBag_24 : decode cX2_addBag 24 = .ok (.aload_n 0, 1) := by decide +kernel
theorem dX2_addBag_25 : decode cX2_addBag 25 = .ok (.dup, 1) := by decide +kernel
theorem dX2_addBag_26 : decode cX2_addBag 26 = .ok (.getfield 39, 3) := by decide +kernel
theorem dX2_addBag_29 : decode cX2_addBag 29 = .ok (.iconst 1, 1) := by decide +kernel
theorem dX2_addBag_30 : decode cX2_addBag 30 = .ok (.iadd, 1) := by decide +kernel
theorem dX2_addBag_31 : decode cX2_addBag 31 = .ok (.putfield 39, 3) := by decide +kernel
theorem dX2_addBag_34 : decode cX2_addBag 34 = .ok (.aload_n 0, 1) := by decide +kernel
theorem dX2_addBag_35 : decode cX2_addBag 35 = .ok (.getfield 39, 3) := by decide +kernel
theorem dX2_addBag_38 : decode cX2_addBag 38 = .ok (.iconst 1, 1) := by decide +kernel
theorem dX2_addBag_39 : decode cX2_addBag 39 = .ok (.isub, 1) := by decide +kernel
theorem dX2_addBag_40 : decode cX2_addBag 40 = .ok (.ireturn, 1) := by decide +kernel
theorem dX2_nextSeal_0 : decode cX2_nextSeal 0 = .ok (.aload_n 0, 1) := by decide +kernel
theorem dX2_nextSeal_1 : decode cX2_nextSeal 1 = .ok (.dup, 1) := by decide +kernel
theorem dX2_nextSeal_2 : decode cX2_nextSeal 2 = .ok (.getfield 42, 3) := by decide +kernel
theorem dX2_nextSeal_5 : decode cX2_nextSeal 5 = .ok (.iconst 1, 1) := by decide +kernel
theorem dX2_nextSeal_6 : decode cX2_nextSeal 6 = .ok (.iadd, 1) := by decide +kernel
theorem dX2_nextSeal_7 : decode cX2_nextSeal 7 = .ok (.putfield 42, 3) := by decide +kernel
theorem dX2_nextSeal_10 : decode cX2_nextSeal 10 = .ok (.aload_n 0, 1) := by decide +kernel
theorem dX2_nextSeal_11 : decode cX2_nextSeal 11 = .ok (.getfield 42, 3) := by decide +kernel
theorem dX2_nextSeal_14 : decode cX2_nextSeal 14 = .ok (.ireturn, 1) := by decide +kernel
theorem dX2_addStatute_0 : decode cX2_addStatute 0 = .ok (.aload_n 0, 1) := by decide +kernel
theorem dX2_addStatute_1 : decode cX2_addStatute 1 = .ok (.getfield 55, 3) := by decide +kernel
theorem dX2_addStatute_4 : decode cX2_addStatute 4 = .ok (.bipush 100, 2) := by decide +kernel
theorem dX2_addStatute_6 : decode cX2_addStatute 6 = .ok (.if_icmp .ge 16, 3) := by decide +kernel
theorem dX2_addStatute_9 : decode cX2_addStatute 9 = .ok (.iload_n 1, 1) := by decide +kernel
theorem dX2_addStatute_10 : decode cX2_addStatute 10 = .ok (.ifCond .lt 12, 3) := by decide +kernel
theorem dX2_addStatute_13 : decode cX2_addStatute 13 = .ok (.iload_n 1, 1) := by decide +kernel
theorem dX2_addStatute_14 : decode cX2_addStatute 14 = .ok (.aload_n 0, 1) := by decide +kernel
theorem dX2_addStatute_15 : decode cX2_addStatute 15 = .ok (.getfield 51, 3) := by decide +kernel
theorem dX2_addStatute_18 : decode cX2_addStatute 18 = .ok (.arraylength, 1) := by decide +kernel
theorem dX2_addStatute_19 : decode cX2_addStatute 19 = .ok (.if_icmp .lt 5, 3) := by decide +kernel
theorem dX2_addStatute_22 : decode cX2_addStatute 22 = .ok (.iconst (-1), 1) := by decide +kernel
theorem dX2_addStatute_23 : decode cX2_addStatute 23 = .ok (.ireturn, 1) := by decide +kernel
theorem dX2_addStatute_24 : decode cX2_addStatute 24 = .ok (.aload_n 0, 1) := by decide +kernel
theorem dX2_addStatute_25 : decode cX2_addStatute 25 = .ok (.getfield 51, 3) := by decide +kernel
theorem dX2_addStatute_28 : decode cX2_addStatute 28 = .ok (.iload_n 1, 1) := by decide +kernel
theorem dX2_addStatute_29 : decode cX2_addStatute 29 = .ok (.new 49, 3) := by decide +kernel
theorem dX2_addStatute_32 : decode cX2_addStatute 32 = .ok (.dup, 1) := by decide +kernel
theorem dX2_addStatute_33 : decode cX2_addStatute 33 = .ok (.aload_n 0, 1) := by decide +kernel
theorem dX2_addStatute_34 : decode cX2_addStatute 34 = .ok (.getfield 51, 3) := by decide +kernel
theorem dX2_addStatute_37 : decode cX2_addStatute 37 = .ok (.iload_n 1, 1) := by decide +kernel
theorem dX2_addStatute_38 : decode cX2_addStatute 38 = .ok (.aaload, 1) := by decide +kernel
theorem dX2_addStatute_39 : decode cX2_addStatute 39 = .ok (.aload_n 0, 1) := by decide +kernel
theorem dX2_addStatute_40 : decode cX2_addStatute 40 = .ok (.getfield 9, 3) := by decide +kernel
theorem dX2_addStatute_43 : decode cX2_addStatute 43 = .ok (.iload_n 2, 1) := by decide +kernel
theorem dX2_addStatute_44 : decode cX2_addStatute 44 = .ok (.iload_n 3, 1) := by decide +kernel
theorem dX2_addStatute_45 : decode cX2_addStatute 45 = .ok (.invokespecial 64, 3) := by decide +kernel
theorem dX2_addStatute_48 : decode cX2_addStatute 48 = .ok (.aastore, 1) := by decide +kernel
theorem dX2_addStatute_49 : decode cX2_addStatute 49 = .ok (.aload_n 0, 1) := by decide +kernel
theorem dX2_addStatute_50 : decode cX2_addStatute 50 = .ok (.dup, 1) := by decide +kernel
theorem dX2_addStatute_51 : decode cX2_addStatute 51 = .ok (.getfield 55, 3) := by decide +kernel
theorem dX2_addStatute_54 : decode cX2_addStatute 54 = .ok (.iconst 1, 1) := by decide +kernel
theorem dX2_addStatute_55 : decode cX2_addStatute 55 = .ok (.iadd, 1) := by decide +kernel
theorem dX2_addStatute_56 : decode cX2_addStatute 56 = .ok (.putfield 55, 3) := by decide +kernel
theorem dX2_addStatute_59 : decode cX2_addStatute 59 = .ok (.aload_n 0, 1) := by decide +kernel
theorem dX2_addStatute_60 : decode cX2_addStatute 60 = .ok (.getfield 55, 3) := by decide +kernel
theorem dX2_addStatute_63 : decode cX2_addStatute 63 = .ok (.ireturn, 1) := by decide +kernel
theorem dX2_inForce_0 : decode cX2_inForce 0 = .ok (.iload_n 1, 1) := by decide +kernel
theorem dX2_inForce_1 : decode cX2_inForce 1 = .ok (.ifCond .lt 20, 3) := by decide +kernel
theorem dX2_inForce_4 : decode cX2_inForce 4 = .ok (.iload_n 1, 1) := by decide +kernel
theorem dX2_inForce_5 : decode cX2_inForce 5 = .ok (.aload_n 0, 1) := by decide +kernel
theorem dX2_inForce_6 : decode cX2_inForce 6 = .ok (.getfield 51, 3) := by decide +kernel
theorem dX2_inForce_9 : decode cX2_inForce 9 = .ok (.arraylength, 1) := by decide +kernel
theorem dX2_inForce_10 : decode cX2_inForce 10 = .ok (.if_icmp .ge 11, 3) := by decide +kernel
theorem dX2_inForce_13 : decode cX2_inForce 13 = .ok (.iload_n 1, 1) := by decide +kernel
theorem dX2_inForce_14 : decode cX2_inForce 14 = .ok (.getstatic 67, 3) := by decide +kernel
theorem dX2_inForce_17 : decode cX2_inForce 17 = .ok (.arraylength, 1) := by decide +kernel
theorem dX2_inForce_18 : decode cX2_inForce 18 = .ok (.if_icmp .lt 5, 3) := by decide +kernel
theorem dX2_inForce_21 : decode cX2_inForce 21 = .ok (.iconst (-1), 1) := by decide +kernel
theorem dX2_inForce_22 : decode cX2_inForce 22 = .ok (.ireturn, 1) := by decide +kernel
theorem dX2_inForce_23 : decode cX2_inForce 23 = .ok (.aconst_null, 1) := by decide +kernel
theorem dX2_inForce_24 : decode cX2_inForce 24 = .ok (.astore 4, 2) := by decide +kernel
theorem dX2_inForce_26 : decode cX2_inForce 26 = .ok (.aload_n 0, 1) := by decide +kernel
theorem dX2_inForce_27 : decode cX2_inForce 27 = .ok (.getfield 51, 3) := by decide +kernel
theorem dX2_inForce_30 : decode cX2_inForce 30 = .ok (.iload_n 1, 1) := by decide +kernel
theorem dX2_inForce_31 : decode cX2_inForce 31 = .ok (.aaload, 1) := by decide +kernel
theorem dX2_inForce_32 : decode cX2_inForce 32 = .ok (.astore 5, 2) := by decide +kernel
theorem dX2_inForce_34 : decode cX2_inForce 34 = .ok (.aload 5, 2) := by decide +kernel
theorem dX2_inForce_36 : decode cX2_inForce 36 = .ok (.ifnull 65, 3) := by decide +kernel
theorem dX2_inForce_39 : decode cX2_inForce 39 = .ok (.aload 5, 2) := by decide +kernel
theorem dX2_inForce_41 : decode cX2_inForce 41 = .ok (.getfield 70, 3) := by decide +kernel
theorem dX2_inForce_44 : decode cX2_inForce 44 = .ok (.iload_n 3, 1) := by decide +kernel
theorem dX2_inForce_45 : decode cX2_inForce 45 = .ok (.if_icmp .gt 16, 3) := by decide +kernel
theorem dX2_inForce_48 : decode cX2_inForce 48 = .ok (.aload 5, 2) := by decide +kernel
theorem dX2_inForce_50 : decode cX2_inForce 50 = .ok (.getfield 73, 3) := by decide +kernel
theorem dX2_inForce_53 : decode cX2_inForce 53 = .ok (.iload_n 2, 1) := by decide +kernel
theorem dX2_inForce_54 : decode cX2_inForce 54 = .ok (.if_icmp .gt 7, 3) := by decide +kernel
theorem dX2_inForce_57 : decode cX2_inForce 57 = .ok (.iconst 1, 1) := by decide +kernel
theorem dX2_inForce_58 : decode cX2_inForce 58 = .ok (.goto 4, 3) := by decide +kernel
theorem dX2_inForce_61 : decode cX2_inForce 61 = .ok (.iconst 0, 1) := by decide +kernel
theorem dX2_inForce_62 : decode cX2_inForce 62 = .ok (.istore 6, 2) := by decide +kernel
theorem dX2_inForce_64 : decode cX2_inForce 64 = .ok (.iload 6, 2) := by decide +kernel
theorem dX2_inForce_66 : decode cX2_inForce 66 = .ok (.ifCond .eq 25, 3) := by decide +kernel
theorem dX2_inForce_69 : decode cX2_inForce 69 = .ok (.aload 4, 2) := by decide +kernel
theorem dX2_inForce_71 : decode cX2_inForce 71 = .ok (.ifnull 16, 3) := by decide +kernel
theorem dX2_inForce_74 : decode cX2_inForce 74 = .ok (.aload 5, 2) := by decide +kernel
theorem dX2_inForce_76 : decode cX2_inForce 76 = .ok (.getfield 73, 3) := by decide +kernel
theorem dX2_inForce_79 : decode cX2_inForce 79 = .ok (.aload 4, 2) := by decide +kernel
theorem dX2_inForce_81 : decode cX2_inForce 81 = .ok (.getfield 73, 3) := by decide +kernel
theorem dX2_inForce_84 : decode cX2_inForce 84 = .ok (.if_icmp .le 7, 3) := by decide +kernel
theorem dX2_inForce_87 : decode cX2_inForce 87 = .ok (.aload 5, 2) := by decide +kernel
theorem dX2_inForce_89 : decode cX2_inForce 89 = .ok (.astore 4, 2) := by decide +kernel
theorem dX2_inForce_91 : decode cX2_inForce 91 = .ok (.aload 5, 2) := by decide +kernel
theorem dX2_inForce_93 : decode cX2_inForce 93 = .ok (.getfield 76, 3) := by decide +kernel
theorem dX2_inForce_96 : decode cX2_inForce 96 = .ok (.astore 5, 2) := by decide +kernel
theorem dX2_inForce_98 : decode cX2_inForce 98 = .ok (.goto (-64), 3) := by decide +kernel
theorem dX2_inForce_101 : decode cX2_inForce 101 = .ok (.aload 4, 2) := by decide +kernel
theorem dX2_inForce_103 : decode cX2_inForce 103 = .ok (.ifnonnull 11, 3) := by decide +kernel
theorem dX2_inForce_106 : decode cX2_inForce 106 = .ok (.getstatic 67, 3) := by decide +kernel
theorem dX2_inForce_109 : decode cX2_inForce 109 = .ok (.iload_n 1, 1) := by decide +kernel
theorem dX2_inForce_110 : decode cX2_inForce 110 = .ok (.iaload, 1) := by decide +kernel
theorem dX2_inForce_111 : decode cX2_inForce 111 = .ok (.goto 8, 3) := by decide +kernel
theorem dX2_inForce_114 : decode cX2_inForce 114 = .ok (.aload 4, 2) := by decide +kernel
theorem dX2_inForce_116 : decode cX2_inForce 116 = .ok (.getfield 80, 3) := by decide +kernel
theorem dX2_inForce_119 : decode cX2_inForce 119 = .ok (.ireturn, 1) := by decide +kernel
theorem dX3_init_0 : decode cX3_init 0 = .ok (.aload_n 0, 1) := by decide +kernel
theorem dX3_init_1 : decode cX3_init 1 = .ok (.invokespecial 3, 3) := by decide +kernel
theorem dX3_init_4 : decode cX3_init 4 = .ok (.aload_n 0, 1) := by decide +kernel
theorem dX3_init_5 : decode cX3_init 5 = .ok (.bipush 41, 2) := by decide +kernel
theorem dX3_init_7 : decode cX3_init 7 = .ok (.anewarray 9, 3) := by decide +kernel
theorem dX3_init_10 : decode cX3_init 10 = .ok (.putfield 11, 3) := by decide +kernel
theorem dX3_init_13 : decode cX3_init 13 = .ok (.aload_n 0, 1) := by decide +kernel
theorem dX3_init_14 : decode cX3_init 14 = .ok (.bipush 41, 2) := by decide +kernel
theorem dX3_init_16 : decode cX3_init 16 = .ok (.anewarray 17, 3) := by decide +kernel
theorem dX3_init_19 : decode cX3_init 19 = .ok (.putfield 19, 3) := by decide +kernel
theorem dX3_init_22 : decode cX3_init 22 = .ok (.aload_n 0, 1) := by decide +kernel
theorem dX3_init_23 : decode cX3_init 23 = .ok (.iload_n 1, 1) := by decide +kernel
theorem dX3_init_24 : decode cX3_init 24 = .ok (.putfield 23, 3) := by decide +kernel
theorem dX3_init_27 : decode cX3_init 27 = .ok (.aload_n 0, 1) := by decide +kernel
theorem dX3_init_28 : decode cX3_init 28 = .ok (.iload_n 2, 1) := by decide +kernel
theorem dX3_init_29 : decode cX3_init 29 = .ok (.iload 4, 2) := by decide +kernel
theorem dX3_init_31 : decode cX3_init 31 = .ok (.invokestatic 27, 3) := by decide +kernel
theorem dX3_init_34 : decode cX3_init 34 = .ok (.putfield 33, 3) := by decide +kernel
theorem dX3_init_37 : decode cX3_init 37 = .ok (.aload_n 0, 1) := by decide +kernel
theorem dX3_init_38 : decode cX3_init 38 = .ok (.iload_n 2, 1) := by decide +kernel
theorem dX3_init_39 : decode cX3_init 39 = .ok (.iload 4, 2) := by decide +kernel
theorem dX3_init_41 : decode cX3_init 41 = .ok (.invokestatic 36, 3) := by decide +kernel
theorem dX3_init_44 : decode cX3_init 44 = .ok (.putfield 39, 3) := by decide +kernel
theorem dX3_init_47 : decode cX3_init 47 = .ok (.aload_n 0, 1) := by decide +kernel
theorem dX3_init_48 : decode cX3_init 48 = .ok (.iload_n 3, 1) := by decide +kernel
theorem dX3_init_49 : decode cX3_init 49 = .ok (.iload 5, 2) := by decide +kernel
theorem dX3_init_51 : decode cX3_init 51 = .ok (.invokestatic 27, 3) := by decide +kernel
theorem dX3_init_54 : decode cX3_init 54 = .ok (.putfield 42, 3) := by decide +kernel
theorem dX3_init_57 : decode cX3_init 57 = .ok (.aload_n 0, 1) := by decide +kernel
theorem dX3_init_58 : decode cX3_init 58 = .ok (.iload_n 3, 1) := by decide +kernel
theorem dX3_init_59 : decode cX3_init 59 = .ok (.iload 5, 2) := by decide +kernel
theorem dX3_init_61 : decode cX3_init 61 = .ok (.invokestatic 36, 3) := by decide +kernel
theorem dX3_init_64 : decode cX3_init 64 = .ok (.putfield 45, 3) := by decide +kernel
theorem dX3_init_67 : decode cX3_init 67 = .ok (.return_, 1) := by decide +kernel
theorem dX3_squareTo_0 : decode cX3_squareTo 0 = .ok (.iconst 0, 1) := by decide +kernel
theorem dX3_squareTo_1 : decode cX3_squareTo 1 = .ok (.aload_n 1, 1) := by decide +kernel
theorem dX3_squareTo_2 : decode cX3_squareTo 2 = .ok (.getfield 33, 3) := by decide +kernel
theorem dX3_squareTo_5 : decode cX3_squareTo 5 = .ok (.aload_n 0, 1) := by decide +kernel
theorem dX3_squareTo_6 : decode cX3_squareTo 6 = .ok (.getfield 39, 3) := by decide +kernel
theorem dX3_squareTo_9 : decode cX3_squareTo 9 = .ok (.isub, 1) := by decide +kernel
theorem dX3_squareTo_10 : decode cX3_squareTo 10 = .ok (.aload_n 0, 1) := by decide +kernel
theorem dX3_squareTo_11 : decode cX3_squareTo 11 = .ok (.getfield 33, 3) := by decide +kernel
theorem dX3_squareTo_14 : decode cX3_squareTo 14 = .ok (.aload_n 1, 1) := by decide +kernel
theorem dX3_squareTo_15 : decode cX3_squareTo 15 = .ok (.getfield 39, 3) := by decide +kernel
theorem dX3_squareTo_18 : decode cX3_squareTo 18 = .ok (.isub, 1) := by decide +kernel
theorem dX3_squareTo_19 : decode cX3_squareTo 19 = .ok (.invokestatic 36, 3) := by decide +kernel
theorem dX3_squareTo_22 : decode cX3_squareTo 22 = .ok (.invokestatic 36, 3) := by decide +kernel
theorem dX3_squareTo_25 : decode cX3_squareTo 25 = .ok (.istore_n 2, 1) := by decide +kernel
theorem dX3_squareTo_26 : decode cX3_squareTo 26 = .ok (.iconst 0, 1) := by decide +kernel
theorem dX3_squareTo_27 : decode cX3_squareTo 27 = .ok (.aload_n 1, 1) := by decide +kernel
theorem dX3_squareTo_28 : decode cX3_squareTo 28 = .ok (.getfield 42, 3) := by decide +kernel
theorem dX3_squareTo_31 : decode cX3_squareTo 31 = .ok (.aload_n 0, 1) := by decide +kernel
theorem dX3_squareTo_32 : decode cX3_squareTo 32 = .ok (.getfield 45, 3) := by decide +kernel
theorem dX3_squareTo_35 : decode cX3_squareTo 35 = .ok (.isub, 1) := by decide +kernel
theorem dX3_squareTo_36 : decode cX3_squareTo 36 = .ok (.aload_n 0, 1) := by decide +kernel
theorem dX3_squareTo_37 : decode cX3_squareTo 37 = .ok (.getfield 42, 3) := by decide +kernel
theorem dX3_squareTo_40 : decode cX3_squareTo 40 = .ok (.aload_n 1, 1) := by decide +kernel
theorem dX3_squareTo_41 : decode cX3_squareTo 41 = .ok (.getfield 45, 3) := by decide +kernel
theorem dX3_squareTo_44 : decode cX3_squareTo 44 = .ok (.isub, 1) := by decide +kernel
theorem dX3_squareTo_45 : decode cX3_squareTo 45 = .ok (.invokestatic 36, 3) := by decide +kernel
theorem dX3_squareTo_48 : decode cX3_squareTo 48 = .ok (.invokestatic 36, 3) := by decide +kernel
theorem dX3_squareTo_51 : decode cX3_squareTo 51 = .ok (.istore_n 3, 1) := by decide +kernel
theorem dX3_squareTo_52 : decode cX3_squareTo 52 = .ok (.iload_n 2, 1) := by decide +kernel
theorem dX3_squareTo_53 : decode cX3_squareTo 53 = .ok (.iload_n 2, 1) := by decide +kernel
theorem dX3_squareTo_54 : decode cX3_squareTo 54 = .ok (.imul, 1) := by decide +kernel
theorem dX3_squareTo_55 : decode cX3_squareTo 55 = .ok (.iload_n 3, 1) := by decide +kernel
theorem dX3_squareTo_56 : decode cX3_squareTo 56 = .ok (.iload_n 3, 1) := by decide +kernel
theorem dX3_squareTo_57 : decode cX3_squareTo 57 = .ok (.imul, 1) := by decide +kernel
theorem dX3_squareTo_58 : decode cX3_squareTo 58 = .ok (.iadd, 1) := by decide +kernel
theorem dX3_squareTo_59 : decode cX3_squareTo 59 = .ok (.ireturn, 1) := by decide +kernel
theorem dX3_grow_0 : decode cX3_grow 0 = .ok (.aload_n 1, 1) := by decide +kernel
theorem dX3_grow_1 : decode cX3_grow 1 = .ok (.getfield 48, 3) := by decide +kernel
theorem dX3_grow_4 : decode cX3_grow 4 = .ok (.ifCond .lt 25, 3) := by decide +kernel
theorem dX3_grow_7 : decode cX3_grow 7 = .ok (.aload_n 1, 1) := by decide +kernel
theorem dX3_grow_8 : decode cX3_grow 8 = .ok (.getfield 48, 3) := by decide +kernel
theorem dX3_grow_11 : decode cX3_grow 11 = .ok (.aload_n 0, 1) := by decide +kernel
theorem dX3_grow_12 : decode cX3_grow 12 = .ok (.getfield 11, 3) := by decide +kernel
theorem dX3_grow_15 : decode cX3_grow 15 = .ok (.arraylength, 1) := by decide +kernel
theorem dX3_grow_16 : decode cX3_grow 16 = .ok (.if_icmp .ge 13, 3) := by decide +kernel
theorem dX3_grow_19 : decode cX3_grow 19 = .ok (.aload_n 0, 1) := by decide +kernel
theorem dX3_grow_20 : decode cX3_grow 20 = .ok (.getfield 11, 3) := by decide +kernel
theorem dX3_grow_23 : decode cX3_grow 23 = .ok (.aload_n 1, 1) := by decide +kernel
theorem dX3_grow_24 : decode cX3_grow 24 = .ok (.getfield 48, 3) := by decide +kernel
theorem dX3_grow_27 : decode cX3_grow 27 = .ok (.aload_n 1, 1) := by decide +kernel
theorem dX3_grow_28 : decode cX3_grow 28 = .ok (.aastore, 1) := by decide +kernel
theorem dX3_grow_29 : decode cX3_grow 29 = .ok (.return_, 1) := by decide +kernel
theorem dX3_tell_0 : decode cX3_tell 0 = .ok (.iload_n 1, 1) := by decide +kernel
theorem dX3_tell_1 : decode cX3_tell 1 = .ok (.ifCond .lt 33, 3) := by decide +kernel
theorem dX3_tell_4 : decode cX3_tell 4 = .ok (.iload_n 1, 1) := by decide +kernel
theorem dX3_tell_5 : decode cX3_tell 5 = .ok (.aload_n 0, 1) := by decide +kernel
theorem dX3_tell_6 : decode cX3_tell 6 = .ok (.getfield 19, 3) := by decide +kernel
theorem dX3_tell_9 : decode cX3_tell 9 = .ok (.arraylength, 1) := by decide +kernel
theorem dX3_tell_10 : decode cX3_tell 10 = .ok (.if_icmp .ge 24, 3) := by decide +kernel
theorem dX3_tell_13 : decode cX3_tell 13 = .ok (.aload_n 0, 1) := by decide +kernel
theorem dX3_tell_14 : decode cX3_tell 14 = .ok (.getfield 19, 3) := by decide +kernel
theorem dX3_tell_17 : decode cX3_tell 17 = .ok (.iload_n 1, 1) := by decide +kernel
theorem dX3_tell_18 : decode cX3_tell 18 = .ok (.new 17, 3) := by decide +kernel
theorem dX3_tell_21 : decode cX3_tell 21 = .ok (.dup, 1) := by decide +kernel
theorem dX3_tell_22 : decode cX3_tell 22 = .ok (.aload_n 0, 1) := by decide +kernel
theorem dX3_tell_23 : decode cX3_tell 23 = .ok (.getfield 19, 3) := by decide +kernel
theorem dX3_tell_26 : decode cX3_tell 26 = .ok (.iload_n 1, 1) := by decide +kernel
theorem dX3_tell_27 : decode cX3_tell 27 = .ok (.aaload, 1) := by decide +kernel
theorem dX3_tell_28 : decode cX3_tell 28 = .ok (.iload_n 3, 1) := by decide +kernel
theorem dX3_tell_29 : decode cX3_tell 29 = .ok (.iload_n 2, 1) := by decide +kernel
theorem dX3_tell_30 : decode cX3_tell 30 = .ok (.invokespecial 51, 3) := by decide +kernel
theorem dX3_tell_33 : decode cX3_tell 33 = .ok (.aastore, 1) := by decide +kernel
theorem dX3_tell_34 : decode cX3_tell 34 = .ok (.return_, 1) := by decide +kernel
theorem dX3_grownIn_0 : decode cX3_grownIn 0 = .ok (.iload_n 1, 1) := by decide +kernel
theorem dX3_grownIn_1 : decode cX3_grownIn 1 = .ok (.ifCond .lt 21, 3) := by decide +kernel
theorem dX3_grownIn_4 : decode cX3_grownIn 4 = .ok (.iload_n 1, 1) := by decide +kernel
theorem dX3_grownIn_5 : decode cX3_grownIn 5 = .ok (.aload_n 0, 1) := by decide +kernel
theorem dX3_grownIn_6 : decode cX3_grownIn 6 = .ok (.getfield 11, 3) := by decide +kernel
theorem dX3_grownIn_9 : decode cX3_grownIn 9 = .ok (.arraylength, 1) := by decide +kernel
theorem dX3_grownIn_10 : decode cX3_grownIn 10 = .ok (.if_icmp .ge 12, 3) := by decide +kernel
theorem dX3_grownIn_13 : decode cX3_grownIn 13 = .ok (.aload_n 0, 1) := by decide +kernel
theorem dX3_grownIn_14 : decode cX3_grownIn 14 = .ok (.getfield 11, 3) := by decide +kernel
theorem dX3_grownIn_17 : decode cX3_grownIn 17 = .ok (.iload_n 1, 1) := by decide +kernel
theorem dX3_grownIn_18 : decode cX3_grownIn 18 = .ok (.aaload, 1) := by decide +kernel
theorem dX3_grownIn_19 : decode cX3_grownIn 19 = .ok (.goto 4, 3) := by decide +kernel
theorem dX3_grownIn_22 : decode cX3_grownIn 22 = .ok (.aconst_null, 1) := by decide +kernel
theorem dX3_grownIn_23 : decode cX3_grownIn 23 = .ok (.areturn, 1) := by decide +kernel
theorem dX3_cropIn_0 : decode cX3_cropIn 0 = .ok (.iload_n 1, 1) := by decide +kernel
theorem dX3_cropIn_1 : decode cX3_cropIn 1 = .ok (.ifCond .lt 12, 3) := by decide +kernel
theorem dX3_cropIn_4 : decode cX3_cropIn 4 = .ok (.iload_n 1, 1) := by decide +kernel
theorem dX3_cropIn_5 : decode cX3_cropIn 5 = .ok (.aload_n 0, 1) := by decide +kernel
theorem dX3_cropIn_6 : decode cX3_cropIn 6 = .ok (.getfield 19, 3) := by decide +kernel
theorem dX3_cropIn_9 : decode cX3_cropIn 9 = .ok (.arraylength, 1) := by decide +kernel
theorem dX3_cropIn_10 : decode cX3_cropIn 10 = .ok (.if_icmp .lt 5, 3) := by decide +kernel
theorem dX3_cropIn_13 : decode cX3_cropIn 13 = .ok (.iconst 0, 1) := by decide +kernel
theorem dX3_cropIn_14 : decode cX3_cropIn 14 = .ok (.ireturn, 1) := by decide +kernel
theorem dX3_cropIn_15 : decode cX3_cropIn 15 = .ok (.aload_n 0, 1) := by decide +kernel
theorem dX3_cropIn_16 : decode cX3_cropIn 16 = .ok (.iload_n 1, 1) := by decide +kernel
theorem dX3_cropIn_17 : decode cX3_cropIn 17 = .ok (.invokevirtual 54, 3) := by decide +kernel
theorem dX3_cropIn_20 : decode cX3_cropIn 20 = .ok (.astore_n 3, 1) := by decide +kernel
theorem dX3_cropIn_21 : decode cX3_cropIn 21 = .ok (.aload_n 3, 1) := by decide +kernel
theorem dX3_cropIn_22 : decode cX3_cropIn 22 = .ok (.ifnull 16, 3) := by decide +kernel
theorem dX3_cropIn_25 : decode cX3_cropIn 25 = .ok (.aload_n 3, 1) := by decide +kernel
theorem dX3_cropIn_26 : decode cX3_cropIn 26 = .ok (.getfield 48, 3) := by decide +kernel
theorem dX3_cropIn_29 : decode cX3_cropIn 29 = .ok (.iload_n 2, 1) := by decide +kernel
theorem dX3_cropIn_30 : decode cX3_cropIn 30 = .ok (.if_icmp .gt 8, 3) := by decide +kernel
theorem dX3_cropIn_33 : decode cX3_cropIn 33 = .ok (.aload_n 3, 1) := by decide +kernel
theorem dX3_cropIn_34 : decode cX3_cropIn 34 = .ok (.getfield 58, 3) := by decide +kernel
theorem dX3_cropIn_37 : decode cX3_cropIn 37 = .ok (.ireturn, 1) := by decide +kernel
theorem dX3_cropIn_38 : decode cX3_cropIn 38 = .ok (.aload_n 0, 1) := by decide +kernel
theorem dX3_cropIn_39 : decode cX3_cropIn 39 = .ok (.getfield 19, 3) := by decide +kernel
theorem dX3_cropIn_42 : decode cX3_cropIn 42 = .ok (.iload_n 1, 1) := by decide +kernel
theorem dX3_cropIn_43 : decode cX3_cropIn 43 = .ok (.aaload, 1) := by decide +kernel
theorem dX3_cropIn_44 : decode cX3_cropIn 44 = .ok (.astore 4, 2) := by decide +kernel
theorem dX3_cropIn_46 : decode cX3_cropIn 46 = .ok (.aload 4, 2) := by decide +kernel
theorem dX3_cropIn_48 : decode cX3_cropIn 48 = .ok (.ifnull 28, 3) := by decide +kernel
theorem dX3_cropIn_51 : decode cX3_cropIn 51 = .ok (.aload 4, 2) := by decide +kernel
theorem dX3_cropIn_53 : decode cX3_cropIn 53 = .ok (.getfield 61, 3) := by decide +kernel
theorem dX3_cropIn_56 : decode cX3_cropIn 56 = .ok (.iload_n 2, 1) := by decide +kernel
theorem dX3_cropIn_57 : decode cX3_cropIn 57 = .ok (.if_icmp .gt 9, 3) := by decide +kernel
theorem dX3_cropIn_60 : decode cX3_cropIn 60 = .ok (.aload 4, 2) := by decide +kernel
theorem dX3_cropIn_62 : decode cX3_cropIn 62 = .ok (.getfield 64, 3) := by decide +kernel
theorem dX3_cropIn_65 : decode cX3_cropIn 65 = .ok (.ireturn, 1) := by decide +kernel
theorem dX3_cropIn_66 : decode cX3_cropIn 66 = .ok (.aload 4, 2) := by decide +kernel
theorem dX3_cropIn_68 : decode cX3_cropIn 68 = .ok (.getfield 65, 3) := by decide +kernel
theorem dX3_cropIn_71 : decode cX3_cropIn 71 = .ok (.astore 4, 2) := by decide +kernel
theorem dX3_cropIn_73 : decode cX3_cropIn 73 = .ok (.goto (-27), 3) := by decide +kernel
theorem dX3_cropIn_76 : decode cX3_cropIn 76 = .ok (.iconst 0, 1) := by decide +kernel
theorem dX3_cropIn_77 : decode cX3_cropIn 77 = .ok (.ireturn, 1) := by decide +kernel
theorem dX3_stoodAheadOf_0 : decode cX3_stoodAheadOf 0 = .ok (.iconst 0, 1) := by decide +kernel
theorem dX3_stoodAheadOf_1 : decode cX3_stoodAheadOf 1 = .ok (.iload_n 1, 1) := by decide +kernel
theorem dX3_stoodAheadOf_2 : decode cX3_stoodAheadOf 2 = .ok (.iload_n 2, 1) := by decide +kernel
theorem dX3_stoodAheadOf_3 : decode cX3_stoodAheadOf 3 = .ok (.isub, 1) := by decide +kernel
theorem dX3_stoodAheadOf_4 : decode cX3_stoodAheadOf 4 = .ok (.invokestatic 36, 3) := by decide +kernel
theorem dX3_stoodAheadOf_7 : decode cX3_stoodAheadOf 7 = .ok (.istore 5, 2) := by decide +kernel
theorem dX3_stoodAheadOf_9 : decode cX3_stoodAheadOf 9 = .ok (.iload_n 1, 1) := by decide +kernel
theorem dX3_stoodAheadOf_10 : decode cX3_stoodAheadOf 10 = .ok (.iconst 1, 1) := by decide +kernel
theorem dX3_stoodAheadOf_11 : decode cX3_stoodAheadOf 11 = .ok (.isub, 1) := by decide +kernel
theorem dX3_stoodAheadOf_12 : decode cX3_stoodAheadOf 12 = .ok (.istore 6, 2) := by decide +kernel
theorem dX3_stoodAheadOf_14 : decode cX3_stoodAheadOf 14 = .ok (.iload 6, 2) := by decide +kernel
theorem dX3_stoodAheadOf_16 : decode cX3_stoodAheadOf 16 = .ok (.iload 5, 2) := by decide +kernel
theorem dX3_stoodAheadOf_18 : decode cX3_stoodAheadOf 18 = .ok (.if_icmp .lt 23, 3) := by decide +kernel
theorem dX3_stoodAheadOf_21 : decode cX3_stoodAheadOf 21 = .ok (.aload_n 0, 1) := by decide +kernel
theorem dX3_stoodAheadOf_22 : decode cX3_stoodAheadOf 22 = .ok (.iload 6, 2) := by decide +kernel
theorem dX3_stoodAheadOf_24 : decode cX3_stoodAheadOf 24 = .ok (.iload 4, 2) := by decide +kernel
theorem dX3_stoodAheadOf_26 : decode cX3_stoodAheadOf 26 = .ok (.invokevirtual 69, 3) := by decide +kernel
theorem dX3_stoodAheadOf_29 : decode cX3_stoodAheadOf 29 = .ok (.iload_n 3, 1) := by decide +kernel
theorem dX3_stoodAheadOf_30 : decode cX3_stoodAheadOf 30 = .ok (.if_icmp .ne 5, 3) := by decide +kernel
theorem dX3_stoodAheadOf_33 : decode cX3_stoodAheadOf 33 = .ok (.iconst 1, 1) := by decide +kernel
theorem dX3_stoodAheadOf_34 : decode cX3_stoodAheadOf 34 = .ok (.ireturn, 1) := by decide +kernel
theorem dX3_stoodAheadOf_35 : decode cX3_stoodAheadOf 35 = .ok (.iinc 6 (-1), 3) := by decide +kernel
theorem dX3_stoodAheadOf_38 : decode cX3_stoodAheadOf 38 = .ok (.goto (-24), 3) := by decide +kernel
theorem dX3_stoodAheadOf_41 : decode cX3_stoodAheadOf 41 = .ok (.iconst 0, 1) := by decide +kernel
theorem dX3_stoodAheadOf_42 : decode cX3_stoodAheadOf 42 = .ok (.ireturn, 1) := by decide +kernel
theorem dX4_init_0 : decode cX4_init 0 = .ok (.aload_n 0, 1) := by decide +kernel
theorem dX4_init_1 : decode cX4_init 1 = .ok (.invokespecial 3, 3) := by decide +kernel
theorem dX4_init_4 : decode cX4_init 4 = .ok (.aload_n 0, 1) := by decide +kernel
theorem dX4_init_5 : decode cX4_init 5 = .ok (.aload_n 1, 1) := by decide +kernel
theorem dX4_init_6 : decode cX4_init 6 = .ok (.putfield 9, 3) := by decide +kernel
theorem dX4_init_9 : decode cX4_init 9 = .ok (.return_, 1) := by decide +kernel
theorem dX4_traceBelow_0 : decode cX4_traceBelow 0 = .ok (.iconst 0, 1) := by decide +kernel
theorem dX4_traceBelow_1 : decode cX4_traceBelow 1 = .ok (.istore_n 2, 1) := by decide +kernel
theorem dX4_traceBelow_2 : decode cX4_traceBelow 2 = .ok (.iload_n 2, 1) := by decide +kernel
theorem dX4_traceBelow_3 : decode cX4_traceBelow 3 = .ok (.aload_n 0, 1) := by decide +kernel
theorem dX4_traceBelow_4 : decode cX4_traceBelow 4 = .ok (.getfield 9, 3) := by decide +kernel
theorem dX4_traceBelow_7 : decode cX4_traceBelow 7 = .ok (.getfield 15, 3) := by decide +kernel
theorem dX4_traceBelow_10 : decode cX4_traceBelow 10 = .ok (.if_icmp .ge 59, 3) := by decide +kernel
theorem dX4_traceBelow_13 : decode cX4_traceBelow 13 = .ok (.aload_n 0, 1) := by decide +kernel
theorem dX4_traceBelow_14 : decode cX4_traceBelow 14 = .ok (.getfield 9, 3) := by decide +kernel
theorem dX4_traceBelow_17 : decode cX4_traceBelow 17 = .ok (.iload_n 2, 1) := by decide +kernel
theorem dX4_traceBelow_18 : decode cX4_traceBelow 18 = .ok (.invokevirtual 21, 3) := by decide +kernel
theorem dX4_traceBelow_21 : decode cX4_traceBelow 21 = .ok (.astore_n 3, 1) := by decide +kernel
theorem dX4_traceBelow_22 : decode cX4_traceBelow 22 = .ok (.aload_n 3, 1) := by decide +kernel
theorem dX4_traceBelow_23 : decode cX4_traceBelow 23 = .ok (.ifnull 40, 3) := by decide +kernel
theorem dX4_traceBelow_26 : decode cX4_traceBelow 26 = .ok (.aload_n 3, 1) := by decide +kernel
theorem dX4_traceBelow_27 : decode cX4_traceBelow 27 = .ok (.getfield 25, 3) := by decide +kernel
theorem dX4_traceBelow_30 : decode cX4_traceBelow 30 = .ok (.invokestatic 31, 3) := by decide +kernel
theorem dX4_traceBelow_33 : decode cX4_traceBelow 33 = .ok (.aload_n 3, 1) := by decide +kernel
theorem dX4_traceBelow_34 : decode cX4_traceBelow 34 = .ok (.getfield 35, 3) := by decide +kernel
theorem dX4_traceBelow_37 : decode cX4_traceBelow 37 = .ok (.invokestatic 31, 3) := by decide +kernel
theorem dX4_traceBelow_40 : decode cX4_traceBelow 40 = .ok (.iadd, 1) := by decide +kernel
theorem dX4_traceBelow_41 : decode cX4_traceBelow 41 = .ok (.istore 4, 2) := by decide +kernel
theorem dX4_traceBelow_43 : decode cX4_traceBelow 43 = .ok (.aload_n 3, 1) := by decide +kernel
theorem dX4_traceBelow_44 : decode cX4_traceBelow 44 = .ok (.aload_n 3, 1) := by decide +kernel
theorem dX4_traceBelow_45 : decode cX4_traceBelow 45 = .ok (.aload_n 1, 1) := by decide +kernel
theorem dX4_traceBelow_46 : decode cX4_traceBelow 46 = .ok (.if_acmp .ne 7, 3) := by decide +kernel
theorem dX4_traceBelow_49 : decode cX4_traceBelow 49 = .ok (.iconst 1, 1) := by decide +kernel
theorem dX4_traceBelow_50 : decode cX4_traceBelow 50 = .ok (.goto 10, 3) := by decide +kernel
theorem dX4_traceBelow_53 : decode cX4_traceBelow 53 = .ok (.ldc 38, 2) := by decide +kernel
theorem dX4_traceBelow_55 : decode cX4_traceBelow 55 = .ok (.iload 4, 2) := by decide +kernel
theorem dX4_traceBelow_57 : decode cX4_traceBelow 57 = .ok (.invokestatic 39, 3) := by decide +kernel
theorem dX4_traceBelow_60 : decode cX4_traceBelow 60 = .ok (.putfield 45, 3) := by decide +kernel
theorem dX4_traceBelow_63 : decode cX4_traceBelow 63 = .ok (.iinc 2 1, 3) := by decide +kernel
theorem dX4_traceBelow_66 : decode cX4_traceBelow 66 = .ok (.goto (-64), 3) := by decide +kernel
theorem dX4_traceBelow_69 : decode cX4_traceBelow 69 = .ok (.return_, 1) := by decide +kernel
theorem dX4_buyersBelow_0 : decode cX4_buyersBelow 0 = .ok (.aload_n 0, 1) := by decide +kernel
theorem dX4_buyersBelow_1 : decode cX4_buyersBelow 1 = .ok (.aload_n 1, 1) := by decide +kernel
theorem dX4_buyersBelow_2 : decode cX4_buyersBelow 2 = .ok (.invokevirtual 48, 3) := by decide +kernel
theorem dX4_buyersBelow_5 : decode cX4_buyersBelow 5 = .ok (.iconst 0, 1) := by decide +kernel
theorem dX4_buyersBelow_6 : decode cX4_buyersBelow 6 = .ok (.istore_n 2, 1) := by decide +kernel
theorem dX4_buyersBelow_7 : decode cX4_buyersBelow 7 = .ok (.iconst 0, 1) := by decide +kernel
theorem dX4_buyersBelow_8 : decode cX4_buyersBelow 8 = .ok (.istore_n 3, 1) := by decide +kernel
theorem dX4_buyersBelow_9 : decode cX4_buyersBelow 9 = .ok (.iload_n 3, 1) := by decide +kernel
theorem dX4_buyersBelow_10 : decode cX4_buyersBelow 10 = .ok (.aload_n 0, 1) := by decide +kernel
theorem dX4_buyersBelow_11 : decode cX4_buyersBelow 11 = .ok (.getfield 9, 3) := by decide +kernel
theorem dX4_buyersBelow_14 : decode cX4_buyersBelow 14 = .ok (.getfield 52, 3) := by decide +kernel
theorem dX4_buyersBelow_17 : decode cX4_buyersBelow 17 = .ok (.if_icmp .ge 53, 3) := by decide +kernel
theorem dX4_buyersBelow_20 : decode cX4_buyersBelow 20 = .ok (.aload_n 0, 1) := by decide +kernel
theorem dX4_buyersBelow_21 : decode cX4_buyersBelow 21 = .ok (.getfield 9, 3) := by decide +kernel
theorem dX4_buyersBelow_24 : decode cX4_buyersBelow 24 = .ok (.iload_n 3, 1) := by decide +kernel
theorem dX4_buyersBelow_25 : decode cX4_buyersBelow 25 = .ok (.invokevirtual 55, 3) := by decide +kernel
theorem dX4_buyersBelow_28 : decode cX4_buyersBelow 28 = .ok (.astore 4, 2) := by decide +kernel
theorem dX4_buyersBelow_30 : decode cX4_buyersBelow 30 = .ok (.aload 4, 2) := by decide +kernel
theorem dX4_buyersBelow_32 : decode cX4_buyersBelow 32 = .ok (.ifnull 32, 3) := by decide +kernel
theorem dX4_buyersBelow_35 : decode cX4_buyersBelow 35 = .ok (.aload 4, 2) := by decide +kernel
theorem dX4_buyersBelow_37 : decode cX4_buyersBelow 37 = .ok (.invokevirtual 59, 3) := by decide +kernel
theorem dX4_buyersBelow_40 : decode cX4_buyersBelow 40 = .ok (.ifCond .eq 24, 3) := by decide +kernel
theorem dX4_buyersBelow_43 : decode cX4_buyersBelow 43 = .ok (.aload 4, 2) := by decide +kernel
theorem dX4_buyersBelow_45 : decode cX4_buyersBelow 45 = .ok (.getfield 65, 3) := by decide +kernel
theorem dX4_buyersBelow_48 : decode cX4_buyersBelow 48 = .ok (.getfield 45, 3) := by decide +kernel
theorem dX4_buyersBelow_51 : decode cX4_buyersBelow 51 = .ok (.ifCond .le 13, 3) := by decide +kernel
theorem dX4_buyersBelow_54 : decode cX4_buyersBelow 54 = .ok (.iload_n 2, 1) := by decide +kernel
theorem dX4_buyersBelow_55 : decode cX4_buyersBelow 55 = .ok (.iconst 1, 1) := by decide +kernel
theorem dX4_buyersBelow_56 : decode cX4_buyersBelow 56 = .ok (.aload 4, 2) := by decide +kernel
theorem dX4_buyersBelow_58 : decode cX4_buyersBelow 58 = .ok (.getfield 68, 3) := by decide +kernel
theorem dX4_buyersBelow_61 : decode cX4_buyersBelow 61 = .ok (.ishl, 1) := by decide +kernel
theorem dX4_buyersBelow_62 : decode cX4_buyersBelow 62 = .ok (.ior, 1) := by decide +kernel
theorem dX4_buyersBelow_63 : decode cX4_buyersBelow 63 = .ok (.istore_n 2, 1) := by decide +kernel
theorem dX4_buyersBelow_64 : decode cX4_buyersBelow 64 = .ok (.iinc 3 1, 3) := by decide +kernel
theorem dX4_buyersBelow_67 : decode cX4_buyersBelow 67 = .ok (.goto (-58), 3) := by decide +kernel
theorem dX4_buyersBelow_70 : decode cX4_buyersBelow 70 = .ok (.iload_n 2, 1) := by decide +kernel
theorem dX4_buyersBelow_71 : decode cX4_buyersBelow 71 = .ok (.ireturn, 1) := by decide +kernel
theorem dX4_touchedBy_0 : decode cX4_touchedBy 0 = .ok (.aload_n 0, 1) := by decide +kernel
theorem dX4_touchedBy_1 : decode cX4_touchedBy 1 = .ok (.aload_n 1, 1) := by decide +kernel
theorem dX4_touchedBy_2 : decode cX4_touchedBy 2 = .ok (.invokevirtual 48, 3) := by decide +kernel
theorem dX4_touchedBy_5 : decode cX4_touchedBy 5 = .ok (.aload_n 0, 1) := by decide +kernel
theorem dX4_touchedBy_6 : decode cX4_touchedBy 6 = .ok (.aload_n 1, 1) := by decide +kernel
theorem dX4_touchedBy_7 : decode cX4_touchedBy 7 = .ok (.invokevirtual 71, 3) := by decide +kernel
theorem dX4_touchedBy_10 : decode cX4_touchedBy 10 = .ok (.aload_n 0, 1) := by decide +kernel
theorem dX4_touchedBy_11 : decode cX4_touchedBy 11 = .ok (.aload_n 1, 1) := by decide +kernel
theorem dX4_touchedBy_12 : decode cX4_touchedBy 12 = .ok (.invokevirtual 74, 3) := by decide +kernel
theorem dX4_touchedBy_15 : decode cX4_touchedBy 15 = .ok (.iconst 0, 1) := by decide +kernel
theorem dX4_touchedBy_16 : decode cX4_touchedBy 16 = .ok (.istore 4, 2) := by decide +kernel
theorem dX4_touchedBy_18 : decode cX4_touchedBy 18 = .ok (.iconst 0, 1) := by decide +kernel
theorem dX4_touchedBy_19 : decode cX4_touchedBy 19 = .ok (.istore 5, 2) := by decide +kernel
theorem dX4_touchedBy_21 : decode cX4_touchedBy 21 = .ok (.iload 5, 2) := by decide +kernel
theorem dX4_touchedBy_23 : decode cX4_touchedBy 23 = .ok (.aload_n 0, 1) := by decide +kernel
theorem dX4_touchedBy_24 : decode cX4_touchedBy 24 = .ok (.getfield 9, 3) := by decide +kernel
theorem dX4_touchedBy_27 : decode cX4_touchedBy 27 = .ok (.getfield 15, 3) := by decide +kernel
theorem dX4_touchedBy_30 : decode cX4_touchedBy 30 = .ok (.if_icmp .ge 46, 3) := by decide +kernel
theorem dX4_touchedBy_33 : decode cX4_touchedBy 33 = .ok (.aload_n 0, 1) := by decide +kernel
theorem dX4_touchedBy_34 : decode cX4_touchedBy 34 = .ok (.getfield 9, 3) := by decide +kernel
theorem dX4_touchedBy_37 : decode cX4_touchedBy 37 = .ok (.iload 5, 2) := by decide +kernel
theorem dX4_touchedBy_39 : decode cX4_touchedBy 39 = .ok (.invokevirtual 21, 3) := by decide +kernel
theorem dX4_touchedBy_42 : decode cX4_touchedBy 42 = .ok (.astore 6, 2) := by decide +kernel
theorem dX4_touchedBy_44 : decode cX4_touchedBy 44 = .ok (.aload 6, 2) := by decide +kernel
theorem dX4_touchedBy_46 : decode cX4_touchedBy 46 = .ok (.ifnull 24, 3) := by decide +kernel
theorem dX4_touchedBy_49 : decode cX4_touchedBy 49 = .ok (.aload 6, 2) := by decide +kernel
theorem dX4_touchedBy_51 : decode cX4_touchedBy 51 = .ok (.invokestatic 77, 3) := by decide +kernel
theorem dX4_touchedBy_54 : decode cX4_touchedBy 54 = .ok (.iload_n 2, 1) := by decide +kernel
theorem dX4_touchedBy_55 : decode cX4_touchedBy 55 = .ok (.if_icmp .ne 15, 3) := by decide +kernel
theorem dX4_touchedBy_58 : decode cX4_touchedBy 58 = .ok (.iload 4, 2) := by decide +kernel
theorem dX4_touchedBy_60 : decode cX4_touchedBy 60 = .ok (.iload_n 3, 1) := by decide +kernel
theorem dX4_touchedBy_61 : decode cX4_touchedBy 61 = .ok (.if_icmp .ne 6, 3) := by decide +kernel
theorem dX4_touchedBy_64 : decode cX4_touchedBy 64 = .ok (.iload 5, 2) := by decide +kernel
theorem dX4_touchedBy_66 : decode cX4_touchedBy 66 = .ok (.ireturn, 1) := by decide +kernel
theorem dX4_touchedBy_67 : decode cX4_touchedBy 67 = .ok (.iinc 4 1, 3) := by decide +kernel
theorem dX4_touchedBy_70 : decode cX4_touchedBy 70 = .ok (.iinc 5 1, 3) := by decide +kernel
theorem dX4_touchedBy_73 : decode cX4_touchedBy 73 = .ok (.goto (-52), 3) := by decide +kernel
theorem dX4_touchedBy_76 : decode cX4_touchedBy 76 = .ok (.iconst (-1), 1) := by decide +kernel
theorem dX4_touchedBy_77 : decode cX4_touchedBy 77 = .ok (.ireturn, 1) := by decide +kernel
theorem dX4_markAbove_0 : decode cX4_markAbove 0 = .ok (.iconst 0, 1) := by decide +kernel
theorem dX4_markAbove_1 : decode cX4_markAbove 1 = .ok (.istore_n 2, 1) := by decide +kernel
theorem dX4_markAbove_2 : decode cX4_markAbove 2 = .ok (.iload_n 2, 1) := by decide +kernel
theorem dX4_markAbove_3 : decode cX4_markAbove 3 = .ok (.aload_n 0, 1) := by decide +kernel
theorem dX4_markAbove_4 : decode cX4_markAbove 4 = .ok (.getfield 9, 3) := by decide +kernel
theorem dX4_markAbove_7 : decode cX4_markAbove 7 = .ok (.getfield 15, 3) := by decide +kernel
theorem dX4_markAbove_10 : decode cX4_markAbove 10 = .ok (.if_icmp .ge 27, 3) := by decide +kernel
theorem dX4_markAbove_13 : decode cX4_markAbove 13 = .ok (.aload_n 0, 1) := by decide +kernel
theorem dX4_markAbove_14 : decode cX4_markAbove 14 = .ok (.getfield 9, 3) := by decide +kernel
theorem dX4_markAbove_17 : decode cX4_markAbove 17 = .ok (.iload_n 2, 1) := by decide +kernel
theorem dX4_markAbove_18 : decode cX4_markAbove 18 = .ok (.invokevirtual 21, 3) := by decide +kernel
theorem dX4_markAbove_21 : decode cX4_markAbove 21 = .ok (.astore_n 3, 1) := by decide +kernel
theorem dX4_markAbove_22 : decode cX4_markAbove 22 = .ok (.aload_n 3, 1) := by decide +kernel
theorem dX4_markAbove_23 : decode cX4_markAbove 23 = .ok (.ifnull 8, 3) := by decide +kernel
theorem dX4_markAbove_26 : decode cX4_markAbove 26 = .ok (.aload_n 3, 1) := by decide +kernel
theorem dX4_markAbove_27 : decode cX4_markAbove 27 = .ok (.iconst 0, 1) := by decide +kernel
theorem dX4_markAbove_28 : decode cX4_markAbove 28 = .ok (.putfield 80, 3) := by decide +kernel
theorem dX4_markAbove_31 : decode cX4_markAbove 31 = .ok (.iinc 2 1, 3) := by decide +kernel
theorem dX4_markAbove_34 : decode cX4_markAbove 34 = .ok (.goto (-32), 3) := by decide +kernel
theorem dX4_markAbove_37 : decode cX4_markAbove 37 = .ok (.aload_n 1, 1) := by decide +kernel
theorem dX4_markAbove_38 : decode cX4_markAbove 38 = .ok (.getfield 84, 3) := by decide +kernel
theorem dX4_markAbove_41 : decode cX4_markAbove 41 = .ok (.istore_n 2, 1) := by decide +kernel
theorem dX4_markAbove_42 : decode cX4_markAbove 42 = .ok (.iload_n 2, 1) := by decide +kernel
theorem dX4_markAbove_43 : decode cX4_markAbove 43 = .ok (.ifCond .lt 48, 3) := by decide +kernel
theorem dX4_markAbove_46 : decode cX4_markAbove 46 = .ok (.aload_n 0, 1) := by decide +kernel
theorem dX4_markAbove_47 : decode cX4_markAbove 47 = .ok (.getfield 9, 3) := by decide +kernel
theorem dX4_markAbove_50 : decode cX4_markAbove 50 = .ok (.iload_n 2, 1) := by decide +kernel
theorem dX4_markAbove_51 : decode cX4_markAbove 51 = .ok (.invokevirtual 21, 3) := by decide +kernel
theorem dX4_markAbove_54 : decode cX4_markAbove 54 = .ok (.astore_n 3, 1) := by decide +kernel
theorem dX4_markAbove_55 : decode cX4_markAbove 55 = .ok (.aload_n 3, 1) := by decide +kernel
theorem dX4_markAbove_56 : decode cX4_markAbove 56 = .ok (.ifnull 29, 3) := by decide +kernel
theorem dX4_markAbove_59 : decode cX4_markAbove 59 = .ok (.aload_n 3, 1) := by decide +kernel
theorem dX4_markAbove_60 : decode cX4_markAbove 60 = .ok (.aload_n 1, 1) := by decide +kernel
theorem dX4_markAbove_61 : decode cX4_markAbove 61 = .ok (.if_acmp .eq 10, 3) := by decide +kernel
theorem dX4_markAbove_64 : decode cX4_markAbove 64 = .ok (.aload_n 3, 1) := by decide +kernel
theorem dX4_markAbove_65 : decode cX4_markAbove 65 = .ok (.getfield 80, 3) := by decide +kernel
theorem dX4_markAbove_68 : decode cX4_markAbove 68 = .ok (.ifCond .eq 17, 3) := by decide +kernel
theorem dX4_markAbove_71 : decode cX4_markAbove 71 = .ok (.aload_n 3, 1) := by decide +kernel
theorem dX4_markAbove_72 : decode cX4_markAbove 72 = .ok (.getfield 25, 3) := by decide +kernel
theorem dX4_markAbove_75 : decode cX4_markAbove 75 = .ok (.invokestatic 87, 3) := by decide +kernel
theorem dX4_markAbove_78 : decode cX4_markAbove 78 = .ok (.aload_n 3, 1) := by decide +kernel
theorem dX4_markAbove_79 : decode cX4_markAbove 79 = .ok (.getfield 35, 3) := by decide +kernel
theorem dX4_markAbove_82 : decode cX4_markAbove 82 = .ok (.invokestatic 87, 3) := by decide +kernel
theorem dX4_markAbove_85 : decode cX4_markAbove 85 = .ok (.iinc 2 (-1), 3) := by decide +kernel
theorem dX4_markAbove_88 : decode cX4_markAbove 88 = .ok (.goto (-46), 3) := by decide +kernel
theorem dX4_markAbove_91 : decode cX4_markAbove 91 = .ok (.return_, 1) := by decide +kernel
theorem dX4_markOneAbove_0 : decode cX4_markOneAbove 0 = .ok (.aload_n 0, 1) := by decide +kernel
theorem dX4_markOneAbove_1 : decode cX4_markOneAbove 1 = .ok (.ifnull 8, 3) := by decide +kernel
theorem dX4_markOneAbove_4 : decode cX4_markOneAbove 4 = .ok (.aload_n 0, 1) := by decide +kernel
theorem dX4_markOneAbove_5 : decode cX4_markOneAbove 5 = .ok (.iconst 1, 1) := by decide +kernel
theorem dX4_markOneAbove_6 : decode cX4_markOneAbove 6 = .ok (.putfield 80, 3) := by decide +kernel
theorem dX4_markOneAbove_9 : decode cX4_markOneAbove 9 = .ok (.return_, 1) := by decide +kernel
theorem dX4_markAkin_0 : decode cX4_markAkin 0 = .ok (.iconst 0, 1) := by decide +kernel
theorem dX4_markAkin_1 : decode cX4_markAkin 1 = .ok (.istore_n 2, 1) := by decide +kernel
theorem dX4_markAkin_2 : decode cX4_markAkin 2 = .ok (.iload_n 2, 1) := by decide +kernel
theorem dX4_markAkin_3 : decode cX4_markAkin 3 = .ok (.aload_n 0, 1) := by decide +kernel
theorem dX4_markAkin_4 : decode cX4_markAkin 4 = .ok (.getfield 9, 3) := by decide +kernel
theorem dX4_markAkin_7 : decode cX4_markAkin 7 = .ok (.getfield 15, 3) := by decide +kernel
theorem dX4_markAkin_10 : decode cX4_markAkin 10 = .ok (.if_icmp .ge 79, 3) := by decide +kernel
theorem dX4_markAkin_13 : decode cX4_markAkin 13 = .ok (.aload_n 0, 1) := by decide +kernel
theorem dX4_markAkin_14 : decode cX4_markAkin 14 = .ok (.getfield 9, 3) := by decide +kernel
theorem dX4_markAkin_17 : decode cX4_markAkin 17 = .ok (.iload_n 2, 1) := by decide +kernel
theorem dX4_markAkin_18 : decode cX4_markAkin 18 = .ok (.invokevirtual 21, 3) := by decide +kernel
theorem dX4_markAkin_21 : decode cX4_markAkin 21 = .ok (.astore_n 3, 1) := by decide +kernel
theorem dX4_markAkin_22 : decode cX4_markAkin 22 = .ok (.aload_n 3, 1) := by decide +kernel
theorem dX4_markAkin_23 : decode cX4_markAkin 23 = .ok (.ifnull 60, 3) := by decide +kernel
theorem dX4_markAkin_26 : decode cX4_markAkin 26 = .ok (.aload_n 3, 1) := by decide +kernel
theorem dX4_markAkin_27 : decode cX4_markAkin 27 = .ok (.aload_n 1, 1) := by decide +kernel
theorem dX4_markAkin_28 : decode cX4_markAkin 28 = .ok (.getfield 25, 3) := by decide +kernel
theorem dX4_markAkin_31 : decode cX4_markAkin 31 = .ok (.if_acmp .eq 11, 3) := by decide +kernel
theorem dX4_markAkin_34 : decode cX4_markAkin 34 = .ok (.aload_n 3, 1) := by decide +kernel
theorem dX4_markAkin_35 : decode cX4_markAkin 35 = .ok (.aload_n 1, 1) := by decide +kernel
theorem dX4_markAkin_36 : decode cX4_markAkin 36 = .ok (.getfield 35, 3) := by decide +kernel
theorem dX4_markAkin_39 : decode cX4_markAkin 39 = .ok (.if_acmp .ne 7, 3) := by decide +kernel
theorem dX4_markAkin_42 : decode cX4_markAkin 42 = .ok (.iconst 1, 1) := by decide +kernel
theorem dX4_markAkin_43 : decode cX4_markAkin 43 = .ok (.goto 4, 3) := by decide +kernel
theorem dX4_markAkin_46 : decode cX4_markAkin 46 = .ok (.iconst 0, 1) := by decide +kernel
theorem dX4_markAkin_47 : decode cX4_markAkin 47 = .ok (.istore 4, 2) := by decide +kernel
theorem dX4_markAkin_49 : decode cX4_markAkin 49 = .ok (.aload_n 3, 1) := by decide +kernel
theorem dX4_markAkin_50 : decode cX4_markAkin 50 = .ok (.iload 4, 2) := by decide +kernel
theorem dX4_markAkin_52 : decode cX4_markAkin 52 = .ok (.ifCond .ne 23, 3) := by decide +kernel
theorem dX4_markAkin_55 : decode cX4_markAkin 55 = .ok (.aload_n 3, 1) := by decide +kernel
theorem dX4_markAkin_56 : decode cX4_markAkin 56 = .ok (.getfield 25, 3) := by decide +kernel
theorem dX4_markAkin_59 : decode cX4_markAkin 59 = .ok (.invokestatic 90, 3) := by decide +kernel
theorem dX4_markAkin_62 : decode cX4_markAkin 62 = .ok (.ifCond .ne 13, 3) := by decide +kernel
theorem dX4_markAkin_65 : decode cX4_markAkin 65 = .ok (.aload_n 3, 1) := by decide +kernel
theorem dX4_markAkin_66 : decode cX4_markAkin 66 = .ok (.getfield 35, 3) := by decide +kernel
theorem dX4_markAkin_69 : decode cX4_markAkin 69 = .ok (.invokestatic 90, 3) := by decide +kernel
theorem dX4_markAkin_72 : decode cX4_markAkin 72 = .ok (.ifCond .eq 7, 3) := by decide +kernel
theorem dX4_markAkin_75 : decode cX4_markAkin 75 = .ok (.iconst 1, 1) := by decide +kernel
theorem dX4_markAkin_76 : decode cX4_markAkin 76 = .ok (.goto 4, 3) := by decide +kernel
theorem dX4_markAkin_79 : decode cX4_markAkin 79 = .ok (.iconst 0, 1) := by decide +kernel
theorem dX4_markAkin_80 : decode cX4_markAkin 80 = .ok (.putfield 94, 3) := by decide +kernel
theorem dX4_markAkin_83 : decode cX4_markAkin 83 = .ok (.iinc 2 1, 3) := by decide +kernel
theorem dX4_markAkin_86 : decode cX4_markAkin 86 = .ok (.goto (-84), 3) := by decide +kernel
theorem dX4_markAkin_89 : decode cX4_markAkin 89 = .ok (.return_, 1) := by decide +kernel
theorem dX4_rowOf_0 : decode cX4_rowOf 0 = .ok (.aload_n 0, 1) := by decide +kernel
theorem dX4_rowOf_1 : decode cX4_rowOf 1 = .ok (.getfield 45, 3) := by decide +kernel
theorem dX4_rowOf_4 : decode cX4_rowOf 4 = .ok (.ifCond .le 5, 3) := by decide +kernel
theorem dX4_rowOf_7 : decode cX4_rowOf 7 = .ok (.iconst 0, 1) := by decide +kernel
theorem dX4_rowOf_8 : decode cX4_rowOf 8 = .ok (.ireturn, 1) := by decide +kernel
theorem dX4_rowOf_9 : decode cX4_rowOf 9 = .ok (.aload_n 0, 1) := by decide +kernel
theorem dX4_rowOf_10 : decode cX4_rowOf 10 = .ok (.getfield 80, 3) := by decide +kernel
theorem dX4_rowOf_13 : decode cX4_rowOf 13 = .ok (.ifCond .eq 5, 3) := by decide +kernel
theorem dX4_rowOf_16 : decode cX4_rowOf 16 = .ok (.iconst 1, 1) := by decide +kernel
theorem dX4_rowOf_17 : decode cX4_rowOf 17 = .ok (.ireturn, 1) := by decide +kernel
theorem dX4_rowOf_18 : decode cX4_rowOf 18 = .ok (.aload_n 0, 1) := by decide +kernel
theorem dX4_rowOf_19 : decode cX4_rowOf 19 = .ok (.getfield 94, 3) := by decide +kernel
theorem dX4_rowOf_22 : decode cX4_rowOf 22 = .ok (.ifCond .eq 7, 3) := by decide +kernel
theorem dX4_rowOf_25 : decode cX4_rowOf 25 = .ok (.iconst 2, 1) := by decide +kernel
theorem dX4_rowOf_26 : decode cX4_rowOf 26 = .ok (.goto 4, 3) := by decide +kernel
theorem dX4_rowOf_29 : decode cX4_rowOf 29 = .ok (.iconst (-1), 1) := by decide +kernel
theorem dX4_rowOf_30 : decode cX4_rowOf 30 = .ok (.ireturn, 1) := by decide +kernel
theorem dX4_linesOf_0 : decode cX4_linesOf 0 = .ok (.aload_n 0, 1) := by decide +kernel
theorem dX4_linesOf_1 : decode cX4_linesOf 1 = .ok (.ifnonnull 7, 3) := by decide +kernel
theorem dX4_linesOf_4 : decode cX4_linesOf 4 = .ok (.iconst 0, 1) := by decide +kernel
theorem dX4_linesOf_5 : decode cX4_linesOf 5 = .ok (.goto 7, 3) := by decide +kernel
theorem dX4_linesOf_8 : decode cX4_linesOf 8 = .ok (.aload_n 0, 1) := by decide +kernel
theorem dX4_linesOf_9 : decode cX4_linesOf 9 = .ok (.getfield 45, 3) := by decide +kernel
theorem dX4_linesOf_12 : decode cX4_linesOf 12 = .ok (.ireturn, 1) := by decide +kernel
theorem dX4_isAkin_0 : decode cX4_isAkin 0 = .ok (.aload_n 0, 1) := by decide +kernel
theorem dX4_isAkin_1 : decode cX4_isAkin 1 = .ok (.ifnull 14, 3) := by decide +kernel
theorem dX4_isAkin_4 : decode cX4_isAkin 4 = .ok (.aload_n 0, 1) := by decide +kernel
theorem dX4_isAkin_5 : decode cX4_isAkin 5 = .ok (.getfield 94, 3) := by decide +kernel
theorem dX4_isAkin_8 : decode cX4_isAkin 8 = .ok (.ifCond .eq 7, 3) := by decide +kernel
theorem dX4_isAkin_11 : decode cX4_isAkin 11 = .ok (.iconst 1, 1) := by decide +kernel
theorem dX4_isAkin_12 : decode cX4_isAkin 12 = .ok (.goto 4, 3) := by decide +kernel
theorem dX4_isAkin_15 : decode cX4_isAkin 15 = .ok (.iconst 0, 1) := by decide +kernel
theorem dX4_isAkin_16 : decode cX4_isAkin 16 = .ok (.ireturn, 1) := by decide +kernel
theorem dX5_init_0 : decode cX5_init 0 = .ok (.aload_n 0, 1) := by decide +kernel
theorem dX5_init_1 : decode cX5_init 1 = .ok (.invokespecial 1, 3) := by decide +kernel
theorem dX5_init_4 : decode cX5_init 4 = .ok (.aload_n 0, 1) := by decide +kernel
theorem dX5_init_5 : decode cX5_init 5 = .ok (.aload_n 1, 1) := by decide +kernel
theorem dX5_init_6 : decode cX5_init 6 = .ok (.putfield 7, 3) := by decide +kernel
theorem dX5_init_9 : decode cX5_init 9 = .ok (.aload_n 0, 1) := by decide +kernel
theorem dX5_init_10 : decode cX5_init 10 = .ok (.iload_n 2, 1) := by decide +kernel
theorem dX5_init_11 : decode cX5_init 11 = .ok (.putfield 13, 3) := by decide +kernel
theorem dX5_init_14 : decode cX5_init 14 = .ok (.aload_n 0, 1) := by decide +kernel
theorem dX5_init_15 : decode cX5_init 15 = .ok (.aload_n 1, 1) := by decide +kernel
theorem dX5_init_16 : decode cX5_init 16 = .ok (.ifnonnull 7, 3) := by decide +kernel
theorem dX5_init_19 : decode cX5_init 19 = .ok (.iconst 1, 1) := by decide +kernel
theorem dX5_init_20 : decode cX5_init 20 = .ok (.goto 9, 3) := by decide +kernel
theorem dX5_init_23 : decode cX5_init 23 = .ok (.aload_n 1, 1) := by decide +kernel
theorem dX5_init_24 : decode cX5_init 24 = .ok (.getfield 17, 3) := by decide +kernel
theorem dX5_init_27 : decode cX5_init 27 = .ok (.iconst 1, 1) := by decide +kernel
theorem dX5_init_28 : decode cX5_init 28 = .ok (.iadd, 1) := by decide +kernel
theorem dX5_init_29 : decode cX5_init 29 = .ok (.putfield 17, 3) := by decide +kernel
theorem dX5_init_32 : decode cX5_init 32 = .ok (.aload_n 0, 1) := by decide +kernel
theorem dX5_init_33 : decode cX5_init 33 = .ok (.aload_n 1, 1) := by decide +kernel
theorem dX5_init_34 : decode cX5_init 34 = .ok (.ifnonnull 7, 3) := by decide +kernel
theorem dX5_init_37 : decode cX5_init 37 = .ok (.iload_n 3, 1) := by decide +kernel
theorem dX5_init_38 : decode cX5_init 38 = .ok (.goto 9, 3) := by decide +kernel
theorem dX5_init_41 : decode cX5_init 41 = .ok (.aload_n 1, 1) := by decide +kernel
theorem dX5_init_42 : decode cX5_init 42 = .ok (.getfield 20, 3) := by decide +kernel
theorem dX5_init_45 : decode cX5_init 45 = .ok (.iload_n 3, 1) := by decide +kernel
theorem dX5_init_46 : decode cX5_init 46 = .ok (.iadd, 1) := by decide +kernel
theorem dX5_init_47 : decode cX5_init 47 = .ok (.putfield 20, 3) := by decide +kernel
theorem dX5_init_50 : decode cX5_init 50 = .ok (.aload_n 0, 1) := by decide +kernel
theorem dX5_init_51 : decode cX5_init 51 = .ok (.aload_n 1, 1) := by decide +kernel
theorem dX5_init_52 : decode cX5_init 52 = .ok (.ifnonnull 8, 3) := by decide +kernel
theorem dX5_init_55 : decode cX5_init 55 = .ok (.iload 4, 2) := by decide +kernel
theorem dX5_init_57 : decode cX5_init 57 = .ok (.goto 10, 3) := by decide +kernel
theorem dX5_init_60 : decode cX5_init 60 = .ok (.aload_n 1, 1) := by decide +kernel
theorem dX5_init_61 : decode cX5_init 61 = .ok (.getfield 23, 3) := by decide +kernel
theorem dX5_init_64 : decode cX5_init 64 = .ok (.iload 4, 2) := by decide +kernel
theorem dX5_init_66 : decode cX5_init 66 = .ok (.iadd, 1) := by decide +kernel
theorem dX5_init_67 : decode cX5_init 67 = .ok (.putfield 23, 3) := by decide +kernel
theorem dX5_init_70 : decode cX5_init 70 = .ok (.return_, 1) := by decide +kernel
theorem dX6_init_0 : decode cX6_init 0 = .ok (.aload_n 0, 1) := by decide +kernel
theorem dX6_init_1 : decode cX6_init 1 = .ok (.invokespecial 3, 3) := by decide +kernel
theorem dX6_init_4 : decode cX6_init 4 = .ok (.aload_n 0, 1) := by decide +kernel
theorem dX6_init_5 : decode cX6_init 5 = .ok (.aconst_null, 1) := by decide +kernel
theorem dX6_init_6 : decode cX6_init 6 = .ok (.putfield 9, 3) := by decide +kernel
theorem dX6_init_9 : decode cX6_init 9 = .ok (.aload_n 0, 1) := by decide +kernel
theorem dX6_init_10 : decode cX6_init 10 = .ok (.aconst_null, 1) := by decide +kernel
theorem dX6_init_11 : decode cX6_init 11 = .ok (.putfield 15, 3) := by decide +kernel
theorem dX6_init_14 : decode cX6_init 14 = .ok (.aload_n 0, 1) := by decide +kernel
theorem dX6_init_15 : decode cX6_init 15 = .ok (.aconst_null, 1) := by decide +kernel
theorem dX6_init_16 : decode cX6_init 16 = .ok (.putfield 19, 3) := by decide +kernel
theorem dX6_init_19 : decode cX6_init 19 = .ok (.aload_n 0, 1) := by decide +kernel
theorem dX6_init_20 : decode cX6_init 20 = .ok (.iconst 0, 1) := by decide +kernel
theorem dX6_init_21 : decode cX6_init 21 = .ok (.putfield 22, 3) := by decide +kernel
theorem dX6_init_24 : decode cX6_init 24 = .ok (.aload_n 0, 1) := by decide +kernel
theorem dX6_init_25 : decode cX6_init 25 = .ok (.iconst (-1), 1) := by decide +kernel
theorem dX6_init_26 : decode cX6_init 26 = .ok (.putfield 26, 3) := by decide +kernel
theorem dX6_init_29 : decode cX6_init 29 = .ok (.aload_n 0, 1) := by decide +kernel
theorem dX6_init_30 : decode cX6_init 30 = .ok (.iconst 0, 1) := by decide +kernel
theorem dX6_init_31 : decode cX6_init 31 = .ok (.putfield 29, 3) := by decide +kernel
theorem dX6_init_34 : decode cX6_init 34 = .ok (.aload_n 0, 1) := by decide +kernel
theorem dX6_init_35 : decode cX6_init 35 = .ok (.iconst 0, 1) := by decide +kernel
theorem dX6_init_36 : decode cX6_init 36 = .ok (.putfield 32, 3) := by decide +kernel
theorem dX6_init_39 : decode cX6_init 39 = .ok (.aload_n 0, 1) := by decide +kernel
theorem dX6_init_40 : decode cX6_init 40 = .ok (.iconst 0, 1) := by decide +kernel
theorem dX6_init_41 : decode cX6_init 41 = .ok (.putfield 35, 3) := by decide +kernel
theorem dX6_init_44 : decode cX6_init 44 = .ok (.aload_n 0, 1) := by decide +kernel
theorem dX6_init_45 : decode cX6_init 45 = .ok (.iconst 0, 1) := by decide +kernel
theorem dX6_init_46 : decode cX6_init 46 = .ok (.putfield 38, 3) := by decide +kernel
theorem dX6_init_49 : decode cX6_init 49 = .ok (.aload_n 0, 1) := by decide +kernel
theorem dX6_init_50 : decode cX6_init 50 = .ok (.aconst_null, 1) := by decide +kernel
theorem dX6_init_51 : decode cX6_init 51 = .ok (.putfield 41, 3) := by decide +kernel
theorem dX6_init_54 : decode cX6_init 54 = .ok (.aload_n 0, 1) := by decide +kernel
theorem dX6_init_55 : decode cX6_init 55 = .ok (.iconst (-1), 1) := by decide +kernel
theorem dX6_init_56 : decode cX6_init 56 = .ok (.putfield 45, 3) := by decide +kernel
theorem dX6_init_59 : decode cX6_init 59 = .ok (.aload_n 0, 1) := by decide +kernel
theorem dX6_init_60 : decode cX6_init 60 = .ok (.iconst 0, 1) := by decide +kernel
theorem dX6_init_61 : decode cX6_init 61 = .ok (.putfield 48, 3) := by decide +kernel
theorem dX6_init_64 : decode cX6_init 64 = .ok (.aload_n 0, 1) := by decide +kernel
theorem dX6_init_65 : decode cX6_init 65 = .ok (.iconst 0, 1) := by decide +kernel
theorem dX6_init_66 : decode cX6_init 66 = .ok (.putfield 51, 3) := by decide +kernel
theorem dX6_init_69 : decode cX6_init 69 = .ok (.aload_n 0, 1) := by decide +kernel
theorem dX6_init_70 : decode cX6_init 70 = .ok (.iconst 0, 1) := by decide +kernel
theorem dX6_init_71 : decode cX6_init 71 = .ok (.putfield 54, 3) := by decide +kernel
theorem dX6_init_74 : decode cX6_init 74 = .ok (.aload_n 0, 1) := by decide +kernel
theorem dX6_init_75 : decode cX6_init 75 = .ok (.iconst 0, 1) := by decide +kernel
theorem dX6_init_76 : decode cX6_init 76 = .ok (.putfield 57, 3) := by decide +kernel
theorem dX6_init_79 : decode cX6_init 79 = .ok (.aload_n 0, 1) := by decide +kernel
theorem dX6_init_80 : decode cX6_init 80 = .ok (.iconst 0, 1) := by decide +kernel
theorem dX6_init_81 : decode cX6_init 81 = .ok (.putfield 61, 3) := by decide +kernel
theorem dX6_init_84 : decode cX6_init 84 = .ok (.aload_n 0, 1) := by decide +kernel
theorem dX6_init_85 : decode cX6_init 85 = .ok (.iload_n 1, 1) := by decide +kernel
theorem dX6_init_86 : decode cX6_init 86 = .ok (.putfield 64, 3) := by decide +kernel
theorem dX6_init_89 : decode cX6_init 89 = .ok (.aload_n 0, 1) := by decide +kernel
theorem dX6_init_90 : decode cX6_init 90 = .ok (.iload_n 2, 1) := by decide +kernel
theorem dX6_init_91 : decode cX6_init 91 = .ok (.putfield 67, 3) := by decide +kernel
theorem dX6_init_94 : decode cX6_init 94 = .ok (.aload_n 0, 1) := by decide +kernel
theorem dX6_init_95 : decode cX6_init 95 = .ok (.iload_n 3, 1) := by decide +kernel
theorem dX6_init_96 : decode cX6_init 96 = .ok (.putfield 70, 3) := by decide +kernel
theorem dX6_init_99 : decode cX6_init 99 = .ok (.aload_n 0, 1) := by decide +kernel
theorem dX6_init_100 : decode cX6_init 100 = .ok (.iload 4, 2) := by decide +kernel
theorem dX6_init_102 : decode cX6_init 102 = .ok (.putfield 73, 3) := by decide +kernel
theorem dX6_init_105 : decode cX6_init 105 = .ok (.return_, 1) := by decide +kernel
theorem dX6_gain_0 : decode cX6_gain 0 = .ok (.aload_n 0, 1) := by decide +kernel
theorem dX6_gain_1 : decode cX6_gain 1 = .ok (.iload_n 1, 1) := by decide +kernel
theorem dX6_gain_2 : decode cX6_gain 2 = .ok (.putfield 22, 3) := by decide +kernel
theorem dX6_gain_5 : decode cX6_gain 5 = .ok (.aload_n 0, 1) := by decide +kernel
theorem dX6_gain_6 : decode cX6_gain 6 = .ok (.iload_n 1, 1) := by decide +kernel
theorem dX6_gain_7 : decode cX6_gain 7 = .ok (.putfield 26, 3) := by decide +kernel
theorem dX6_gain_10 : decode cX6_gain 10 = .ok (.return_, 1) := by decide +kernel
theorem dX6_has_0 : decode cX6_has 0 = .ok (.iload_n 1, 1) := by decide +kernel
theorem dX6_has_1 : decode cX6_has 1 = .ok (.iconst 1, 1) := by decide +kernel
theorem dX6_has_2 : decode cX6_has 2 = .ok (.if_icmp .lt 15, 3) := by decide +kernel
theorem dX6_has_5 : decode cX6_has 5 = .ok (.iload_n 1, 1) := by decide +kernel
theorem dX6_has_6 : decode cX6_has 6 = .ok (.aload_n 0, 1) := by decide +kernel
theorem dX6_has_7 : decode cX6_has 7 = .ok (.getfield 22, 3) := by decide +kernel
theorem dX6_has_10 : decode cX6_has 10 = .ok (.if_icmp .gt 7, 3) := by decide +kernel
theorem dX6_has_13 : decode cX6_has 13 = .ok (.iconst 1, 1) := by decide +kernel
theorem dX6_has_14 : decode cX6_has 14 = .ok (.goto 4, 3) := by decide +kernel
theorem dX6_has_17 : decode cX6_has 17 = .ok (.iconst 0, 1) := by decide +kernel
theorem dX6_has_18 : decode cX6_has 18 = .ok (.ireturn, 1) := by decide +kernel
theorem dX6_isFalseAsKnownIn_0 : decode cX6_isFalseAsKnownIn 0 = .ok (.aload_n 0, 1) := by decide +kernel
theorem dX6_isFalseAsKnownIn_1 : decode cX6_isFalseAsKnownIn 1 = .ok (.getfield 45, 3) := by decide +kernel
theorem dX6_isFalseAsKnownIn_4 : decode cX6_isFalseAsKnownIn 4 = .ok (.iconst (-1), 1) := by decide +kernel
theorem dX6_isFalseAsKnownIn_5 : decode cX6_isFalseAsKnownIn 5 = .ok (.if_icmp .eq 15, 3) := by decide +kernel
theorem dX6_isFalseAsKnownIn_8 : decode cX6_isFalseAsKnownIn 8 = .ok (.aload_n 0, 1) := by decide +kernel
theorem dX6_isFalseAsKnownIn_9 : decode cX6_isFalseAsKnownIn 9 = .ok (.getfield 45, 3) := by decide +kernel
theorem dX6_isFalseAsKnownIn_12 : decode cX6_isFalseAsKnownIn 12 = .ok (.iload_n 1, 1) := by decide +kernel
theorem dX6_isFalseAsKnownIn_13 : decode cX6_isFalseAsKnownIn 13 = .ok (.if_icmp .gt 7, 3) := by decide +kernel
theorem dX6_isFalseAsKnownIn_16 : decode cX6_isFalseAsKnownIn 16 = .ok (.iconst 1, 1) := by decide +kernel
theorem dX6_isFalseAsKnownIn_17 : decode cX6_isFalseAsKnownIn 17 = .ok (.goto 4, 3) := by decide +kernel
theorem dX6_isFalseAsKnownIn_20 : decode cX6_isFalseAsKnownIn 20 = .ok (.iconst 0, 1) := by decide +kernel
theorem dX6_isFalseAsKnownIn_21 : decode cX6_isFalseAsKnownIn 21 = .ok (.ireturn, 1) := by decide +kernel
theorem dX6_lookCount_0 : decode cX6_lookCount 0 = .ok (.aload_n 0, 1) := by decide +kernel
theorem dX6_lookCount_1 : decode cX6_lookCount 1 = .ok (.getfield 41, 3) := by decide +kernel
theorem dX6_lookCount_4 : decode cX6_lookCount 4 = .ok (.ifnonnull 7, 3) := by decide +kernel
theorem dX6_lookCount_7 : decode cX6_lookCount 7 = .ok (.iconst 0, 1) := by decide +kernel
theorem dX6_lookCount_8 : decode cX6_lookCount 8 = .ok (.goto 10, 3) := by decide +kernel
theorem dX6_lookCount_11 : decode cX6_lookCount 11 = .ok (.aload_n 0, 1) := by decide +kernel
theorem dX6_lookCount_12 : decode cX6_lookCount 12 = .ok (.getfield 41, 3) := by decide +kernel
theorem dX6_lookCount_15 : decode cX6_lookCount 15 = .ok (.getfield 76, 3) := by decide +kernel
theorem dX6_lookCount_18 : decode cX6_lookCount 18 = .ok (.ireturn, 1) := by decide +kernel
theorem dX6_lastLookAsKnownIn_0 : decode cX6_lastLookAsKnownIn 0 = .ok (.aload_n 0, 1) := by decide +kernel
theorem dX6_lastLookAsKnownIn_1 : decode cX6_lastLookAsKnownIn 1 = .ok (.getfield 41, 3) := by decide +kernel
theorem dX6_lastLookAsKnownIn_4 : decode cX6_lastLookAsKnownIn 4 = .ok (.astore_n 2, 1) := by decide +kernel
theorem dX6_lastLookAsKnownIn_5 : decode cX6_lastLookAsKnownIn 5 = .ok (.aload_n 2, 1) := by decide +kernel
theorem dX6_lastLookAsKnownIn_6 : decode cX6_lastLookAsKnownIn 6 = .ok (.ifnull 21, 3) := by decide +kernel
theorem dX6_lastLookAsKnownIn_9 : decode cX6_lastLookAsKnownIn 9 = .ok (.aload_n 2, 1) := by decide +kernel
theorem dX6_lastLookAsKnownIn_10 : decode cX6_lastLookAsKnownIn 10 = .ok (.getfield 79, 3) := by decide +kernel
theorem dX6_lastLookAsKnownIn_13 : decode cX6_lastLookAsKnownIn 13 = .ok (.iload_n 1, 1) := by decide +kernel
theorem dX6_lastLookAsKnownIn_14 : decode cX6_lastLookAsKnownIn 14 = .ok (.if_icmp .gt 5, 3) := by decide +kernel
theorem dX6_lastLookAsKnownIn_17 : decode cX6_lastLookAsKnownIn 17 = .ok (.aload_n 2, 1) := by decide +kernel
theorem dX6_lastLookAsKnownIn_18 : decode cX6_lastLookAsKnownIn 18 = .ok (.areturn, 1) := by decide +kernel
theorem dX6_lastLookAsKnownIn_19 : decode cX6_lastLookAsKnownIn 19 = .ok (.aload_n 2, 1) := by decide +kernel
theorem dX6_lastLookAsKnownIn_20 : decode cX6_lastLookAsKnownIn 20 = .ok (.getfield 82, 3) := by decide +kernel
theorem dX6_lastLookAsKnownIn_23 : decode cX6_lastLookAsKnownIn 23 = .ok (.astore_n 2, 1) := by decide +kernel
theorem dX6_lastLookAsKnownIn_24 : decode cX6_lastLookAsKnownIn 24 = .ok (.goto (-19), 3) := by decide +kernel
theorem dX6_lastLookAsKnownIn_27 : decode cX6_lastLookAsKnownIn 27 = .ok (.aconst_null, 1) := by decide +kernel
theorem dX6_lastLookAsKnownIn_28 : decode cX6_lastLookAsKnownIn 28 = .ok (.areturn, 1) := by decide +kernel
theorem dX6_about_0 : decode cX6_about 0 = .ok (.iload_n 1, 1) := by decide +kernel
theorem dX6_about_1 : decode cX6_about 1 = .ok (.tableswitch 183 0 13 #[71, 76, 81, 86, 91, 110, 129, 148, 153, 158, 163, 168, 173, 178], 71) := by decide +kernel
theorem dX6_about_72 : decode cX6_about 72 = .ok (.aload_n 0, 1) := by decide +kernel
theorem dX6_about_73 : decode cX6_about 73 = .ok (.getfield 67, 3) := by decide +kernel
theorem dX6_about_76 : decode cX6_about 76 = .ok (.ireturn, 1) := by decide +kernel
theorem dX6_about_77 : decode cX6_about 77 = .ok (.aload_n 0, 1) := by decide +kernel
theorem dX6_about_78 : decode cX6_about 78 = .ok (.getfield 70, 3) := by decide +kernel
theorem dX6_about_81 : decode cX6_about 81 = .ok (.ireturn, 1) := by decide +kernel
theorem dX6_about_82 : decode cX6_about 82 = .ok (.aload_n 0, 1) := by decide +kernel
theorem dX6_about_83 : decode cX6_about 83 = .ok (.getfield 22, 3) := by decide +kernel
theorem dX6_about_86 : decode cX6_about 86 = .ok (.ireturn, 1) := by decide +kernel
theorem dX6_about_87 : decode cX6_about 87 = .ok (.aload_n 0, 1) := by decide +kernel
theorem dX6_about_88 : decode cX6_about 88 = .ok (.getfield 73, 3) := by decide +kernel
theorem dX6_about_91 : decode cX6_about 91 = .ok (.ireturn, 1) := by decide +kernel
theorem dX6_about_92 : decode cX6_about 92 = .ok (.aload_n 0, 1) := by decide +kernel
theorem dX6_about_93 : decode cX6_about 93 = .ok (.getfield 9, 3) := by decide +kernel
theorem dX6_about_96 : decode cX6_about 96 = .ok (.ifnonnull 7, 3) := by decide +kernel
theorem dX6_about_99 : decode cX6_about 99 = .ok (.iconst (-1), 1) := by decide +kernel
theorem dX6_about_100 : decode cX6_about 100 = .ok (.goto 10, 3) := by decide +kernel
theorem dX6_about_103 : decode cX6_about 103 = .ok (.aload_n 0, 1) := by decide +kernel
theorem dX6_about_104 : decode cX6_about 104 = .ok (.getfield 9, 3) := by decide +kernel
theorem dX6_about_107 : decode cX6_about 107 = .ok (.getfield 85, 3) := by decide +kernel
theorem dX6_about_110 : decode cX6_about 110 = .ok (.ireturn, 1) := by decide +kernel
theorem dX6_about_111 : decode cX6_about 111 = .ok (.aload_n 0, 1) := by decide +kernel
theorem dX6_about_112 : decode cX6_about 112 = .ok (.getfield 15, 3) := by decide +kernel
theorem dX6_about_115 : decode cX6_about 115 = .ok (.ifnonnull 7, 3) := by decide +kernel
theorem dX6_about_118 : decode cX6_about 118 = .ok (.iconst (-1), 1) := by decide +kernel
theorem dX6_about_119 : decode cX6_about 119 = .ok (.goto 10, 3) := by decide +kernel
theorem dX6_about_122 : decode cX6_about 122 = .ok (.aload_n 0, 1) := by decide +kernel
theorem dX6_about_123 : decode cX6_about 123 = .ok (.getfield 15, 3) := by decide +kernel
theorem dX6_about_126 : decode cX6_about 126 = .ok (.getfield 64, 3) := by decide +kernel
theorem dX6_about_129 : decode cX6_about 129 = .ok (.ireturn, 1) := by decide +kernel
theorem dX6_about_130 : decode cX6_about 130 = .ok (.aload_n 0, 1) := by decide +kernel
theorem dX6_about_131 : decode cX6_about 131 = .ok (.getfield 19, 3) := by decide +kernel
theorem dX6_about_134 : decode cX6_about 134 = .ok (.ifnonnull 7, 3) := by decide +kernel
theorem dX6_about_137 : decode cX6_about 137 = .ok (.iconst (-1), 1) := by decide +kernel
theorem dX6_about_138 : decode cX6_about 138 = .ok (.goto 10, 3) := by decide +kernel
theorem dX6_about_141 : decode cX6_about 141 = .ok (.aload_n 0, 1) := by decide +kernel
theorem dX6_about_142 : decode cX6_about 142 = .ok (.getfield 19, 3) := by decide +kernel
theorem dX6_about_145 : decode cX6_about 145 = .ok (.getfield 64, 3) := by decide +kernel
theorem dX6_about_148 : decode cX6_about 148 = .ok (.ireturn, 1) := by decide +kernel
theorem dX6_about_149 : decode cX6_about 149 = .ok (.aload_n 0, 1) := by decide +kernel
theorem dX6_about_150 : decode cX6_about 150 = .ok (.getfield 26, 3) := by decide +kernel
theorem dX6_about_153 : decode cX6_about 153 = .ok (.ireturn, 1) := by decide +kernel
theorem dX6_about_154 : decode cX6_about 154 = .ok (.aload_n 0, 1) := by decide +kernel
theorem dX6_about_155 : decode cX6_about 155 = .ok (.getfield 29, 3) := by decide +kernel
theorem dX6_about_158 : decode cX6_about 158 = .ok (.ireturn, 1) := by decide +kernel
theorem dX6_about_159 : decode cX6_about 159 = .ok (.aload_n 0, 1) := by decide +kernel
theorem dX6_about_160 : decode cX6_about 160 = .ok (.getfield 32, 3) := by decide +kernel
theorem dX6_about_163 : decode cX6_about 163 = .ok (.ireturn, 1) := by decide +kernel
theorem dX6_about_164 : decode cX6_about 164 = .ok (.aload_n 0, 1) := by decide +kernel
theorem dX6_about_165 : decode cX6_about 165 = .ok (.getfield 35, 3) := by decide +kernel
theorem dX6_about_168 : decode cX6_about 168 = .ok (.ireturn, 1) := by decide +kernel
theorem dX6_about_169 : decode cX6_about 169 = .ok (.aload_n 0, 1) := by decide +kernel
theorem dX6_about_170 : decode cX6_about 170 = .ok (.getfield 38, 3) := by decide +kernel
theorem dX6_about_173 : decode cX6_about 173 = .ok (.ireturn, 1) := by decide +kernel
theorem dX6_about_174 : decode cX6_about 174 = .ok (.aload_n 0, 1) := by decide +kernel
theorem dX6_about_175 : decode cX6_about 175 = .ok (.invokevirtual 88, 3) := by decide +kernel
theorem dX6_about_178 : decode cX6_about 178 = .ok (.ireturn, 1) := by decide +kernel
theorem dX6_about_179 : decode cX6_about 179 = .ok (.aload_n 0, 1) := by decide +kernel
theorem dX6_about_180 : decode cX6_about 180 = .ok (.getfield 45, 3) := by decide +kernel
theorem dX6_about_183 : decode cX6_about 183 = .ok (.ireturn, 1) := by decide +kernel
theorem dX6_about_184 : decode cX6_about 184 = .ok (.iconst (-1), 1) := by decide +kernel
theorem dX6_about_185 : decode cX6_about 185 = .ok (.ireturn, 1) := by decide +kernel
theorem dX6_rankOfMothers_0 : decode cX6_rankOfMothers 0 = .ok (.aload_n 0, 1) := by decide +kernel
theorem dX6_rankOfMothers_1 : decode cX6_rankOfMothers 1 = .ok (.getfield 15, 3) := by decide +kernel
theorem dX6_rankOfMothers_4 : decode cX6_rankOfMothers 4 = .ok (.ifnonnull 7, 3) := by decide +kernel
theorem dX6_rankOfMothers_7 : decode cX6_rankOfMothers 7 = .ok (.iconst 0, 1) := by decide +kernel
theorem dX6_rankOfMothers_8 : decode cX6_rankOfMothers 8 = .ok (.goto 10, 3) := by decide +kernel
theorem dX6_rankOfMothers_11 : decode cX6_rankOfMothers 11 = .ok (.aload_n 0, 1) := by decide +kernel
theorem dX6_rankOfMothers_12 : decode cX6_rankOfMothers 12 = .ok (.getfield 15, 3) := by decide +kernel
theorem dX6_rankOfMothers_15 : decode cX6_rankOfMothers 15 = .ok (.getfield 48, 3) := by decide +kernel
theorem dX6_rankOfMothers_18 : decode cX6_rankOfMothers 18 = .ok (.istore_n 1, 1) := by decide +kernel
theorem dX6_rankOfMothers_19 : decode cX6_rankOfMothers 19 = .ok (.aload_n 0, 1) := by decide +kernel
theorem dX6_rankOfMothers_20 : decode cX6_rankOfMothers 20 = .ok (.getfield 19, 3) := by decide +kernel
theorem dX6_rankOfMothers_23 : decode cX6_rankOfMothers 23 = .ok (.ifnonnull 7, 3) := by decide +kernel
theorem dX6_rankOfMothers_26 : decode cX6_rankOfMothers 26 = .ok (.iconst 0, 1) := by decide +kernel
theorem dX6_rankOfMothers_27 : decode cX6_rankOfMothers 27 = .ok (.goto 10, 3) := by decide +kernel
theorem dX6_rankOfMothers_30 : decode cX6_rankOfMothers 30 = .ok (.aload_n 0, 1) := by decide +kernel
theorem dX6_rankOfMothers_31 : decode cX6_rankOfMothers 31 = .ok (.getfield 19, 3) := by decide +kernel
theorem dX6_rankOfMothers_34 : decode cX6_rankOfMothers 34 = .ok (.getfield 48, 3) := by decide +kernel
theorem dX6_rankOfMothers_37 : decode cX6_rankOfMothers 37 = .ok (.istore_n 2, 1) := by decide +kernel
theorem dX6_rankOfMothers_38 : decode cX6_rankOfMothers 38 = .ok (.iload_n 1, 1) := by decide +kernel
theorem dX6_rankOfMothers_39 : decode cX6_rankOfMothers 39 = .ok (.iload_n 2, 1) := by decide +kernel
theorem dX6_rankOfMothers_40 : decode cX6_rankOfMothers 40 = .ok (.invokestatic 92, 3) := by decide +kernel
theorem dX6_rankOfMothers_43 : decode cX6_rankOfMothers 43 = .ok (.ireturn, 1) := by decide +kernel
theorem dX7_init_0 : decode cX7_init 0 = .ok (.aload_n 0, 1) := by decide +kernel
theorem dX7_init_1 : decode cX7_init 1 = .ok (.invokespecial 3, 3) := by decide +kernel
theorem dX7_init_4 : decode cX7_init 4 = .ok (.aload_n 0, 1) := by decide +kernel
theorem dX7_init_5 : decode cX7_init 5 = .ok (.iconst 5, 1) := by decide +kernel
theorem dX7_init_6 : decode cX7_init 6 = .ok (.anewarray 9, 3) := by decide +kernel
theorem dX7_init_9 : decode cX7_init 9 = .ok (.putfield 11, 3) := by decide +kernel
theorem dX7_init_12 : decode cX7_init 12 = .ok (.aload_n 0, 1) := by decide +kernel
theorem dX7_init_13 : decode cX7_init 13 = .ok (.iconst 5, 1) := by decide +kernel
theorem dX7_init_14 : decode cX7_init 14 = .ok (.newarray .int, 2) := by decide +kernel
theorem dX7_init_16 : decode cX7_init 16 = .ok (.putfield 17, 3) := by decide +kernel
theorem dX7_init_19 : decode cX7_init 19 = .ok (.aload_n 0, 1) := by decide +kernel
theorem dX7_init_20 : decode cX7_init 20 = .ok (.bipush 6, 2) := by decide +kernel
theorem dX7_init_22 : decode cX7_init 22 = .ok (.newarray .int, 2) := by decide +kernel
theorem dX7_init_24 : decode cX7_init 24 = .ok (.putfield 21, 3) := by decide +kernel
theorem dX7_init_27 : decode cX7_init 27 = .ok (.aload_n 0, 1) := by decide +kernel
theorem dX7_init_28 : decode cX7_init 28 = .ok (.iconst 5, 1) := by decide +kernel
theorem dX7_init_29 : decode cX7_init 29 = .ok (.newarray .int, 2) := by decide +kernel
theorem dX7_init_31 : decode cX7_init 31 = .ok (.putfield 24, 3) := by decide +kernel
theorem dX7_init_34 : decode cX7_init 34 = .ok (.aload_n 0, 1) := by decide +kernel
theorem dX7_init_35 : decode cX7_init 35 = .ok (.iconst 5, 1) := by decide +kernel
theorem dX7_init_36 : decode cX7_init 36 = .ok (.newarray .int, 2) := by decide +kernel
theorem dX7_init_38 : decode cX7_init 38 = .ok (.putfield 27, 3) := by decide +kernel
theorem dX7_init_41 : decode cX7_init 41 = .ok (.aload_n 0, 1) := by decide +kernel
theorem dX7_init_42 : decode cX7_init 42 = .ok (.iconst (-1), 1) := by decide +kernel
theorem dX7_init_43 : decode cX7_init 43 = .ok (.putfield 30, 3) := by decide +kernel
theorem dX7_init_46 : decode cX7_init 46 = .ok (.aload_n 0, 1) := by decide +kernel
theorem dX7_init_47 : decode cX7_init 47 = .ok (.iconst 0, 1) := by decide +kernel
theorem dX7_init_48 : decode cX7_init 48 = .ok (.putfield 34, 3) := by decide +kernel
theorem dX7_init_51 : decode cX7_init 51 = .ok (.aload_n 0, 1) := by decide +kernel
theorem dX7_init_52 : decode cX7_init 52 = .ok (.aload_n 1, 1) := by decide +kernel
theorem dX7_init_53 : decode cX7_init 53 = .ok (.putfield 37, 3) := by decide +kernel
theorem dX7_init_56 : decode cX7_init 56 = .ok (.return_, 1) := by decide +kernel
theorem dX7_forgetAll_0 : decode cX7_forgetAll 0 = .ok (.aload_n 0, 1) := by decide +kernel
theorem dX7_forgetAll_1 : decode cX7_forgetAll 1 = .ok (.iconst 0, 1) := by decide +kernel
theorem dX7_forgetAll_2 : decode cX7_forgetAll 2 = .ok (.putfield 34, 3) := by decide +kernel
theorem dX7_forgetAll_5 : decode cX7_forgetAll 5 = .ok (.return_, 1) := by decide +kernel
theorem dX7_add_0 : decode cX7_add 0 = .ok (.aload_n 0, 1) := by decide +kernel
theorem dX7_add_1 : decode cX7_add 1 = .ok (.getfield 34, 3) := by decide +kernel
theorem dX7_add_4 : decode cX7_add 4 = .ok (.aload_n 0, 1) := by decide +kernel
theorem dX7_add_5 : decode cX7_add 5 = .ok (.getfield 11, 3) := by decide +kernel
theorem dX7_add_8 : decode cX7_add 8 = .ok (.arraylength, 1) := by decide +kernel
theorem dX7_add_9 : decode cX7_add 9 = .ok (.if_icmp .lt 5, 3) := by decide +kernel
theorem dX7_add_12 : decode cX7_add 12 = .ok (.iconst (-1), 1) := by decide +kernel
theorem dX7_add_13 : decode cX7_add 13 = .ok (.ireturn, 1) := by decide +kernel
theorem dX7_add_14 : decode cX7_add 14 = .ok (.iconst 0, 1) := by decide +kernel
theorem dX7_add_15 : decode cX7_add 15 = .ok (.istore_n 2, 1) := by decide +kernel
theorem dX7_add_16 : decode cX7_add 16 = .ok (.iload_n 2, 1) := by decide +kernel
theorem dX7_add_17 : decode cX7_add 17 = .ok (.aload_n 0, 1) := by decide +kernel
theorem dX7_add_18 : decode cX7_add 18 = .ok (.getfield 34, 3) := by decide +kernel
theorem dX7_add_21 : decode cX7_add 21 = .ok (.if_icmp .ge 21, 3) := by decide +kernel
theorem dX7_add_24 : decode cX7_add 24 = .ok (.aload_n 0, 1) := by decide +kernel
theorem dX7_add_25 : decode cX7_add 25 = .ok (.getfield 11, 3) := by decide +kernel
theorem dX7_add_28 : decode cX7_add 28 = .ok (.iload_n 2, 1) := by decide +kernel
theorem dX7_add_29 : decode cX7_add 29 = .ok (.aaload, 1) := by decide +kernel
theorem dX7_add_30 : decode cX7_add 30 = .ok (.aload_n 1, 1) := by decide +kernel
theorem dX7_add_31 : decode cX7_add 31 = .ok (.if_acmp .ne 5, 3) := by decide +kernel
theorem dX7_add_34 : decode cX7_add 34 = .ok (.iconst (-1), 1) := by decide +kernel
theorem dX7_add_35 : decode cX7_add 35 = .ok (.ireturn, 1) := by decide +kernel
theorem dX7_add_36 : decode cX7_add 36 = .ok (.iinc 2 1, 3) := by decide +kernel
theorem dX7_add_39 : decode cX7_add 39 = .ok (.goto (-23), 3) := by decide +kernel
theorem dX7_add_42 : decode cX7_add 42 = .ok (.aload_n 0, 1) := by decide +kernel
theorem dX7_add_43 : decode cX7_add 43 = .ok (.getfield 11, 3) := by decide +kernel
theorem dX7_add_46 : decode cX7_add 46 = .ok (.aload_n 0, 1) := by decide +kernel
theorem dX7_add_47 : decode cX7_add 47 = .ok (.getfield 34, 3) := by decide +kernel
theorem dX7_add_50 : decode cX7_add 50 = .ok (.aload_n 1, 1) := by decide +kernel
theorem dX7_add_51 : decode cX7_add 51 = .ok (.aastore, 1) := by decide +kernel
theorem dX7_add_52 : decode cX7_add 52 = .ok (.aload_n 0, 1) := by decide +kernel
theorem dX7_add_53 : decode cX7_add 53 = .ok (.dup, 1) := by decide +kernel
theorem dX7_add_54 : decode cX7_add 54 = .ok (.getfield 34, 3) := by decide +kernel
theorem dX7_add_57 : decode cX7_add 57 = .ok (.iconst 1, 1) := by decide +kernel
theorem dX7_add_58 : decode cX7_add 58 = .ok (.iadd, 1) := by decide +kernel
theorem dX7_add_59 : decode cX7_add 59 = .ok (.putfield 34, 3) := by decide +kernel
theorem dX7_add_62 : decode cX7_add 62 = .ok (.aload_n 0, 1) := by decide +kernel
theorem dX7_add_63 : decode cX7_add 63 = .ok (.getfield 34, 3) := by decide +kernel
theorem dX7_add_66 : decode cX7_add 66 = .ok (.ireturn, 1) := by decide +kernel
theorem dX7_placeOf_0 : decode cX7_placeOf 0 = .ok (.iload_n 1, 1) := by decide +kernel
theorem dX7_placeOf_1 : decode cX7_placeOf 1 = .ok (.ifCond .lt 20, 3) := by decide +kernel
theorem dX7_placeOf_4 : decode cX7_placeOf 4 = .ok (.iload_n 1, 1) := by decide +kernel
theorem dX7_placeOf_5 : decode cX7_placeOf 5 = .ok (.aload_n 0, 1) := by decide +kernel
theorem dX7_placeOf_6 : decode cX7_placeOf 6 = .ok (.getfield 34, 3) := by decide +kernel
theorem dX7_placeOf_9 : decode cX7_placeOf 9 = .ok (.if_icmp .ge 12, 3) := by decide +kernel
theorem dX7_placeOf_12 : decode cX7_placeOf 12 = .ok (.iload_n 1, 1) := by decide +kernel
theorem dX7_placeOf_13 : decode cX7_placeOf 13 = .ok (.aload_n 0, 1) := by decide +kernel
theorem dX7_placeOf_14 : decode cX7_placeOf 14 = .ok (.getfield 27, 3) := by decide +kernel
theorem dX7_placeOf_17 : decode cX7_placeOf 17 = .ok (.arraylength, 1) := by decide +kernel
theorem dX7_placeOf_18 : decode cX7_placeOf 18 = .ok (.if_icmp .lt 5, 3) := by decide +kernel
theorem dX7_placeOf_21 : decode cX7_placeOf 21 = .ok (.iconst (-1), 1) := by decide +kernel
theorem dX7_placeOf_22 : decode cX7_placeOf 22 = .ok (.ireturn, 1) := by decide +kernel
theorem dX7_placeOf_23 : decode cX7_placeOf 23 = .ok (.aload_n 0, 1) := by decide +kernel
theorem dX7_placeOf_24 : decode cX7_placeOf 24 = .ok (.getfield 37, 3) := by decide +kernel
theorem dX7_placeOf_27 : decode cX7_placeOf 27 = .ok (.getfield 41, 3) := by decide +kernel
theorem dX7_placeOf_30 : decode cX7_placeOf 30 = .ok (.iconst 1, 1) := by decide +kernel
theorem dX7_placeOf_31 : decode cX7_placeOf 31 = .ok (.iadd, 1) := by decide +kernel
theorem dX7_placeOf_32 : decode cX7_placeOf 32 = .ok (.istore_n 2, 1) := by decide +kernel
theorem dX7_placeOf_33 : decode cX7_placeOf 33 = .ok (.aload_n 0, 1) := by decide +kernel
theorem dX7_placeOf_34 : decode cX7_placeOf 34 = .ok (.iload_n 2, 1) := by decide +kernel
theorem dX7_placeOf_35 : decode cX7_placeOf 35 = .ok (.aload_n 0, 1) := by decide +kernel
theorem dX7_placeOf_36 : decode cX7_placeOf 36 = .ok (.getfield 37, 3) := by decide +kernel
theorem dX7_placeOf_39 : decode cX7_placeOf 39 = .ok (.iconst 1, 1) := by decide +kernel
theorem dX7_placeOf_40 : decode cX7_placeOf 40 = .ok (.iload_n 2, 1) := by decide +kernel
theorem dX7_placeOf_41 : decode cX7_placeOf 41 = .ok (.aload_n 0, 1) := by decide +kernel
theorem dX7_placeOf_42 : decode cX7_placeOf 42 = .ok (.getfield 37, 3) := by decide +kernel
theorem dX7_placeOf_45 : decode cX7_placeOf 45 = .ok (.getfield 41, 3) := by decide +kernel
theorem dX7_placeOf_48 : decode cX7_placeOf 48 = .ok (.invokevirtual 46, 3) := by decide +kernel
theorem dX7_placeOf_51 : decode cX7_placeOf 51 = .ok (.invokevirtual 50, 3) := by decide +kernel
theorem dX7_placeOf_54 : decode cX7_placeOf 54 = .ok (.aload_n 0, 1) := by decide +kernel
theorem dX7_placeOf_55 : decode cX7_placeOf 55 = .ok (.aload_n 0, 1) := by decide +kernel
theorem dX7_placeOf_56 : decode cX7_placeOf 56 = .ok (.getfield 37, 3) := by decide +kernel
theorem dX7_placeOf_59 : decode cX7_placeOf 59 = .ok (.iconst 0, 1) := by decide +kernel
theorem dX7_placeOf_60 : decode cX7_placeOf 60 = .ok (.iload_n 2, 1) := by decide +kernel
theorem dX7_placeOf_61 : decode cX7_placeOf 61 = .ok (.aload_n 0, 1) := by decide +kernel
theorem dX7_placeOf_62 : decode cX7_placeOf 62 = .ok (.getfield 37, 3) := by decide +kernel
theorem dX7_placeOf_65 : decode cX7_placeOf 65 = .ok (.getfield 41, 3) := by decide +kernel
theorem dX7_placeOf_68 : decode cX7_placeOf 68 = .ok (.invokevirtual 46, 3) := by decide +kernel
theorem dX7_placeOf_71 : decode cX7_placeOf 71 = .ok (.invokevirtual 54, 3) := by decide +kernel
theorem dX7_placeOf_74 : decode cX7_placeOf 74 = .ok (.aload_n 0, 1) := by decide +kernel
theorem dX7_placeOf_75 : decode cX7_placeOf 75 = .ok (.iconst (-1), 1) := by decide +kernel
theorem dX7_placeOf_76 : decode cX7_placeOf 76 = .ok (.putfield 30, 3) := by decide +kernel
theorem dX7_placeOf_79 : decode cX7_placeOf 79 = .ok (.aload_n 0, 1) := by decide +kernel
theorem dX7_placeOf_80 : decode cX7_placeOf 80 = .ok (.iconst 0, 1) := by decide +kernel
theorem dX7_placeOf_81 : decode cX7_placeOf 81 = .ok (.iconst 0, 1) := by decide +kernel
theorem dX7_placeOf_82 : decode cX7_placeOf 82 = .ok (.invokevirtual 58, 3) := by decide +kernel
theorem dX7_placeOf_85 : decode cX7_placeOf 85 = .ok (.aload_n 0, 1) := by decide +kernel
theorem dX7_placeOf_86 : decode cX7_placeOf 86 = .ok (.getfield 27, 3) := by decide +kernel
theorem dX7_placeOf_89 : decode cX7_placeOf 89 = .ok (.iload_n 1, 1) := by decide +kernel
theorem dX7_placeOf_90 : decode cX7_placeOf 90 = .ok (.iaload, 1) := by decide +kernel
theorem dX7_placeOf_91 : decode cX7_placeOf 91 = .ok (.ireturn, 1) := by decide +kernel
theorem dX7_markMayTake_0 : decode cX7_markMayTake 0 = .ok (.iconst 0, 1) := by decide +kernel
theorem dX7_markMayTake_1 : decode cX7_markMayTake 1 = .ok (.istore_n 3, 1) := by decide +kernel
theorem dX7_markMayTake_2 : decode cX7_markMayTake 2 = .ok (.iload_n 3, 1) := by decide +kernel
theorem dX7_markMayTake_3 : decode cX7_markMayTake 3 = .ok (.aload_n 0, 1) := by decide +kernel
theorem dX7_markMayTake_4 : decode cX7_markMayTake 4 = .ok (.getfield 34, 3) := by decide +kernel
theorem dX7_markMayTake_7 : decode cX7_markMayTake 7 = .ok (.if_icmp .ge 105, 3) := by decide +kernel
theorem dX7_markMayTake_10 : decode cX7_markMayTake 10 = .ok (.iload_n 3, 1) := by decide +kernel
theorem dX7_markMayTake_11 : decode cX7_markMayTake 11 = .ok (.aload_n 0, 1) := by decide +kernel
theorem dX7_markMayTake_12 : decode cX7_markMayTake 12 = .ok (.getfield 17, 3) := by decide +kernel
theorem dX7_markMayTake_15 : decode cX7_markMayTake 15 = .ok (.arraylength, 1) := by decide +kernel
theorem dX7_markMayTake_16 : decode cX7_markMayTake 16 = .ok (.if_icmp .ge 96, 3) := by decide +kernel
theorem dX7_markMayTake_19 : decode cX7_markMayTake 19 = .ok (.aload_n 0, 1) := by decide +kernel
theorem dX7_markMayTake_20 : decode cX7_markMayTake 20 = .ok (.getfield 11, 3) := by decide +kernel
theorem dX7_markMayTake_23 : decode cX7_markMayTake 23 = .ok (.iload_n 3, 1) := by decide +kernel
theorem dX7_markMayTake_24 : decode cX7_markMayTake 24 = .ok (.aaload, 1) := by decide +kernel
theorem dX7_markMayTake_25 : decode cX7_markMayTake 25 = .ok (.astore 4, 2) := by decide +kernel
theorem dX7_markMayTake_27 : decode cX7_markMayTake 27 = .ok (.aload_n 0, 1) := by decide +kernel
theorem dX7_markMayTake_28 : decode cX7_markMayTake 28 = .ok (.getfield 17, 3) := by decide +kernel
theorem dX7_markMayTake_31 : decode cX7_markMayTake 31 = .ok (.iload_n 3, 1) := by decide +kernel
theorem dX7_markMayTake_32 : decode cX7_markMayTake 32 = .ok (.iconst 0, 1) := by decide +kernel
theorem dX7_markMayTake_33 : decode cX7_markMayTake 33 = .ok (.iastore, 1) := by decide +kernel
theorem dX7_markMayTake_34 : decode cX7_markMayTake 34 = .ok (.iconst 0, 1) := by decide +kernel
theorem dX7_markMayTake_35 : decode cX7_markMayTake 35 = .ok (.istore 5, 2) := by decide +kernel
theorem dX7_markMayTake_37 : decode cX7_markMayTake 37 = .ok (.iload 5, 2) := by decide +kernel
theorem dX7_markMayTake_39 : decode cX7_markMayTake 39 = .ok (.bipush 6, 2) := by decide +kernel
theorem dX7_markMayTake_41 : decode cX7_markMayTake 41 = .ok (.if_icmp .ge 65, 3) := by decide +kernel
theorem dX7_markMayTake_44 : decode cX7_markMayTake 44 = .ok (.aload_n 0, 1) := by decide +kernel
theorem dX7_markMayTake_45 : decode cX7_markMayTake 45 = .ok (.getfield 37, 3) := by decide +kernel
theorem dX7_markMayTake_48 : decode cX7_markMayTake 48 = .ok (.iload 5, 2) := by decide +kernel
theorem dX7_markMayTake_50 : decode cX7_markMayTake 50 = .ok (.invokevirtual 61, 3) := by decide +kernel
theorem dX7_markMayTake_53 : decode cX7_markMayTake 53 = .ok (.astore 6, 2) := by decide +kernel
theorem dX7_markMayTake_55 : decode cX7_markMayTake 55 = .ok (.aload 4, 2) := by decide +kernel
theorem dX7_markMayTake_57 : decode cX7_markMayTake 57 = .ok (.ifnull 43, 3) := by decide +kernel
theorem dX7_markMayTake_60 : decode cX7_markMayTake 60 = .ok (.aload 6, 2) := by decide +kernel
theorem dX7_markMayTake_62 : decode cX7_markMayTake 62 = .ok (.ifnull 38, 3) := by decide +kernel
theorem dX7_markMayTake_65 : decode cX7_markMayTake 65 = .ok (.aload 6, 2) := by decide +kernel
theorem dX7_markMayTake_67 : decode cX7_markMayTake 67 = .ok (.iload_n 1, 1) := by decide +kernel
theorem dX7_markMayTake_68 : decode cX7_markMayTake 68 = .ok (.iload_n 2, 1) := by decide +kernel
theorem dX7_markMayTake_69 : decode cX7_markMayTake 69 = .ok (.aload 4, 2) := by decide +kernel
theorem dX7_markMayTake_71 : decode cX7_markMayTake 71 = .ok (.getfield 65, 3) := by decide +kernel
theorem dX7_markMayTake_74 : decode cX7_markMayTake 74 = .ok (.aload_n 0, 1) := by decide +kernel
theorem dX7_markMayTake_75 : decode cX7_markMayTake 75 = .ok (.getfield 37, 3) := by decide +kernel
theorem dX7_markMayTake_78 : decode cX7_markMayTake 78 = .ok (.getfield 41, 3) := by decide +kernel
theorem dX7_markMayTake_81 : decode cX7_markMayTake 81 = .ok (.invokevirtual 68, 3) := by decide +kernel
theorem dX7_markMayTake_84 : decode cX7_markMayTake 84 = .ok (.ifCond .ne 16, 3) := by decide +kernel
theorem dX7_markMayTake_87 : decode cX7_markMayTake 87 = .ok (.aload_n 0, 1) := by decide +kernel
theorem dX7_markMayTake_88 : decode cX7_markMayTake 88 = .ok (.getfield 17, 3) := by decide +kernel
theorem dX7_markMayTake_91 : decode cX7_markMayTake 91 = .ok (.iload_n 3, 1) := by decide +kernel
theorem dX7_markMayTake_92 : decode cX7_markMayTake 92 = .ok (.dup2, 1) := by decide +kernel
theorem dX7_markMayTake_93 : decode cX7_markMayTake 93 = .ok (.iaload, 1) := by decide +kernel
theorem dX7_markMayTake_94 : decode cX7_markMayTake 94 = .ok (.iconst 1, 1) := by decide +kernel
theorem dX7_markMayTake_95 : decode cX7_markMayTake 95 = .ok (.iload 5, 2) := by decide +kernel
theorem dX7_markMayTake_97 : decode cX7_markMayTake 97 = .ok (.ishl, 1) := by decide +kernel
theorem dX7_markMayTake_98 : decode cX7_markMayTake 98 = .ok (.ior, 1) := by decide +kernel
theorem dX7_markMayTake_99 : decode cX7_markMayTake 99 = .ok (.iastore, 1) := by decide +kernel
theorem dX7_markMayTake_100 : decode cX7_markMayTake 100 = .ok (.iinc 5 1, 3) := by decide +kernel
theorem dX7_markMayTake_103 : decode cX7_markMayTake 103 = .ok (.goto (-66), 3) := by decide +kernel
theorem dX7_markMayTake_106 : decode cX7_markMayTake 106 = .ok (.iinc 3 1, 3) := by decide +kernel
theorem dX7_markMayTake_109 : decode cX7_markMayTake 109 = .ok (.goto (-107), 3) := by decide +kernel
theorem dX7_markMayTake_112 : decode cX7_markMayTake 112 = .ok (.return_, 1) := by decide +kernel
theorem dX7_markTooNear_0 : decode cX7_markTooNear 0 = .ok (.iconst 0, 1) := by decide +kernel
theorem dX7_markTooNear_1 : decode cX7_markTooNear 1 = .ok (.istore_n 2, 1) := by decide +kernel
theorem dX7_markTooNear_2 : decode cX7_markTooNear 2 = .ok (.iload_n 2, 1) := by decide +kernel
theorem dX7_markTooNear_3 : decode cX7_markTooNear 3 = .ok (.aload_n 0, 1) := by decide +kernel
theorem dX7_markTooNear_4 : decode cX7_markTooNear 4 = .ok (.getfield 21, 3) := by decide +kernel
theorem dX7_markTooNear_7 : decode cX7_markTooNear 7 = .ok (.arraylength, 1) := by decide +kernel
theorem dX7_markTooNear_8 : decode cX7_markTooNear 8 = .ok (.if_icmp .ge 89, 3) := by decide +kernel
theorem dX7_markTooNear_11 : decode cX7_markTooNear 11 = .ok (.aload_n 0, 1) := by decide +kernel
theorem dX7_markTooNear_12 : decode cX7_markTooNear 12 = .ok (.getfield 21, 3) := by decide +kernel
theorem dX7_markTooNear_15 : decode cX7_markTooNear 15 = .ok (.iload_n 2, 1) := by decide +kernel
theorem dX7_markTooNear_16 : decode cX7_markTooNear 16 = .ok (.iconst 0, 1) := by decide +kernel
theorem dX7_markTooNear_17 : decode cX7_markTooNear 17 = .ok (.iastore, 1) := by decide +kernel
theorem dX7_markTooNear_18 : decode cX7_markTooNear 18 = .ok (.aload_n 0, 1) := by decide +kernel
theorem dX7_markTooNear_19 : decode cX7_markTooNear 19 = .ok (.getfield 37, 3) := by decide +kernel
theorem dX7_markTooNear_22 : decode cX7_markTooNear 22 = .ok (.iload_n 2, 1) := by decide +kernel
theorem dX7_markTooNear_23 : decode cX7_markTooNear 23 = .ok (.invokevirtual 61, 3) := by decide +kernel
theorem dX7_markTooNear_26 : decode cX7_markTooNear 26 = .ok (.astore_n 3, 1) := by decide +kernel
theorem dX7_markTooNear_27 : decode cX7_markTooNear 27 = .ok (.iconst 0, 1) := by decide +kernel
theorem dX7_markTooNear_28 : decode cX7_markTooNear 28 = .ok (.istore 4, 2) := by decide +kernel
theorem dX7_markTooNear_30 : decode cX7_markTooNear 30 = .ok (.iload 4, 2) := by decide +kernel
theorem dX7_markTooNear_32 : decode cX7_markTooNear 32 = .ok (.aload_n 0, 1) := by decide +kernel
theorem dX7_markTooNear_33 : decode cX7_markTooNear 33 = .ok (.getfield 21, 3) := by decide +kernel
theorem dX7_markTooNear_36 : decode cX7_markTooNear 36 = .ok (.arraylength, 1) := by decide +kernel
theorem dX7_markTooNear_37 : decode cX7_markTooNear 37 = .ok (.if_icmp .ge 54, 3) := by decide +kernel
theorem dX7_markTooNear_40 : decode cX7_markTooNear 40 = .ok (.aload_n 0, 1) := by decide +kernel
theorem dX7_markTooNear_41 : decode cX7_markTooNear 41 = .ok (.getfield 37, 3) := by decide +kernel
theorem dX7_markTooNear_44 : decode cX7_markTooNear 44 = .ok (.iload 4, 2) := by decide +kernel
theorem dX7_markTooNear_46 : decode cX7_markTooNear 46 = .ok (.invokevirtual 61, 3) := by decide +kernel
theorem dX7_markTooNear_49 : decode cX7_markTooNear 49 = .ok (.astore 5, 2) := by decide +kernel
theorem dX7_markTooNear_51 : decode cX7_markTooNear 51 = .ok (.aload_n 3, 1) := by decide +kernel
theorem dX7_markTooNear_52 : decode cX7_markTooNear 52 = .ok (.ifnull 33, 3) := by decide +kernel
theorem dX7_markTooNear_55 : decode cX7_markTooNear 55 = .ok (.aload 5, 2) := by decide +kernel
theorem dX7_markTooNear_57 : decode cX7_markTooNear 57 = .ok (.ifnull 28, 3) := by decide +kernel
theorem dX7_markTooNear_60 : decode cX7_markTooNear 60 = .ok (.aload_n 3, 1) := by decide +kernel
theorem dX7_markTooNear_61 : decode cX7_markTooNear 61 = .ok (.aload 5, 2) := by decide +kernel
theorem dX7_markTooNear_63 : decode cX7_markTooNear 63 = .ok (.invokevirtual 74, 3) := by decide +kernel
theorem dX7_markTooNear_66 : decode cX7_markTooNear 66 = .ok (.iload_n 1, 1) := by decide +kernel
theorem dX7_markTooNear_67 : decode cX7_markTooNear 67 = .ok (.iload_n 1, 1) := by decide +kernel
theorem dX7_markTooNear_68 : decode cX7_markTooNear 68 = .ok (.imul, 1) := by decide +kernel
theorem dX7_markTooNear_69 : decode cX7_markTooNear 69 = .ok (.if_icmp .ge 16, 3) := by decide +kernel
theorem dX7_markTooNear_72 : decode cX7_markTooNear 72 = .ok (.aload_n 0, 1) := by decide +kernel
theorem dX7_markTooNear_73 : decode cX7_markTooNear 73 = .ok (.getfield 21, 3) := by decide +kernel
theorem dX7_markTooNear_76 : decode cX7_markTooNear 76 = .ok (.iload_n 2, 1) := by decide +kernel
theorem dX7_markTooNear_77 : decode cX7_markTooNear 77 = .ok (.dup2, 1) := by decide +kernel
theorem dX7_markTooNear_78 : decode cX7_markTooNear 78 = .ok (.iaload, 1) := by decide +kernel
theorem dX7_markTooNear_79 : decode cX7_markTooNear 79 = .ok (.iconst 1, 1) := by decide +kernel
theorem dX7_markTooNear_80 : decode cX7_markTooNear 80 = .ok (.iload 4, 2) := by decide +kernel
theorem dX7_markTooNear_82 : decode cX7_markTooNear 82 = .ok (.ishl, 1) := by decide +kernel
theorem dX7_markTooNear_83 : decode cX7_markTooNear 83 = .ok (.ior, 1) := by decide +kernel
theorem dX7_markTooNear_84 : decode cX7_markTooNear 84 = .ok (.iastore, 1) := by decide +kernel
theorem dX7_markTooNear_85 : decode cX7_markTooNear 85 = .ok (.iinc 4 1, 3) := by decide +kernel
theorem dX7_markTooNear_88 : decode cX7_markTooNear 88 = .ok (.goto (-58), 3) := by decide +kernel
theorem dX7_markTooNear_91 : decode cX7_markTooNear 91 = .ok (.iinc 2 1, 3) := by decide +kernel
theorem dX7_markTooNear_94 : decode cX7_markTooNear 94 = .ok (.goto (-92), 3) := by decide +kernel
theorem dX7_markTooNear_97 : decode cX7_markTooNear 97 = .ok (.return_, 1) := by decide +kernel
theorem dX7_search_0 : decode cX7_search 0 = .ok (.iload_n 1, 1) := by decide +kernel
theorem dX7_search_1 : decode cX7_search 1 = .ok (.ifCond .lt 18, 3) := by decide +kernel
theorem dX7_search_4 : decode cX7_search 4 = .ok (.iload_n 2, 1) := by decide +kernel
theorem dX7_search_5 : decode cX7_search 5 = .ok (.aload_n 0, 1) := by decide +kernel
theorem dX7_search_6 : decode cX7_search 6 = .ok (.getfield 34, 3) := by decide +kernel
theorem dX7_search_9 : decode cX7_search 9 = .ok (.iadd, 1) := by decide +kernel
theorem dX7_search_10 : decode cX7_search 10 = .ok (.iload_n 1, 1) := by decide +kernel
theorem dX7_search_11 : decode cX7_search 11 = .ok (.isub, 1) := by decide +kernel
theorem dX7_search_12 : decode cX7_search 12 = .ok (.aload_n 0, 1) := by decide +kernel
theorem dX7_search_13 : decode cX7_search 13 = .ok (.getfield 30, 3) := by decide +kernel
theorem dX7_search_16 : decode cX7_search 16 = .ok (.if_icmp .gt 4, 3) := by decide +kernel
theorem dX7_search_19 : decode cX7_search 19 = .ok (.return_, 1) := by decide +kernel
theorem dX7_search_20 : decode cX7_search 20 = .ok (.iload_n 1, 1) := by decide +kernel
theorem dX7_search_21 : decode cX7_search 21 = .ok (.aload_n 0, 1) := by decide +kernel
theorem dX7_search_22 : decode cX7_search 22 = .ok (.getfield 34, 3) := by decide +kernel
theorem dX7_search_25 : decode cX7_search 25 = .ok (.if_icmp .ge 12, 3) := by decide +kernel
theorem dX7_search_28 : decode cX7_search 28 = .ok (.iload_n 1, 1) := by decide +kernel
theorem dX7_search_29 : decode cX7_search 29 = .ok (.aload_n 0, 1) := by decide +kernel
theorem dX7_search_30 : decode cX7_search 30 = .ok (.getfield 24, 3) := by decide +kernel
theorem dX7_search_33 : decode cX7_search 33 = .ok (.arraylength, 1) := by decide +kernel
theorem dX7_search_34 : decode cX7_search 34 = .ok (.if_icmp .lt 27, 3) := by decide +kernel
theorem dX7_search_37 : decode cX7_search 37 = .ok (.aload_n 0, 1) := by decide +kernel
theorem dX7_search_38 : decode cX7_search 38 = .ok (.iload_n 2, 1) := by decide +kernel
theorem dX7_search_39 : decode cX7_search 39 = .ok (.putfield 30, 3) := by decide +kernel
theorem dX7_search_42 : decode cX7_search 42 = .ok (.aload_n 0, 1) := by decide +kernel
theorem dX7_search_43 : decode cX7_search 43 = .ok (.getfield 24, 3) := by decide +kernel
theorem dX7_search_46 : decode cX7_search 46 = .ok (.iconst 0, 1) := by decide +kernel
theorem dX7_search_47 : decode cX7_search 47 = .ok (.aload_n 0, 1) := by decide +kernel
theorem dX7_search_48 : decode cX7_search 48 = .ok (.getfield 27, 3) := by decide +kernel
theorem dX7_search_51 : decode cX7_search 51 = .ok (.iconst 0, 1) := by decide +kernel
theorem dX7_search_52 : decode cX7_search 52 = .ok (.aload_n 0, 1) := by decide +kernel
theorem dX7_search_53 : decode cX7_search 53 = .ok (.getfield 27, 3) := by decide +kernel
theorem dX7_search_56 : decode cX7_search 56 = .ok (.arraylength, 1) := by decide +kernel
theorem dX7_search_57 : decode cX7_search 57 = .ok (.invokestatic 78, 3) := by decide +kernel
theorem dX7_search_60 : decode cX7_search 60 = .ok (.return_, 1) := by decide +kernel
theorem dX7_search_61 : decode cX7_search 61 = .ok (.iconst 0, 1) := by decide +kernel
theorem dX7_search_62 : decode cX7_search 62 = .ok (.istore_n 3, 1) := by decide +kernel
theorem dX7_search_63 : decode cX7_search 63 = .ok (.iload_n 3, 1) := by decide +kernel
theorem dX7_search_64 : decode cX7_search 64 = .ok (.bipush 6, 2) := by decide +kernel
theorem dX7_search_66 : decode cX7_search 66 = .ok (.if_icmp .ge 35, 3) := by decide +kernel
theorem dX7_search_69 : decode cX7_search 69 = .ok (.aload_n 0, 1) := by decide +kernel
theorem dX7_search_70 : decode cX7_search 70 = .ok (.iload_n 1, 1) := by decide +kernel
theorem dX7_search_71 : decode cX7_search 71 = .ok (.iload_n 3, 1) := by decide +kernel
theorem dX7_search_72 : decode cX7_search 72 = .ok (.invokevirtual 84, 3) := by decide +kernel
theorem dX7_search_75 : decode cX7_search 75 = .ok (.ifCond .eq 20, 3) := by decide +kernel
theorem dX7_search_78 : decode cX7_search 78 = .ok (.aload_n 0, 1) := by decide +kernel
theorem dX7_search_79 : decode cX7_search 79 = .ok (.getfield 24, 3) := by decide +kernel
theorem dX7_search_82 : decode cX7_search 82 = .ok (.iload_n 1, 1) := by decide +kernel
theorem dX7_search_83 : decode cX7_search 83 = .ok (.iload_n 3, 1) := by decide +kernel
theorem dX7_search_84 : decode cX7_search 84 = .ok (.iastore, 1) := by decide +kernel
theorem dX7_search_85 : decode cX7_search 85 = .ok (.aload_n 0, 1) := by decide +kernel
theorem dX7_search_86 : decode cX7_search 86 = .ok (.iload_n 1, 1) := by decide +kernel
theorem dX7_search_87 : decode cX7_search 87 = .ok (.iconst 1, 1) := by decide +kernel
theorem dX7_search_88 : decode cX7_search 88 = .ok (.iadd, 1) := by decide +kernel
theorem dX7_search_89 : decode cX7_search 89 = .ok (.iload_n 2, 1) := by decide +kernel
theorem dX7_search_90 : decode cX7_search 90 = .ok (.iconst 1, 1) := by decide +kernel
theorem dX7_search_91 : decode cX7_search 91 = .ok (.iadd, 1) := by decide +kernel
theorem dX7_search_92 : decode cX7_search 92 = .ok (.invokevirtual 58, 3) := by decide +kernel
theorem dX7_search_95 : decode cX7_search 95 = .ok (.iinc 3 1, 3) := by decide +kernel
theorem dX7_search_98 : decode cX7_search 98 = .ok (.goto (-35), 3) := by decide +kernel
theorem dX7_search_101 : decode cX7_search 101 = .ok (.aload_n 0, 1) := by decide +kernel
theorem dX7_search_102 : decode cX7_search 102 = .ok (.getfield 24, 3) := by decide +kernel
theorem dX7_search_105 : decode cX7_search 105 = .ok (.iload_n 1, 1) := by decide +kernel
theorem dX7_search_106 : decode cX7_search 106 = .ok (.iconst (-1), 1) := by decide +kernel
theorem dX7_search_107 : decode cX7_search 107 = .ok (.iastore, 1) := by decide +kernel
theorem dX7_search_108 : decode cX7_search 108 = .ok (.aload_n 0, 1) := by decide +kernel
theorem dX7_search_109 : decode cX7_search 109 = .ok (.iload_n 1, 1) := by decide +kernel
theorem dX7_search_110 : decode cX7_search 110 = .ok (.iconst 1, 1) := by decide +kernel
theorem dX7_search_111 : decode cX7_search 111 = .ok (.iadd, 1) := by decide +kernel
theorem dX7_search_112 : decode cX7_search 112 = .ok (.iload_n 2, 1) := by decide +kernel
theorem dX7_search_113 : decode cX7_search 113 = .ok (.invokevirtual 58, 3) := by decide +kernel
theorem dX7_search_116 : decode cX7_search 116 = .ok (.return_, 1) := by decide +kernel
theorem dX7_fits_0 : decode cX7_fits 0 = .ok (.iload_n 1, 1) := by decide +kernel
theorem dX7_fits_1 : decode cX7_fits 1 = .ok (.ifCond .lt 37, 3) := by decide +kernel
theorem dX7_fits_4 : decode cX7_fits 4 = .ok (.iload_n 1, 1) := by decide +kernel
theorem dX7_fits_5 : decode cX7_fits 5 = .ok (.aload_n 0, 1) := by decide +kernel
theorem dX7_fits_6 : decode cX7_fits 6 = .ok (.getfield 34, 3) := by decide +kernel
theorem dX7_fits_9 : decode cX7_fits 9 = .ok (.if_icmp .ge 29, 3) := by decide +kernel
theorem dX7_fits_12 : decode cX7_fits 12 = .ok (.iload_n 2, 1) := by decide +kernel
theorem dX7_fits_13 : decode cX7_fits 13 = .ok (.ifCond .lt 25, 3) := by decide +kernel
theorem dX7_fits_16 : decode cX7_fits 16 = .ok (.iload_n 2, 1) := by decide +kernel
theorem dX7_fits_17 : decode cX7_fits 17 = .ok (.aload_n 0, 1) := by decide +kernel
theorem dX7_fits_18 : decode cX7_fits 18 = .ok (.getfield 21, 3) := by decide +kernel
theorem dX7_fits_21 : decode cX7_fits 21 = .ok (.arraylength, 1) := by decide +kernel
theorem dX7_fits_22 : decode cX7_fits 22 = .ok (.if_icmp .ge 16, 3) := by decide +kernel
theorem dX7_fits_25 : decode cX7_fits 25 = .ok (.aload_n 0, 1) := by decide +kernel
theorem dX7_fits_26 : decode cX7_fits 26 = .ok (.getfield 17, 3) := by decide +kernel
theorem dX7_fits_29 : decode cX7_fits 29 = .ok (.iload_n 1, 1) := by decide +kernel
theorem dX7_fits_30 : decode cX7_fits 30 = .ok (.iaload, 1) := by decide +kernel
theorem dX7_fits_31 : decode cX7_fits 31 = .ok (.iload_n 2, 1) := by decide +kernel
theorem dX7_fits_32 : decode cX7_fits 32 = .ok (.ishr, 1) := by decide +kernel
theorem dX7_fits_33 : decode cX7_fits 33 = .ok (.iconst 1, 1) := by decide +kernel
theorem dX7_fits_34 : decode cX7_fits 34 = .ok (.iand, 1) := by decide +kernel
theorem dX7_fits_35 : decode cX7_fits 35 = .ok (.ifCond .ne 5, 3) := by decide +kernel
theorem dX7_fits_38 : decode cX7_fits 38 = .ok (.iconst 0, 1) := by decide +kernel
theorem dX7_fits_39 : decode cX7_fits 39 = .ok (.ireturn, 1) := by decide +kernel
theorem dX7_fits_40 : decode cX7_fits 40 = .ok (.iconst 0, 1) := by decide +kernel
theorem dX7_fits_41 : decode cX7_fits 41 = .ok (.istore_n 3, 1) := by decide +kernel
theorem dX7_fits_42 : decode cX7_fits 42 = .ok (.iload_n 3, 1) := by decide +kernel
theorem dX7_fits_43 : decode cX7_fits 43 = .ok (.iload_n 1, 1) := by decide +kernel
theorem dX7_fits_44 : decode cX7_fits 44 = .ok (.if_icmp .ge 77, 3) := by decide +kernel
theorem dX7_fits_47 : decode cX7_fits 47 = .ok (.aload_n 0, 1) := by decide +kernel
theorem dX7_fits_48 : decode cX7_fits 48 = .ok (.getfield 24, 3) := by decide +kernel
theorem dX7_fits_51 : decode cX7_fits 51 = .ok (.iload_n 3, 1) := by decide +kernel
theorem dX7_fits_52 : decode cX7_fits 52 = .ok (.iaload, 1) := by decide +kernel
theorem dX7_fits_53 : decode cX7_fits 53 = .ok (.istore 4, 2) := by decide +kernel
theorem dX7_fits_55 : decode cX7_fits 55 = .ok (.iload 4, 2) := by decide +kernel
theorem dX7_fits_57 : decode cX7_fits 57 = .ok (.iload_n 2, 1) := by decide +kernel
theorem dX7_fits_58 : decode cX7_fits 58 = .ok (.if_icmp .ne 5, 3) := by decide +kernel
theorem dX7_fits_61 : decode cX7_fits 61 = .ok (.iconst 0, 1) := by decide +kernel
theorem dX7_fits_62 : decode cX7_fits 62 = .ok (.ireturn, 1) := by decide +kernel
theorem dX7_fits_63 : decode cX7_fits 63 = .ok (.iload 4, 2) := by decide +kernel
theorem dX7_fits_65 : decode cX7_fits 65 = .ok (.iconst (-1), 1) := by decide +kernel
theorem dX7_fits_66 : decode cX7_fits 66 = .ok (.if_icmp .eq 21, 3) := by decide +kernel
theorem dX7_fits_69 : decode cX7_fits 69 = .ok (.aload_n 0, 1) := by decide +kernel
theorem dX7_fits_70 : decode cX7_fits 70 = .ok (.getfield 21, 3) := by decide +kernel
theorem dX7_fits_73 : decode cX7_fits 73 = .ok (.iload_n 2, 1) := by decide +kernel
theorem dX7_fits_74 : decode cX7_fits 74 = .ok (.iaload, 1) := by decide +kernel
theorem dX7_fits_75 : decode cX7_fits 75 = .ok (.iload 4, 2) := by decide +kernel
theorem dX7_fits_77 : decode cX7_fits 77 = .ok (.ishr, 1) := by decide +kernel
theorem dX7_fits_78 : decode cX7_fits 78 = .ok (.iconst 1, 1) := by decide +kernel
theorem dX7_fits_79 : decode cX7_fits 79 = .ok (.iand, 1) := by decide +kernel
theorem dX7_fits_80 : decode cX7_fits 80 = .ok (.ifCond .eq 7, 3) := by decide +kernel
theorem dX7_fits_83 : decode cX7_fits 83 = .ok (.iconst 1, 1) := by decide +kernel
theorem dX7_fits_84 : decode cX7_fits 84 = .ok (.goto 4, 3) := by decide +kernel
theorem dX7_fits_87 : decode cX7_fits 87 = .ok (.iconst 0, 1) := by decide +kernel
theorem dX7_fits_88 : decode cX7_fits 88 = .ok (.istore 5, 2) := by decide +kernel
theorem dX7_fits_90 : decode cX7_fits 90 = .ok (.iload 5, 2) := by decide +kernel
theorem dX7_fits_92 : decode cX7_fits 92 = .ok (.ifCond .eq 23, 3) := by decide +kernel
theorem dX7_fits_95 : decode cX7_fits 95 = .ok (.aload_n 0, 1) := by decide +kernel
theorem dX7_fits_96 : decode cX7_fits 96 = .ok (.getfield 11, 3) := by decide +kernel
theorem dX7_fits_99 : decode cX7_fits 99 = .ok (.iload_n 3, 1) := by decide +kernel
theorem dX7_fits_100 : decode cX7_fits 100 = .ok (.aaload, 1) := by decide +kernel
theorem dX7_fits_101 : decode cX7_fits 101 = .ok (.aload_n 0, 1) := by decide +kernel
theorem dX7_fits_102 : decode cX7_fits 102 = .ok (.getfield 11, 3) := by decide +kernel
theorem dX7_fits_105 : decode cX7_fits 105 = .ok (.iload_n 1, 1) := by decide +kernel
theorem dX7_fits_106 : decode cX7_fits 106 = .ok (.aaload, 1) := by decide +kernel
theorem dX7_fits_107 : decode cX7_fits 107 = .ok (.invokestatic 88, 3) := by decide +kernel
theorem dX7_fits_110 : decode cX7_fits 110 = .ok (.ifCond .eq 5, 3) := by decide +kernel
theorem dX7_fits_113 : decode cX7_fits 113 = .ok (.iconst 0, 1) := by decide +kernel
theorem dX7_fits_114 : decode cX7_fits 114 = .ok (.ireturn, 1) := by decide +kernel
theorem dX7_fits_115 : decode cX7_fits 115 = .ok (.iinc 3 1, 3) := by decide +kernel
theorem dX7_fits_118 : decode cX7_fits 118 = .ok (.goto (-76), 3) := by decide +kernel
theorem dX7_fits_121 : decode cX7_fits 121 = .ok (.iconst 1, 1) := by decide +kernel
theorem dX7_fits_122 : decode cX7_fits 122 = .ok (.ireturn, 1) := by decide +kernel
theorem dX7_areOfOneCrop_0 : decode cX7_areOfOneCrop 0 = .ok (.aload_n 0, 1) := by decide +kernel
theorem dX7_areOfOneCrop_1 : decode cX7_areOfOneCrop 1 = .ok (.ifnull 22, 3) := by decide +kernel
theorem dX7_areOfOneCrop_4 : decode cX7_areOfOneCrop 4 = .ok (.aload_n 1, 1) := by decide +kernel
theorem dX7_areOfOneCrop_5 : decode cX7_areOfOneCrop 5 = .ok (.ifnull 18, 3) := by decide +kernel
theorem dX7_areOfOneCrop_8 : decode cX7_areOfOneCrop 8 = .ok (.aload_n 0, 1) := by decide +kernel
theorem dX7_areOfOneCrop_9 : decode cX7_areOfOneCrop 9 = .ok (.getfield 65, 3) := by decide +kernel
theorem dX7_areOfOneCrop_12 : decode cX7_areOfOneCrop 12 = .ok (.aload_n 1, 1) := by decide +kernel
theorem dX7_areOfOneCrop_13 : decode cX7_areOfOneCrop 13 = .ok (.getfield 65, 3) := by decide +kernel
theorem dX7_areOfOneCrop_16 : decode cX7_areOfOneCrop 16 = .ok (.if_icmp .ne 7, 3) := by decide +kernel
theorem dX7_areOfOneCrop_19 : decode cX7_areOfOneCrop 19 = .ok (.iconst 1, 1) := by decide +kernel
theorem dX7_areOfOneCrop_20 : decode cX7_areOfOneCrop 20 = .ok (.goto 4, 3) := by decide +kernel
theorem dX7_areOfOneCrop_23 : decode cX7_areOfOneCrop 23 = .ok (.iconst 0, 1) := by decide +kernel
theorem dX7_areOfOneCrop_24 : decode cX7_areOfOneCrop 24 = .ok (.ireturn, 1) := by decide +kernel
theorem dX8_init_0 : decode cX8_init 0 = .ok (.aload_n 0, 1) := by decide +kernel
theorem dX8_init_1 : decode cX8_init 1 = .ok (.invokespecial 1, 3) := by decide +kernel
theorem dX8_init_4 : decode cX8_init 4 = .ok (.aload_n 0, 1) := by decide +kernel
theorem dX8_init_5 : decode cX8_init 5 = .ok (.aload_n 1, 1) := by decide +kernel
theorem dX8_init_6 : decode cX8_init 6 = .ok (.putfield 7, 3) := by decide +kernel
theorem dX8_init_9 : decode cX8_init 9 = .ok (.aload_n 0, 1) := by decide +kernel
theorem dX8_init_10 : decode cX8_init 10 = .ok (.iload_n 2, 1) := by decide +kernel
theorem dX8_init_11 : decode cX8_init 11 = .ok (.putfield 13, 3) := by decide +kernel
theorem dX8_init_14 : decode cX8_init 14 = .ok (.aload_n 0, 1) := by decide +kernel
theorem dX8_init_15 : decode cX8_init 15 = .ok (.iload_n 3, 1) := by decide +kernel
theorem dX8_init_16 : decode cX8_init 16 = .ok (.putfield 17, 3) := by decide +kernel
theorem dX8_init_19 : decode cX8_init 19 = .ok (.aload_n 0, 1) := by decide +kernel
theorem dX8_init_20 : decode cX8_init 20 = .ok (.iload 4, 2) := by decide +kernel
theorem dX8_init_22 : decode cX8_init 22 = .ok (.putfield 20, 3) := by decide +kernel
theorem dX8_init_25 : decode cX8_init 25 = .ok (.return_, 1) := by decide +kernel
theorem dX9_init_0 : decode cX9_init 0 = .ok (.aload_n 0, 1) := by decide +kernel
theorem dX9_init_1 : decode cX9_init 1 = .ok (.invokespecial 1, 3) := by decide +kernel
theorem dX9_init_4 : decode cX9_init 4 = .ok (.aload_n 0, 1) := by decide +kernel
theorem dX9_init_5 : decode cX9_init 5 = .ok (.aload_n 1, 1) := by decide +kernel
theorem dX9_init_6 : decode cX9_init 6 = .ok (.putfield 7, 3) := by decide +kernel
theorem dX9_init_9 : decode cX9_init 9 = .ok (.aload_n 0, 1) := by decide +kernel
theorem dX9_init_10 : decode cX9_init 10 = .ok (.iload_n 2, 1) := by decide +kernel
theorem dX9_init_11 : decode cX9_init 11 = .ok (.putfield 13, 3) := by decide +kernel
theorem dX9_init_14 : decode cX9_init 14 = .ok (.aload_n 0, 1) := by decide +kernel
theorem dX9_init_15 : decode cX9_init 15 = .ok (.iload_n 3, 1) := by decide +kernel
theorem dX9_init_16 : decode cX9_init 16 = .ok (.putfield 17, 3) := by decide +kernel
theorem dX9_init_19 : decode cX9_init 19 = .ok (.return_, 1) := by decide +kernel
end
section
theorem dX10_init_0 : decode cX10_init 0 = .ok (.aload_n 0, 1) := by decide +kernel
theorem dX10_init_1 : decode cX10_init 1 = .ok (.invokespecial 1, 3) := by decide +kernel
theorem dX10_init_4 : decode cX10_init 4 = .ok (.aload_n 0, 1) := by decide +kernel
theorem dX10_init_5 : decode cX10_init 5 = .ok (.new 7, 3) := by decide +kernel
theorem dX10_init_8 : decode cX10_init 8 = .ok (.dup, 1) := by decide +kernel
theorem dX10_init_9 : decode cX10_init 9 = .ok (.invokespecial 9, 3) := by decide +kernel
theorem dX10_init_12 : decode cX10_init 12 = .ok (.putfield 10, 3) := by decide +kernel
theorem dX10_init_15 : decode cX10_init 15 = .ok (.aload_n 0, 1) := by decide +kernel
theorem dX10_init_16 : decode cX10_init 16 = .ok (.new 16, 3) := by decide +kernel
theorem dX10_init_19 : decode cX10_init 19 = .ok (.dup, 1) := by decide +kernel
theorem dX10_init_20 : decode cX10_init 20 = .ok (.aload_n 0, 1) := by decide +kernel
theorem dX10_init_21 : decode cX10_init 21 = .ok (.getfield 10, 3) := by decide +kernel
theorem dX10_init_24 : decode cX10_init 24 = .ok (.invokespecial 18, 3) := by decide +kernel
theorem dX10_init_27 : decode cX10_init 27 = .ok (.putfield 21, 3) := by decide +kernel
theorem dX10_init_30 : decode cX10_init 30 = .ok (.aload_n 0, 1) := by decide +kernel
theorem dX10_init_31 : decode cX10_init 31 = .ok (.new 25, 3) := by decide +kernel
theorem dX10_init_34 : decode cX10_init 34 = .ok (.dup, 1) := by decide +kernel
theorem dX10_init_35 : decode cX10_init 35 = .ok (.aload_n 0, 1) := by decide +kernel
theorem dX10_init_36 : decode cX10_init 36 = .ok (.getfield 10, 3) := by decide +kernel
theorem dX10_init_39 : decode cX10_init 39 = .ok (.invokespecial 27, 3) := by decide +kernel
theorem dX10_init_42 : decode cX10_init 42 = .ok (.putfield 28, 3) := by decide +kernel
theorem dX10_init_45 : decode cX10_init 45 = .ok (.aload_n 0, 1) := by decide +kernel
theorem dX10_init_46 : decode cX10_init 46 = .ok (.new 32, 3) := by decide +kernel
theorem dX10_init_49 : decode cX10_init 49 = .ok (.dup, 1) := by decide +kernel
theorem dX10_init_50 : decode cX10_init 50 = .ok (.aload_n 0, 1) := by decide +kernel
theorem dX10_init_51 : decode cX10_init 51 = .ok (.getfield 10, 3) := by decide +kernel
theorem dX10_init_54 : decode cX10_init 54 = .ok (.invokespecial 34, 3) := by decide +kernel
theorem dX10_init_57 : decode cX10_init 57 = .ok (.putfield 35, 3) := by decide +kernel
theorem dX10_init_60 : decode cX10_init 60 = .ok (.aload_n 0, 1) := by decide +kernel
theorem dX10_init_61 : decode cX10_init 61 = .ok (.sipush 500, 3) := by decide +kernel
theorem dX10_init_64 : decode cX10_init 64 = .ok (.newarray .int, 2) := by decide +kernel
theorem dX10_init_66 : decode cX10_init 66 = .ok (.putfield 39, 3) := by decide +kernel
theorem dX10_init_69 : decode cX10_init 69 = .ok (.return_, 1) := by decide +kernel
theorem dX10_field_0 : decode cX10_field 0 = .ok (.iload_n 1, 1) := by decide +kernel
theorem dX10_field_1 : decode cX10_field 1 = .ok (.iconst 0, 1) := by decide +kernel
theorem dX10_field_2 : decode cX10_field 2 = .ok (.sipush 1000, 3) := by decide +kernel
theorem dX10_field_5 : decode cX10_field 5 = .ok (.invokestatic 43, 3) := by decide +kernel
theorem dX10_field_8 : decode cX10_field 8 = .ok (.ifCond .eq 41, 3) := by decide +kernel
theorem dX10_field_11 : decode cX10_field 11 = .ok (.iload_n 2, 1) := by decide +kernel
theorem dX10_field_12 : decode cX10_field 12 = .ok (.iconst 0, 1) := by decide +kernel
theorem dX10_field_13 : decode cX10_field 13 = .ok (.sipush 1000, 3) := by decide +kernel
theorem dX10_field_16 : decode cX10_field 16 = .ok (.invokestatic 43, 3) := by decide +kernel
theorem dX10_field_19 : decode cX10_field 19 = .ok (.ifCond .eq 30, 3) := by decide +kernel
theorem dX10_field_22 : decode cX10_field 22 = .ok (.iload_n 3, 1) := by decide +kernel
theorem dX10_field_23 : decode cX10_field 23 = .ok (.iconst 0, 1) := by decide +kernel
theorem dX10_field_24 : decode cX10_field 24 = .ok (.sipush 1000, 3) := by decide +kernel
theorem dX10_field_27 : decode cX10_field 27 = .ok (.invokestatic 43, 3) := by decide +kernel
theorem dX10_field_30 : decode cX10_field 30 = .ok (.ifCond .eq 19, 3) := by decide +kernel
theorem dX10_field_33 : decode cX10_field 33 = .ok (.iload 4, 2) := by decide +kernel
theorem dX10_field_35 : decode cX10_field 35 = .ok (.iconst 0, 1) := by decide +kernel
theorem dX10_field_36 : decode cX10_field 36 = .ok (.sipush 1000, 3) := by decide +kernel
theorem dX10_field_39 : decode cX10_field 39 = .ok (.invokestatic 43, 3) := by decide +kernel
theorem dX10_field_42 : decode cX10_field 42 = .ok (.ifCond .eq 7, 3) := by decide +kernel
theorem dX10_field_45 : decode cX10_field 45 = .ok (.iconst 1, 1) := by decide +kernel
theorem dX10_field_46 : decode cX10_field 46 = .ok (.goto 4, 3) := by decide +kernel
theorem dX10_field_49 : decode cX10_field 49 = .ok (.iconst 0, 1) := by decide +kernel
theorem dX10_field_50 : decode cX10_field 50 = .ok (.istore 5, 2) := by decide +kernel
theorem dX10_field_52 : decode cX10_field 52 = .ok (.iload 5, 2) := by decide +kernel
theorem dX10_field_54 : decode cX10_field 54 = .ok (.ifCond .eq 26, 3) := by decide +kernel
theorem dX10_field_57 : decode cX10_field 57 = .ok (.iload_n 1, 1) := by decide +kernel
theorem dX10_field_58 : decode cX10_field 58 = .ok (.iload_n 3, 1) := by decide +kernel
theorem dX10_field_59 : decode cX10_field 59 = .ok (.if_icmp .eq 21, 3) := by decide +kernel
theorem dX10_field_62 : decode cX10_field 62 = .ok (.iload_n 2, 1) := by decide +kernel
theorem dX10_field_63 : decode cX10_field 63 = .ok (.iload 4, 2) := by decide +kernel
theorem dX10_field_65 : decode cX10_field 65 = .ok (.if_icmp .eq 15, 3) := by decide +kernel
theorem dX10_field_68 : decode cX10_field 68 = .ok (.aload_n 0, 1) := by decide +kernel
theorem dX10_field_69 : decode cX10_field 69 = .ok (.getfield 10, 3) := by decide +kernel
theorem dX10_field_72 : decode cX10_field 72 = .ok (.getfield 47, 3) := by decide +kernel
theorem dX10_field_75 : decode cX10_field 75 = .ok (.bipush 40, 2) := by decide +kernel
theorem dX10_field_77 : decode cX10_field 77 = .ok (.if_icmp .lt 5, 3) := by decide +kernel
theorem dX10_field_80 : decode cX10_field 80 = .ok (.iconst (-1), 1) := by decide +kernel
theorem dX10_field_81 : decode cX10_field 81 = .ok (.ireturn, 1) := by decide +kernel
theorem dX10_field_82 : decode cX10_field 82 = .ok (.aload_n 0, 1) := by decide +kernel
theorem dX10_field_83 : decode cX10_field 83 = .ok (.getfield 10, 3) := by decide +kernel
theorem dX10_field_86 : decode cX10_field 86 = .ok (.new 51, 3) := by decide +kernel
theorem dX10_field_89 : decode cX10_field 89 = .ok (.dup, 1) := by decide +kernel
theorem dX10_field_90 : decode cX10_field 90 = .ok (.aload_n 0, 1) := by decide +kernel
theorem dX10_field_91 : decode cX10_field 91 = .ok (.getfield 10, 3) := by decide +kernel
theorem dX10_field_94 : decode cX10_field 94 = .ok (.getfield 47, 3) := by decide +kernel
theorem dX10_field_97 : decode cX10_field 97 = .ok (.iload_n 1, 1) := by decide +kernel
theorem dX10_field_98 : decode cX10_field 98 = .ok (.iload_n 2, 1) := by decide +kernel
theorem dX10_field_99 : decode cX10_field 99 = .ok (.iload_n 3, 1) := by decide +kernel
theorem dX10_field_100 : decode cX10_field 100 = .ok (.iload 4, 2) := by decide +kernel
theorem dX10_field_102 : decode cX10_field 102 = .ok (.invokespecial 53, 3) := by decide +kernel
theorem dX10_field_105 : decode cX10_field 105 = .ok (.invokevirtual 56, 3) := by decide +kernel
theorem dX10_field_108 : decode cX10_field 108 = .ok (.ireturn, 1) := by decide +kernel
theorem dX10_near_0 : decode cX10_near 0 = .ok (.aload_n 0, 1) := by decide +kernel
theorem dX10_near_1 : decode cX10_near 1 = .ok (.getfield 10, 3) := by decide +kernel
theorem dX10_near_4 : decode cX10_near 4 = .ok (.iload_n 1, 1) := by decide +kernel
theorem dX10_near_5 : decode cX10_near 5 = .ok (.invokevirtual 60, 3) := by decide +kernel
theorem dX10_near_8 : decode cX10_near 8 = .ok (.astore_n 3, 1) := by decide +kernel
theorem dX10_near_9 : decode cX10_near 9 = .ok (.aload_n 0, 1) := by decide +kernel
theorem dX10_near_10 : decode cX10_near 10 = .ok (.getfield 10, 3) := by decide +kernel
theorem dX10_near_13 : decode cX10_near 13 = .ok (.iload_n 2, 1) := by decide +kernel
theorem dX10_near_14 : decode cX10_near 14 = .ok (.invokevirtual 60, 3) := by decide +kernel
theorem dX10_near_17 : decode cX10_near 17 = .ok (.astore 4, 2) := by decide +kernel
theorem dX10_near_19 : decode cX10_near 19 = .ok (.aload_n 3, 1) := by decide +kernel
theorem dX10_near_20 : decode cX10_near 20 = .ok (.ifnull 8, 3) := by decide +kernel
theorem dX10_near_23 : decode cX10_near 23 = .ok (.aload 4, 2) := by decide +kernel
theorem dX10_near_25 : decode cX10_near 25 = .ok (.ifnonnull 7, 3) := by decide +kernel
theorem dX10_near_28 : decode cX10_near 28 = .ok (.iconst (-1), 1) := by decide +kernel
theorem dX10_near_29 : decode cX10_near 29 = .ok (.goto 9, 3) := by decide +kernel
theorem dX10_near_32 : decode cX10_near 32 = .ok (.aload_n 3, 1) := by decide +kernel
theorem dX10_near_33 : decode cX10_near 33 = .ok (.aload 4, 2) := by decide +kernel
theorem dX10_near_35 : decode cX10_near 35 = .ok (.invokevirtual 64, 3) := by decide +kernel
theorem dX10_near_38 : decode cX10_near 38 = .ok (.ireturn, 1) := by decide +kernel
theorem dX10_stand_0 : decode cX10_stand 0 = .ok (.aload_n 0, 1) := by decide +kernel
theorem dX10_stand_1 : decode cX10_stand 1 = .ok (.getfield 10, 3) := by decide +kernel
theorem dX10_stand_4 : decode cX10_stand 4 = .ok (.iload_n 1, 1) := by decide +kernel
theorem dX10_stand_5 : decode cX10_stand 5 = .ok (.invokevirtual 60, 3) := by decide +kernel
theorem dX10_stand_8 : decode cX10_stand 8 = .ok (.astore 4, 2) := by decide +kernel
theorem dX10_stand_10 : decode cX10_stand 10 = .ok (.aload 4, 2) := by decide +kernel
theorem dX10_stand_12 : decode cX10_stand 12 = .ok (.ifnull 40, 3) := by decide +kernel
theorem dX10_stand_15 : decode cX10_stand 15 = .ok (.iload_n 2, 1) := by decide +kernel
theorem dX10_stand_16 : decode cX10_stand 16 = .ok (.iconst 0, 1) := by decide +kernel
theorem dX10_stand_17 : decode cX10_stand 17 = .ok (.aload_n 0, 1) := by decide +kernel
theorem dX10_stand_18 : decode cX10_stand 18 = .ok (.getfield 10, 3) := by decide +kernel
theorem dX10_stand_21 : decode cX10_stand 21 = .ok (.getfield 67, 3) := by decide +kernel
theorem dX10_stand_24 : decode cX10_stand 24 = .ok (.invokestatic 43, 3) := by decide +kernel
theorem dX10_stand_27 : decode cX10_stand 27 = .ok (.ifCond .eq 25, 3) := by decide +kernel
theorem dX10_stand_30 : decode cX10_stand 30 = .ok (.iload_n 3, 1) := by decide +kernel
theorem dX10_stand_31 : decode cX10_stand 31 = .ok (.iconst 0, 1) := by decide +kernel
theorem dX10_stand_32 : decode cX10_stand 32 = .ok (.iconst 4, 1) := by decide +kernel
theorem dX10_stand_33 : decode cX10_stand 33 = .ok (.invokestatic 43, 3) := by decide +kernel
theorem dX10_stand_36 : decode cX10_stand 36 = .ok (.ifCond .eq 16, 3) := by decide +kernel
theorem dX10_stand_39 : decode cX10_stand 39 = .ok (.aload_n 0, 1) := by decide +kernel
theorem dX10_stand_40 : decode cX10_stand 40 = .ok (.getfield 10, 3) := by decide +kernel
theorem dX10_stand_43 : decode cX10_stand 43 = .ok (.getfield 70, 3) := by decide +kernel
theorem dX10_stand_46 : decode cX10_stand 46 = .ok (.sipush 300, 3) := by decide +kernel
theorem dX10_stand_49 : decode cX10_stand 49 = .ok (.if_icmp .lt 5, 3) := by decide +kernel
theorem dX10_stand_52 : decode cX10_stand 52 = .ok (.iconst 0, 1) := by decide +kernel
theorem dX10_stand_53 : decode cX10_stand 53 = .ok (.ireturn, 1) := by decide +kernel
theorem dX10_stand_54 : decode cX10_stand 54 = .ok (.aload 4, 2) := by decide +kernel
theorem dX10_stand_56 : decode cX10_stand 56 = .ok (.iload_n 2, 1) := by decide +kernel
theorem dX10_stand_57 : decode cX10_stand 57 = .ok (.iload_n 3, 1) := by decide +kernel
theorem dX10_stand_58 : decode cX10_stand 58 = .ok (.aload_n 0, 1) := by decide +kernel
theorem dX10_stand_59 : decode cX10_stand 59 = .ok (.getfield 10, 3) := by decide +kernel
theorem dX10_stand_62 : decode cX10_stand 62 = .ok (.getfield 67, 3) := by decide +kernel
theorem dX10_stand_65 : decode cX10_stand 65 = .ok (.invokevirtual 73, 3) := by decide +kernel
theorem dX10_stand_68 : decode cX10_stand 68 = .ok (.aload_n 0, 1) := by decide +kernel
theorem dX10_stand_69 : decode cX10_stand 69 = .ok (.getfield 10, 3) := by decide +kernel
theorem dX10_stand_72 : decode cX10_stand 72 = .ok (.dup, 1) := by decide +kernel
theorem dX10_stand_73 : decode cX10_stand 73 = .ok (.getfield 70, 3) := by decide +kernel
theorem dX10_stand_76 : decode cX10_stand 76 = .ok (.iconst 1, 1) := by decide +kernel
theorem dX10_stand_77 : decode cX10_stand 77 = .ok (.iadd, 1) := by decide +kernel
theorem dX10_stand_78 : decode cX10_stand 78 = .ok (.putfield 70, 3) := by decide +kernel
theorem dX10_stand_81 : decode cX10_stand 81 = .ok (.iconst 1, 1) := by decide +kernel
theorem dX10_stand_82 : decode cX10_stand 82 = .ok (.ireturn, 1) := by decide +kernel
theorem dX10_stands_0 : decode cX10_stands 0 = .ok (.aload_n 0, 1) := by decide +kernel
theorem dX10_stands_1 : decode cX10_stands 1 = .ok (.getfield 10, 3) := by decide +kernel
theorem dX10_stands_4 : decode cX10_stands 4 = .ok (.iload_n 1, 1) := by decide +kernel
theorem dX10_stands_5 : decode cX10_stands 5 = .ok (.invokevirtual 60, 3) := by decide +kernel
theorem dX10_stands_8 : decode cX10_stands 8 = .ok (.astore 4, 2) := by decide +kernel
theorem dX10_stands_10 : decode cX10_stands 10 = .ok (.aload 4, 2) := by decide +kernel
theorem dX10_stands_12 : decode cX10_stands 12 = .ok (.ifnull 33, 3) := by decide +kernel
theorem dX10_stands_15 : decode cX10_stands 15 = .ok (.iload_n 2, 1) := by decide +kernel
theorem dX10_stands_16 : decode cX10_stands 16 = .ok (.iconst 0, 1) := by decide +kernel
theorem dX10_stands_17 : decode cX10_stands 17 = .ok (.aload_n 0, 1) := by decide +kernel
theorem dX10_stands_18 : decode cX10_stands 18 = .ok (.getfield 10, 3) := by decide +kernel
theorem dX10_stands_21 : decode cX10_stands 21 = .ok (.getfield 67, 3) := by decide +kernel
theorem dX10_stands_24 : decode cX10_stands 24 = .ok (.invokestatic 43, 3) := by decide +kernel
theorem dX10_stands_27 : decode cX10_stands 27 = .ok (.ifCond .eq 18, 3) := by decide +kernel
theorem dX10_stands_30 : decode cX10_stands 30 = .ok (.iload_n 3, 1) := by decide +kernel
theorem dX10_stands_31 : decode cX10_stands 31 = .ok (.iconst 0, 1) := by decide +kernel
theorem dX10_stands_32 : decode cX10_stands 32 = .ok (.aload_n 0, 1) := by decide +kernel
theorem dX10_stands_33 : decode cX10_stands 33 = .ok (.getfield 10, 3) := by decide +kernel
theorem dX10_stands_36 : decode cX10_stands 36 = .ok (.getfield 67, 3) := by decide +kernel
theorem dX10_stands_39 : decode cX10_stands 39 = .ok (.invokestatic 43, 3) := by decide +kernel
theorem dX10_stands_42 : decode cX10_stands 42 = .ok (.ifCond .ne 5, 3) := by decide +kernel
theorem dX10_stands_45 : decode cX10_stands 45 = .ok (.iconst (-1), 1) := by decide +kernel
theorem dX10_stands_46 : decode cX10_stands 46 = .ok (.ireturn, 1) := by decide +kernel
theorem dX10_stands_47 : decode cX10_stands 47 = .ok (.aload 4, 2) := by decide +kernel
theorem dX10_stands_49 : decode cX10_stands 49 = .ok (.iload_n 2, 1) := by decide +kernel
theorem dX10_stands_50 : decode cX10_stands 50 = .ok (.iload_n 3, 1) := by decide +kernel
theorem dX10_stands_51 : decode cX10_stands 51 = .ok (.invokevirtual 77, 3) := by decide +kernel
theorem dX10_stands_54 : decode cX10_stands 54 = .ok (.ireturn, 1) := by decide +kernel
theorem dX10_statute_0 : decode cX10_statute 0 = .ok (.iload_n 1, 1) := by decide +kernel
theorem dX10_statute_1 : decode cX10_statute 1 = .ok (.iconst 0, 1) := by decide +kernel
theorem dX10_statute_2 : decode cX10_statute 2 = .ok (.getstatic 81, 3) := by decide +kernel
theorem dX10_statute_5 : decode cX10_statute 5 = .ok (.arraylength, 1) := by decide +kernel
theorem dX10_statute_6 : decode cX10_statute 6 = .ok (.iconst 1, 1) := by decide +kernel
theorem dX10_statute_7 : decode cX10_statute 7 = .ok (.isub, 1) := by decide +kernel
theorem dX10_statute_8 : decode cX10_statute 8 = .ok (.invokestatic 43, 3) := by decide +kernel
theorem dX10_statute_11 : decode cX10_statute 11 = .ok (.ifCond .eq 26, 3) := by decide +kernel
theorem dX10_statute_14 : decode cX10_statute 14 = .ok (.iload_n 2, 1) := by decide +kernel
theorem dX10_statute_15 : decode cX10_statute 15 = .ok (.iconst 0, 1) := by decide +kernel
theorem dX10_statute_16 : decode cX10_statute 16 = .ok (.bipush 60, 2) := by decide +kernel
theorem dX10_statute_18 : decode cX10_statute 18 = .ok (.invokestatic 43, 3) := by decide +kernel
theorem dX10_statute_21 : decode cX10_statute 21 = .ok (.ifCond .eq 16, 3) := by decide +kernel
theorem dX10_statute_24 : decode cX10_statute 24 = .ok (.iload_n 3, 1) := by decide +kernel
theorem dX10_statute_25 : decode cX10_statute 25 = .ok (.iconst 0, 1) := by decide +kernel
theorem dX10_statute_26 : decode cX10_statute 26 = .ok (.getstatic 81, 3) := by decide +kernel
theorem dX10_statute_29 : decode cX10_statute 29 = .ok (.iload_n 1, 1) := by decide +kernel
theorem dX10_statute_30 : decode cX10_statute 30 = .ok (.iaload, 1) := by decide +kernel
theorem dX10_statute_31 : decode cX10_statute 31 = .ok (.invokestatic 43, 3) := by decide +kernel
theorem dX10_statute_34 : decode cX10_statute 34 = .ok (.ifCond .ne 5, 3) := by decide +kernel
theorem dX10_statute_37 : decode cX10_statute 37 = .ok (.iconst (-1), 1) := by decide +kernel
theorem dX10_statute_38 : decode cX10_statute 38 = .ok (.ireturn, 1) := by decide +kernel
theorem dX10_statute_39 : decode cX10_statute 39 = .ok (.aload_n 0, 1) := by decide +kernel
theorem dX10_statute_40 : decode cX10_statute 40 = .ok (.getfield 10, 3) := by decide +kernel
theorem dX10_statute_43 : decode cX10_statute 43 = .ok (.iload_n 1, 1) := by decide +kernel
theorem dX10_statute_44 : decode cX10_statute 44 = .ok (.iload_n 2, 1) := by decide +kernel
theorem dX10_statute_45 : decode cX10_statute 45 = .ok (.iload_n 3, 1) := by decide +kernel
theorem dX10_statute_46 : decode cX10_statute 46 = .ok (.invokevirtual 84, 3) := by decide +kernel
theorem dX10_statute_49 : decode cX10_statute 49 = .ok (.ireturn, 1) := by decide +kernel
theorem dX10_force_0 : decode cX10_force 0 = .ok (.iload_n 1, 1) := by decide +kernel
theorem dX10_force_1 : decode cX10_force 1 = .ok (.iconst 0, 1) := by decide +kernel
theorem dX10_force_2 : decode cX10_force 2 = .ok (.getstatic 81, 3) := by decide +kernel
theorem dX10_force_5 : decode cX10_force 5 = .ok (.arraylength, 1) := by decide +kernel
theorem dX10_force_6 : decode cX10_force 6 = .ok (.iconst 1, 1) := by decide +kernel
theorem dX10_force_7 : decode cX10_force 7 = .ok (.isub, 1) := by decide +kernel
theorem dX10_force_8 : decode cX10_force 8 = .ok (.invokestatic 43, 3) := by decide +kernel
theorem dX10_force_11 : decode cX10_force 11 = .ok (.ifCond .eq 28, 3) := by decide +kernel
theorem dX10_force_14 : decode cX10_force 14 = .ok (.iload_n 2, 1) := by decide +kernel
theorem dX10_force_15 : decode cX10_force 15 = .ok (.iconst 0, 1) := by decide +kernel
theorem dX10_force_16 : decode cX10_force 16 = .ok (.bipush 60, 2) := by decide +kernel
theorem dX10_force_18 : decode cX10_force 18 = .ok (.invokestatic 43, 3) := by decide +kernel
theorem dX10_force_21 : decode cX10_force 21 = .ok (.ifCond .eq 18, 3) := by decide +kernel
theorem dX10_force_24 : decode cX10_force 24 = .ok (.iload_n 3, 1) := by decide +kernel
theorem dX10_force_25 : decode cX10_force 25 = .ok (.iconst 0, 1) := by decide +kernel
theorem dX10_force_26 : decode cX10_force 26 = .ok (.aload_n 0, 1) := by decide +kernel
theorem dX10_force_27 : decode cX10_force 27 = .ok (.getfield 10, 3) := by decide +kernel
theorem dX10_force_30 : decode cX10_force 30 = .ok (.getfield 67, 3) := by decide +kernel
theorem dX10_force_33 : decode cX10_force 33 = .ok (.invokestatic 43, 3) := by decide +kernel
theorem dX10_force_36 : decode cX10_force 36 = .ok (.ifCond .ne 5, 3) := by decide +kernel
theorem dX10_force_39 : decode cX10_force 39 = .ok (.iconst (-1), 1) := by decide +kernel
theorem dX10_force_40 : decode cX10_force 40 = .ok (.ireturn, 1) := by decide +kernel
theorem dX10_force_41 : decode cX10_force 41 = .ok (.aload_n 0, 1) := by decide +kernel
theorem dX10_force_42 : decode cX10_force 42 = .ok (.getfield 10, 3) := by decide +kernel
theorem dX10_force_45 : decode cX10_force 45 = .ok (.iload_n 1, 1) := by decide +kernel
theorem dX10_force_46 : decode cX10_force 46 = .ok (.iload_n 2, 1) := by decide +kernel
theorem dX10_force_47 : decode cX10_force 47 = .ok (.iload_n 3, 1) := by decide +kernel
theorem dX10_force_48 : decode cX10_force 48 = .ok (.invokevirtual 88, 3) := by decide +kernel
theorem dX10_force_51 : decode cX10_force 51 = .ok (.ireturn, 1) := by decide +kernel
theorem dX10_tube_0 : decode cX10_tube 0 = .ok (.iload_n 1, 1) := by decide +kernel
theorem dX10_tube_1 : decode cX10_tube 1 = .ok (.iconst 1, 1) := by decide +kernel
theorem dX10_tube_2 : decode cX10_tube 2 = .ok (.iconst 4, 1) := by decide +kernel
theorem dX10_tube_3 : decode cX10_tube 3 = .ok (.invokestatic 43, 3) := by decide +kernel
theorem dX10_tube_6 : decode cX10_tube 6 = .ok (.ifCond .eq 16, 3) := by decide +kernel
theorem dX10_tube_9 : decode cX10_tube 9 = .ok (.aload_n 0, 1) := by decide +kernel
theorem dX10_tube_10 : decode cX10_tube 10 = .ok (.getfield 10, 3) := by decide +kernel
theorem dX10_tube_13 : decode cX10_tube 13 = .ok (.getfield 91, 3) := by decide +kernel
theorem dX10_tube_16 : decode cX10_tube 16 = .ok (.sipush 200, 3) := by decide +kernel
theorem dX10_tube_19 : decode cX10_tube 19 = .ok (.if_icmp .lt 5, 3) := by decide +kernel
theorem dX10_tube_22 : decode cX10_tube 22 = .ok (.iconst (-1), 1) := by decide +kernel
theorem dX10_tube_23 : decode cX10_tube 23 = .ok (.ireturn, 1) := by decide +kernel
theorem dX10_tube_24 : decode cX10_tube 24 = .ok (.new 94, 3) := by decide +kernel
theorem dX10_tube_27 : decode cX10_tube 27 = .ok (.dup, 1) := by decide +kernel
theorem dX10_tube_28 : decode cX10_tube 28 = .ok (.aload_n 0, 1) := by decide +kernel
theorem dX10_tube_29 : decode cX10_tube 29 = .ok (.getfield 10, 3) := by decide +kernel
theorem dX10_tube_32 : decode cX10_tube 32 = .ok (.getfield 91, 3) := by decide +kernel
theorem dX10_tube_35 : decode cX10_tube 35 = .ok (.iconst 0, 1) := by decide +kernel
theorem dX10_tube_36 : decode cX10_tube 36 = .ok (.iload_n 1, 1) := by decide +kernel
theorem dX10_tube_37 : decode cX10_tube 37 = .ok (.aload_n 0, 1) := by decide +kernel
theorem dX10_tube_38 : decode cX10_tube 38 = .ok (.getfield 10, 3) := by decide +kernel
theorem dX10_tube_41 : decode cX10_tube 41 = .ok (.getfield 67, 3) := by decide +kernel
theorem dX10_tube_44 : decode cX10_tube 44 = .ok (.invokespecial 96, 3) := by decide +kernel
theorem dX10_tube_47 : decode cX10_tube 47 = .ok (.astore_n 2, 1) := by decide +kernel
theorem dX10_tube_48 : decode cX10_tube 48 = .ok (.aload_n 2, 1) := by decide +kernel
theorem dX10_tube_49 : decode cX10_tube 49 = .ok (.bipush 100, 2) := by decide +kernel
theorem dX10_tube_51 : decode cX10_tube 51 = .ok (.invokevirtual 99, 3) := by decide +kernel
theorem dX10_tube_54 : decode cX10_tube 54 = .ok (.aload_n 0, 1) := by decide +kernel
theorem dX10_tube_55 : decode cX10_tube 55 = .ok (.getfield 10, 3) := by decide +kernel
theorem dX10_tube_58 : decode cX10_tube 58 = .ok (.aload_n 2, 1) := by decide +kernel
theorem dX10_tube_59 : decode cX10_tube 59 = .ok (.invokevirtual 103, 3) := by decide +kernel
theorem dX10_tube_62 : decode cX10_tube 62 = .ok (.ireturn, 1) := by decide +kernel
theorem dX10_sow_0 : decode cX10_sow 0 = .ok (.aload_n 0, 1) := by decide +kernel
theorem dX10_sow_1 : decode cX10_sow 1 = .ok (.getfield 10, 3) := by decide +kernel
theorem dX10_sow_4 : decode cX10_sow 4 = .ok (.iload_n 1, 1) := by decide +kernel
theorem dX10_sow_5 : decode cX10_sow 5 = .ok (.invokevirtual 107, 3) := by decide +kernel
theorem dX10_sow_8 : decode cX10_sow 8 = .ok (.astore 4, 2) := by decide +kernel
theorem dX10_sow_10 : decode cX10_sow 10 = .ok (.aload_n 0, 1) := by decide +kernel
theorem dX10_sow_11 : decode cX10_sow 11 = .ok (.getfield 10, 3) := by decide +kernel
theorem dX10_sow_14 : decode cX10_sow 14 = .ok (.iload_n 2, 1) := by decide +kernel
theorem dX10_sow_15 : decode cX10_sow 15 = .ok (.invokevirtual 60, 3) := by decide +kernel
theorem dX10_sow_18 : decode cX10_sow 18 = .ok (.astore 5, 2) := by decide +kernel
theorem dX10_sow_20 : decode cX10_sow 20 = .ok (.aload 4, 2) := by decide +kernel
theorem dX10_sow_22 : decode cX10_sow 22 = .ok (.ifnull 30, 3) := by decide +kernel
theorem dX10_sow_25 : decode cX10_sow 25 = .ok (.aload 5, 2) := by decide +kernel
theorem dX10_sow_27 : decode cX10_sow 27 = .ok (.ifnull 25, 3) := by decide +kernel
theorem dX10_sow_30 : decode cX10_sow 30 = .ok (.aload 4, 2) := by decide +kernel
theorem dX10_sow_32 : decode cX10_sow 32 = .ok (.iload_n 3, 1) := by decide +kernel
theorem dX10_sow_33 : decode cX10_sow 33 = .ok (.invokevirtual 111, 3) := by decide +kernel
theorem dX10_sow_36 : decode cX10_sow 36 = .ok (.ifCond .eq 16, 3) := by decide +kernel
theorem dX10_sow_39 : decode cX10_sow 39 = .ok (.aload_n 0, 1) := by decide +kernel
theorem dX10_sow_40 : decode cX10_sow 40 = .ok (.getfield 10, 3) := by decide +kernel
theorem dX10_sow_43 : decode cX10_sow 43 = .ok (.getfield 91, 3) := by decide +kernel
theorem dX10_sow_46 : decode cX10_sow 46 = .ok (.sipush 200, 3) := by decide +kernel
theorem dX10_sow_49 : decode cX10_sow 49 = .ok (.if_icmp .lt 5, 3) := by decide +kernel
theorem dX10_sow_52 : decode cX10_sow 52 = .ok (.iconst (-1), 1) := by decide +kernel
theorem dX10_sow_53 : decode cX10_sow 53 = .ok (.ireturn, 1) := by decide +kernel
theorem dX10_sow_54 : decode cX10_sow 54 = .ok (.aload 4, 2) := by decide +kernel
theorem dX10_sow_56 : decode cX10_sow 56 = .ok (.getfield 115, 3) := by decide +kernel
theorem dX10_sow_59 : decode cX10_sow 59 = .ok (.ifCond .eq 22, 3) := by decide +kernel
theorem dX10_sow_62 : decode cX10_sow 62 = .ok (.aload 4, 2) := by decide +kernel
theorem dX10_sow_64 : decode cX10_sow 64 = .ok (.getfield 118, 3) := by decide +kernel
theorem dX10_sow_67 : decode cX10_sow 67 = .ok (.aload_n 0, 1) := by decide +kernel
theorem dX10_sow_68 : decode cX10_sow 68 = .ok (.getfield 10, 3) := by decide +kernel
theorem dX10_sow_71 : decode cX10_sow 71 = .ok (.getfield 67, 3) := by decide +kernel
theorem dX10_sow_74 : decode cX10_sow 74 = .ok (.if_icmp .ne 7, 3) := by decide +kernel
theorem dX10_sow_77 : decode cX10_sow 77 = .ok (.iconst 1, 1) := by decide +kernel
theorem dX10_sow_78 : decode cX10_sow 78 = .ok (.goto 4, 3) := by decide +kernel
theorem dX10_sow_81 : decode cX10_sow 81 = .ok (.iconst 0, 1) := by decide +kernel
theorem dX10_sow_82 : decode cX10_sow 82 = .ok (.istore 6, 2) := by decide +kernel
theorem dX10_sow_84 : decode cX10_sow 84 = .ok (.iload 6, 2) := by decide +kernel
theorem dX10_sow_86 : decode cX10_sow 86 = .ok (.ifCond .ne 18, 3) := by decide +kernel
theorem dX10_sow_89 : decode cX10_sow 89 = .ok (.aload 5, 2) := by decide +kernel
theorem dX10_sow_91 : decode cX10_sow 91 = .ok (.aload_n 0, 1) := by decide +kernel
theorem dX10_sow_92 : decode cX10_sow 92 = .ok (.getfield 10, 3) := by decide +kernel
theorem dX10_sow_95 : decode cX10_sow 95 = .ok (.getfield 67, 3) := by decide +kernel
theorem dX10_sow_98 : decode cX10_sow 98 = .ok (.invokevirtual 121, 3) := by decide +kernel
theorem dX10_sow_101 : decode cX10_sow 101 = .ok (.ifnull 5, 3) := by decide +kernel
theorem dX10_sow_104 : decode cX10_sow 104 = .ok (.iconst (-1), 1) := by decide +kernel
theorem dX10_sow_105 : decode cX10_sow 105 = .ok (.ireturn, 1) := by decide +kernel
theorem dX10_sow_106 : decode cX10_sow 106 = .ok (.new 94, 3) := by decide +kernel
theorem dX10_sow_109 : decode cX10_sow 109 = .ok (.dup, 1) := by decide +kernel
theorem dX10_sow_110 : decode cX10_sow 110 = .ok (.aload_n 0, 1) := by decide +kernel
theorem dX10_sow_111 : decode cX10_sow 111 = .ok (.getfield 10, 3) := by decide +kernel
theorem dX10_sow_114 : decode cX10_sow 114 = .ok (.getfield 91, 3) := by decide +kernel
theorem dX10_sow_117 : decode cX10_sow 117 = .ok (.iconst 1, 1) := by decide +kernel
theorem dX10_sow_118 : decode cX10_sow 118 = .ok (.aload 4, 2) := by decide +kernel
theorem dX10_sow_120 : decode cX10_sow 120 = .ok (.getfield 124, 3) := by decide +kernel
theorem dX10_sow_123 : decode cX10_sow 123 = .ok (.aload_n 0, 1) := by decide +kernel
theorem dX10_sow_124 : decode cX10_sow 124 = .ok (.getfield 10, 3) := by decide +kernel
theorem dX10_sow_127 : decode cX10_sow 127 = .ok (.getfield 67, 3) := by decide +kernel
theorem dX10_sow_130 : decode cX10_sow 130 = .ok (.invokespecial 96, 3) := by decide +kernel
theorem dX10_sow_133 : decode cX10_sow 133 = .ok (.astore 7, 2) := by decide +kernel
theorem dX10_sow_135 : decode cX10_sow 135 = .ok (.aload 7, 2) := by decide +kernel
theorem dX10_sow_137 : decode cX10_sow 137 = .ok (.aload 4, 2) := by decide +kernel
theorem dX10_sow_139 : decode cX10_sow 139 = .ok (.putfield 127, 3) := by decide +kernel
theorem dX10_sow_142 : decode cX10_sow 142 = .ok (.aload 7, 2) := by decide +kernel
theorem dX10_sow_144 : decode cX10_sow 144 = .ok (.aload 5, 2) := by decide +kernel
theorem dX10_sow_146 : decode cX10_sow 146 = .ok (.putfield 131, 3) := by decide +kernel
theorem dX10_sow_149 : decode cX10_sow 149 = .ok (.aload 5, 2) := by decide +kernel
theorem dX10_sow_151 : decode cX10_sow 151 = .ok (.aload 7, 2) := by decide +kernel
theorem dX10_sow_153 : decode cX10_sow 153 = .ok (.invokevirtual 135, 3) := by decide +kernel
theorem dX10_sow_156 : decode cX10_sow 156 = .ok (.aload 4, 2) := by decide +kernel
theorem dX10_sow_158 : decode cX10_sow 158 = .ok (.dup, 1) := by decide +kernel
theorem dX10_sow_159 : decode cX10_sow 159 = .ok (.getfield 139, 3) := by decide +kernel
theorem dX10_sow_162 : decode cX10_sow 162 = .ok (.iload_n 3, 1) := by decide +kernel
theorem dX10_sow_163 : decode cX10_sow 163 = .ok (.isub, 1) := by decide +kernel
theorem dX10_sow_164 : decode cX10_sow 164 = .ok (.putfield 139, 3) := by decide +kernel
theorem dX10_sow_167 : decode cX10_sow 167 = .ok (.aload 4, 2) := by decide +kernel
theorem dX10_sow_169 : decode cX10_sow 169 = .ok (.dup, 1) := by decide +kernel
theorem dX10_sow_170 : decode cX10_sow 170 = .ok (.getfield 142, 3) := by decide +kernel
theorem dX10_sow_173 : decode cX10_sow 173 = .ok (.iload_n 3, 1) := by decide +kernel
theorem dX10_sow_174 : decode cX10_sow 174 = .ok (.iadd, 1) := by decide +kernel
theorem dX10_sow_175 : decode cX10_sow 175 = .ok (.putfield 142, 3) := by decide +kernel
theorem dX10_sow_178 : decode cX10_sow 178 = .ok (.aload_n 0, 1) := by decide +kernel
theorem dX10_sow_179 : decode cX10_sow 179 = .ok (.getfield 10, 3) := by decide +kernel
theorem dX10_sow_182 : decode cX10_sow 182 = .ok (.aload 7, 2) := by decide +kernel
theorem dX10_sow_184 : decode cX10_sow 184 = .ok (.invokevirtual 103, 3) := by decide +kernel
theorem dX10_sow_187 : decode cX10_sow 187 = .ok (.ireturn, 1) := by decide +kernel
theorem dX10_harvest_0 : decode cX10_harvest 0 = .ok (.aload_n 0, 1) := by decide +kernel
theorem dX10_harvest_1 : decode cX10_harvest 1 = .ok (.getfield 10, 3) := by decide +kernel
theorem dX10_harvest_4 : decode cX10_harvest 4 = .ok (.iload_n 1, 1) := by decide +kernel
theorem dX10_harvest_5 : decode cX10_harvest 5 = .ok (.invokevirtual 107, 3) := by decide +kernel
theorem dX10_harvest_8 : decode cX10_harvest 8 = .ok (.astore_n 3, 1) := by decide +kernel
theorem dX10_harvest_9 : decode cX10_harvest 9 = .ok (.aload_n 3, 1) := by decide +kernel
theorem dX10_harvest_10 : decode cX10_harvest 10 = .ok (.ifnull 29, 3) := by decide +kernel
theorem dX10_harvest_13 : decode cX10_harvest 13 = .ok (.aload_n 3, 1) := by decide +kernel
theorem dX10_harvest_14 : decode cX10_harvest 14 = .ok (.getfield 115, 3) := by decide +kernel
theorem dX10_harvest_17 : decode cX10_harvest 17 = .ok (.iconst 1, 1) := by decide +kernel
theorem dX10_harvest_18 : decode cX10_harvest 18 = .ok (.if_icmp .ne 21, 3) := by decide +kernel
theorem dX10_harvest_21 : decode cX10_harvest 21 = .ok (.aload_n 3, 1) := by decide +kernel
theorem dX10_harvest_22 : decode cX10_harvest 22 = .ok (.getfield 145, 3) := by decide +kernel
theorem dX10_harvest_25 : decode cX10_harvest 25 = .ok (.iconst (-1), 1) := by decide +kernel
theorem dX10_harvest_26 : decode cX10_harvest 26 = .ok (.if_icmp .ne 13, 3) := by decide +kernel
theorem dX10_harvest_29 : decode cX10_harvest 29 = .ok (.iload_n 2, 1) := by decide +kernel
theorem dX10_harvest_30 : decode cX10_harvest 30 = .ok (.iconst 1, 1) := by decide +kernel
theorem dX10_harvest_31 : decode cX10_harvest 31 = .ok (.ldc 148, 2) := by decide +kernel
theorem dX10_harvest_33 : decode cX10_harvest 33 = .ok (.invokestatic 43, 3) := by decide +kernel
theorem dX10_harvest_36 : decode cX10_harvest 36 = .ok (.ifCond .ne 5, 3) := by decide +kernel
theorem dX10_harvest_39 : decode cX10_harvest 39 = .ok (.iconst 0, 1) := by decide +kernel
theorem dX10_harvest_40 : decode cX10_harvest 40 = .ok (.ireturn, 1) := by decide +kernel
theorem dX10_harvest_41 : decode cX10_harvest 41 = .ok (.aload_n 3, 1) := by decide +kernel
theorem dX10_harvest_42 : decode cX10_harvest 42 = .ok (.iload_n 2, 1) := by decide +kernel
theorem dX10_harvest_43 : decode cX10_harvest 43 = .ok (.invokevirtual 99, 3) := by decide +kernel
theorem dX10_harvest_46 : decode cX10_harvest 46 = .ok (.iconst 1, 1) := by decide +kernel
theorem dX10_harvest_47 : decode cX10_harvest 47 = .ok (.ireturn, 1) := by decide +kernel
theorem dX10_mix_0 : decode cX10_mix 0 = .ok (.aload_n 0, 1) := by decide +kernel
theorem dX10_mix_1 : decode cX10_mix 1 = .ok (.getfield 10, 3) := by decide +kernel
theorem dX10_mix_4 : decode cX10_mix 4 = .ok (.iload_n 1, 1) := by decide +kernel
theorem dX10_mix_5 : decode cX10_mix 5 = .ok (.invokevirtual 107, 3) := by decide +kernel
theorem dX10_mix_8 : decode cX10_mix 8 = .ok (.astore 5, 2) := by decide +kernel
theorem dX10_mix_10 : decode cX10_mix 10 = .ok (.aload_n 0, 1) := by decide +kernel
theorem dX10_mix_11 : decode cX10_mix 11 = .ok (.getfield 10, 3) := by decide +kernel
theorem dX10_mix_14 : decode cX10_mix 14 = .ok (.iload_n 3, 1) := by decide +kernel
theorem dX10_mix_15 : decode cX10_mix 15 = .ok (.invokevirtual 107, 3) := by decide +kernel
theorem dX10_mix_18 : decode cX10_mix 18 = .ok (.astore 6, 2) := by decide +kernel
theorem dX10_mix_20 : decode cX10_mix 20 = .ok (.aload 5, 2) := by decide +kernel
theorem dX10_mix_22 : decode cX10_mix 22 = .ok (.ifnull 60, 3) := by decide +kernel
theorem dX10_mix_25 : decode cX10_mix 25 = .ok (.aload 6, 2) := by decide +kernel
theorem dX10_mix_27 : decode cX10_mix 27 = .ok (.ifnull 55, 3) := by decide +kernel
theorem dX10_mix_30 : decode cX10_mix 30 = .ok (.aload 5, 2) := by decide +kernel
theorem dX10_mix_32 : decode cX10_mix 32 = .ok (.aload 6, 2) := by decide +kernel
theorem dX10_mix_34 : decode cX10_mix 34 = .ok (.if_acmp .eq 48, 3) := by decide +kernel
theorem dX10_mix_37 : decode cX10_mix 37 = .ok (.aload 5, 2) := by decide +kernel
theorem dX10_mix_39 : decode cX10_mix 39 = .ok (.getfield 124, 3) := by decide +kernel
theorem dX10_mix_42 : decode cX10_mix 42 = .ok (.aload 6, 2) := by decide +kernel
theorem dX10_mix_44 : decode cX10_mix 44 = .ok (.getfield 124, 3) := by decide +kernel
theorem dX10_mix_47 : decode cX10_mix 47 = .ok (.if_icmp .ne 35, 3) := by decide +kernel
theorem dX10_mix_50 : decode cX10_mix 50 = .ok (.aload 5, 2) := by decide +kernel
theorem dX10_mix_52 : decode cX10_mix 52 = .ok (.iload_n 2, 1) := by decide +kernel
theorem dX10_mix_53 : decode cX10_mix 53 = .ok (.invokevirtual 111, 3) := by decide +kernel
theorem dX10_mix_56 : decode cX10_mix 56 = .ok (.ifCond .eq 26, 3) := by decide +kernel
theorem dX10_mix_59 : decode cX10_mix 59 = .ok (.aload 6, 2) := by decide +kernel
theorem dX10_mix_61 : decode cX10_mix 61 = .ok (.iload 4, 2) := by decide +kernel
theorem dX10_mix_63 : decode cX10_mix 63 = .ok (.invokevirtual 111, 3) := by decide +kernel
theorem dX10_mix_66 : decode cX10_mix 66 = .ok (.ifCond .eq 16, 3) := by decide +kernel
theorem dX10_mix_69 : decode cX10_mix 69 = .ok (.aload_n 0, 1) := by decide +kernel
theorem dX10_mix_70 : decode cX10_mix 70 = .ok (.getfield 10, 3) := by decide +kernel
theorem dX10_mix_73 : decode cX10_mix 73 = .ok (.getfield 91, 3) := by decide +kernel
theorem dX10_mix_76 : decode cX10_mix 76 = .ok (.sipush 200, 3) := by decide +kernel
theorem dX10_mix_79 : decode cX10_mix 79 = .ok (.if_icmp .lt 5, 3) := by decide +kernel
theorem dX10_mix_82 : decode cX10_mix 82 = .ok (.iconst (-1), 1) := by decide +kernel
theorem dX10_mix_83 : decode cX10_mix 83 = .ok (.ireturn, 1) := by decide +kernel
theorem dX10_mix_84 : decode cX10_mix 84 = .ok (.new 94, 3) := by decide +kernel
theorem dX10_mix_87 : decode cX10_mix 87 = .ok (.dup, 1) := by decide +kernel
theorem dX10_mix_88 : decode cX10_mix 88 = .ok (.aload_n 0, 1) := by decide +kernel
theorem dX10_mix_89 : decode cX10_mix 89 = .ok (.getfield 10, 3) := by decide +kernel
theorem dX10_mix_92 : decode cX10_mix 92 = .ok (.getfield 91, 3) := by decide +kernel
theorem dX10_mix_95 : decode cX10_mix 95 = .ok (.iconst 2, 1) := by decide +kernel
theorem dX10_mix_96 : decode cX10_mix 96 = .ok (.aload 5, 2) := by decide +kernel
theorem dX10_mix_98 : decode cX10_mix 98 = .ok (.getfield 124, 3) := by decide +kernel
theorem dX10_mix_101 : decode cX10_mix 101 = .ok (.aload_n 0, 1) := by decide +kernel
theorem dX10_mix_102 : decode cX10_mix 102 = .ok (.getfield 10, 3) := by decide +kernel
theorem dX10_mix_105 : decode cX10_mix 105 = .ok (.getfield 67, 3) := by decide +kernel
theorem dX10_mix_108 : decode cX10_mix 108 = .ok (.invokespecial 96, 3) := by decide +kernel
theorem dX10_mix_111 : decode cX10_mix 111 = .ok (.astore 7, 2) := by decide +kernel
theorem dX10_mix_113 : decode cX10_mix 113 = .ok (.aload 7, 2) := by decide +kernel
theorem dX10_mix_115 : decode cX10_mix 115 = .ok (.aload 5, 2) := by decide +kernel
theorem dX10_mix_117 : decode cX10_mix 117 = .ok (.putfield 127, 3) := by decide +kernel
theorem dX10_mix_120 : decode cX10_mix 120 = .ok (.aload 7, 2) := by decide +kernel
theorem dX10_mix_122 : decode cX10_mix 122 = .ok (.aload 6, 2) := by decide +kernel
theorem dX10_mix_124 : decode cX10_mix 124 = .ok (.putfield 149, 3) := by decide +kernel
theorem dX10_mix_127 : decode cX10_mix 127 = .ok (.aload 7, 2) := by decide +kernel
theorem dX10_mix_129 : decode cX10_mix 129 = .ok (.iload_n 2, 1) := by decide +kernel
theorem dX10_mix_130 : decode cX10_mix 130 = .ok (.iload 4, 2) := by decide +kernel
theorem dX10_mix_132 : decode cX10_mix 132 = .ok (.iadd, 1) := by decide +kernel
theorem dX10_mix_133 : decode cX10_mix 133 = .ok (.invokevirtual 99, 3) := by decide +kernel
theorem dX10_mix_136 : decode cX10_mix 136 = .ok (.aload 5, 2) := by decide +kernel
theorem dX10_mix_138 : decode cX10_mix 138 = .ok (.dup, 1) := by decide +kernel
theorem dX10_mix_139 : decode cX10_mix 139 = .ok (.getfield 139, 3) := by decide +kernel
theorem dX10_mix_142 : decode cX10_mix 142 = .ok (.iload_n 2, 1) := by decide +kernel
theorem dX10_mix_143 : decode cX10_mix 143 = .ok (.isub, 1) := by decide +kernel
theorem dX10_mix_144 : decode cX10_mix 144 = .ok (.putfield 139, 3) := by decide +kernel
theorem dX10_mix_147 : decode cX10_mix 147 = .ok (.aload 5, 2) := by decide +kernel
theorem dX10_mix_149 : decode cX10_mix 149 = .ok (.dup, 1) := by decide +kernel
theorem dX10_mix_150 : decode cX10_mix 150 = .ok (.getfield 152, 3) := by decide +kernel
theorem dX10_mix_153 : decode cX10_mix 153 = .ok (.iload_n 2, 1) := by decide +kernel
theorem dX10_mix_154 : decode cX10_mix 154 = .ok (.iadd, 1) := by decide +kernel
theorem dX10_mix_155 : decode cX10_mix 155 = .ok (.putfield 152, 3) := by decide +kernel
theorem dX10_mix_158 : decode cX10_mix 158 = .ok (.aload 6, 2) := by decide +kernel
theorem dX10_mix_160 : decode cX10_mix 160 = .ok (.dup, 1) := by decide +kernel
theorem dX10_mix_161 : decode cX10_mix 161 = .ok (.getfield 139, 3) := by decide +kernel
theorem dX10_mix_164 : decode cX10_mix 164 = .ok (.iload 4, 2) := by decide +kernel
theorem dX10_mix_166 : decode cX10_mix 166 = .ok (.isub, 1) := by decide +kernel
theorem dX10_mix_167 : decode cX10_mix 167 = .ok (.putfield 139, 3) := by decide +kernel
theorem dX10_mix_170 : decode cX10_mix 170 = .ok (.aload 6, 2) := by decide +kernel
theorem dX10_mix_172 : decode cX10_mix 172 = .ok (.dup, 1) := by decide +kernel
theorem dX10_mix_173 : decode cX10_mix 173 = .ok (.getfield 152, 3) := by decide +kernel
theorem dX10_mix_176 : decode cX10_mix 176 = .ok (.iload 4, 2) := by decide +kernel
theorem dX10_mix_178 : decode cX10_mix 178 = .ok (.iadd, 1) := by decide +kernel
theorem dX10_mix_179 : decode cX10_mix 179 = .ok (.putfield 152, 3) := by decide +kernel
theorem dX10_mix_182 : decode cX10_mix 182 = .ok (.aload_n 0, 1) := by decide +kernel
theorem dX10_mix_183 : decode cX10_mix 183 = .ok (.getfield 10, 3) := by decide +kernel
theorem dX10_mix_186 : decode cX10_mix 186 = .ok (.aload 7, 2) := by decide +kernel
theorem dX10_mix_188 : decode cX10_mix 188 = .ok (.invokevirtual 103, 3) := by decide +kernel
theorem dX10_mix_191 : decode cX10_mix 191 = .ok (.ireturn, 1) := by decide +kernel
theorem dX10_bag_0 : decode cX10_bag 0 = .ok (.aload_n 0, 1) := by decide +kernel
theorem dX10_bag_1 : decode cX10_bag 1 = .ok (.getfield 10, 3) := by decide +kernel
theorem dX10_bag_4 : decode cX10_bag 4 = .ok (.iload_n 1, 1) := by decide +kernel
theorem dX10_bag_5 : decode cX10_bag 5 = .ok (.invokevirtual 107, 3) := by decide +kernel
theorem dX10_bag_8 : decode cX10_bag 8 = .ok (.astore_n 3, 1) := by decide +kernel
theorem dX10_bag_9 : decode cX10_bag 9 = .ok (.aload_n 3, 1) := by decide +kernel
theorem dX10_bag_10 : decode cX10_bag 10 = .ok (.ifnull 32, 3) := by decide +kernel
theorem dX10_bag_13 : decode cX10_bag 13 = .ok (.aload_n 3, 1) := by decide +kernel
theorem dX10_bag_14 : decode cX10_bag 14 = .ok (.iload_n 2, 1) := by decide +kernel
theorem dX10_bag_15 : decode cX10_bag 15 = .ok (.invokevirtual 111, 3) := by decide +kernel
theorem dX10_bag_18 : decode cX10_bag 18 = .ok (.ifCond .eq 24, 3) := by decide +kernel
theorem dX10_bag_21 : decode cX10_bag 21 = .ok (.aload_n 0, 1) := by decide +kernel
theorem dX10_bag_22 : decode cX10_bag 22 = .ok (.getfield 10, 3) := by decide +kernel
theorem dX10_bag_25 : decode cX10_bag 25 = .ok (.getfield 155, 3) := by decide +kernel
theorem dX10_bag_28 : decode cX10_bag 28 = .ok (.sipush 200, 3) := by decide +kernel
theorem dX10_bag_31 : decode cX10_bag 31 = .ok (.if_icmp .ge 11, 3) := by decide +kernel
theorem dX10_bag_34 : decode cX10_bag 34 = .ok (.aload_n 0, 1) := by decide +kernel
theorem dX10_bag_35 : decode cX10_bag 35 = .ok (.aload_n 3, 1) := by decide +kernel
theorem dX10_bag_36 : decode cX10_bag 36 = .ok (.invokevirtual 158, 3) := by decide +kernel
theorem dX10_bag_39 : decode cX10_bag 39 = .ok (.ifCond .eq 5, 3) := by decide +kernel
theorem dX10_bag_42 : decode cX10_bag 42 = .ok (.iconst (-1), 1) := by decide +kernel
theorem dX10_bag_43 : decode cX10_bag 43 = .ok (.ireturn, 1) := by decide +kernel
theorem dX10_bag_44 : decode cX10_bag 44 = .ok (.aload_n 3, 1) := by decide +kernel
theorem dX10_bag_45 : decode cX10_bag 45 = .ok (.dup, 1) := by decide +kernel
theorem dX10_bag_46 : decode cX10_bag 46 = .ok (.getfield 139, 3) := by decide +kernel
theorem dX10_bag_49 : decode cX10_bag 49 = .ok (.iload_n 2, 1) := by decide +kernel
theorem dX10_bag_50 : decode cX10_bag 50 = .ok (.isub, 1) := by decide +kernel
theorem dX10_bag_51 : decode cX10_bag 51 = .ok (.putfield 139, 3) := by decide +kernel
theorem dX10_bag_54 : decode cX10_bag 54 = .ok (.aload_n 3, 1) := by decide +kernel
theorem dX10_bag_55 : decode cX10_bag 55 = .ok (.dup, 1) := by decide +kernel
theorem dX10_bag_56 : decode cX10_bag 56 = .ok (.getfield 162, 3) := by decide +kernel
theorem dX10_bag_59 : decode cX10_bag 59 = .ok (.iload_n 2, 1) := by decide +kernel
theorem dX10_bag_60 : decode cX10_bag 60 = .ok (.iadd, 1) := by decide +kernel
theorem dX10_bag_61 : decode cX10_bag 61 = .ok (.putfield 162, 3) := by decide +kernel
theorem dX10_bag_64 : decode cX10_bag 64 = .ok (.aload_n 0, 1) := by decide +kernel
theorem dX10_bag_65 : decode cX10_bag 65 = .ok (.getfield 10, 3) := by decide +kernel
theorem dX10_bag_68 : decode cX10_bag 68 = .ok (.new 165, 3) := by decide +kernel
theorem dX10_bag_71 : decode cX10_bag 71 = .ok (.dup, 1) := by decide +kernel
theorem dX10_bag_72 : decode cX10_bag 72 = .ok (.aload_n 3, 1) := by decide +kernel
theorem dX10_bag_73 : decode cX10_bag 73 = .ok (.iload_n 2, 1) := by decide +kernel
theorem dX10_bag_74 : decode cX10_bag 74 = .ok (.aload_n 0, 1) := by decide +kernel
theorem dX10_bag_75 : decode cX10_bag 75 = .ok (.getfield 10, 3) := by decide +kernel
theorem dX10_bag_78 : decode cX10_bag 78 = .ok (.invokevirtual 167, 3) := by decide +kernel
theorem dX10_bag_81 : decode cX10_bag 81 = .ok (.invokespecial 171, 3) := by decide +kernel
theorem dX10_bag_84 : decode cX10_bag 84 = .ok (.invokevirtual 174, 3) := by decide +kernel
theorem dX10_bag_87 : decode cX10_bag 87 = .ok (.ireturn, 1) := by decide +kernel
theorem dX10_open_0 : decode cX10_open 0 = .ok (.aload_n 0, 1) := by decide +kernel
theorem dX10_open_1 : decode cX10_open 1 = .ok (.getfield 10, 3) := by decide +kernel
theorem dX10_open_4 : decode cX10_open 4 = .ok (.iload_n 1, 1) := by decide +kernel
theorem dX10_open_5 : decode cX10_open 5 = .ok (.invokevirtual 178, 3) := by decide +kernel
theorem dX10_open_8 : decode cX10_open 8 = .ok (.astore_n 2, 1) := by decide +kernel
theorem dX10_open_9 : decode cX10_open 9 = .ok (.aload_n 2, 1) := by decide +kernel
theorem dX10_open_10 : decode cX10_open 10 = .ok (.ifnull 10, 3) := by decide +kernel
theorem dX10_open_13 : decode cX10_open 13 = .ok (.aload_n 2, 1) := by decide +kernel
theorem dX10_open_14 : decode cX10_open 14 = .ok (.invokevirtual 182, 3) := by decide +kernel
theorem dX10_open_17 : decode cX10_open 17 = .ok (.ifCond .eq 5, 3) := by decide +kernel
theorem dX10_open_20 : decode cX10_open 20 = .ok (.iconst 0, 1) := by decide +kernel
theorem dX10_open_21 : decode cX10_open 21 = .ok (.ireturn, 1) := by decide +kernel
theorem dX10_open_22 : decode cX10_open 22 = .ok (.aload_n 2, 1) := by decide +kernel
theorem dX10_open_23 : decode cX10_open 23 = .ok (.iconst 0, 1) := by decide +kernel
theorem dX10_open_24 : decode cX10_open 24 = .ok (.putfield 186, 3) := by decide +kernel
theorem dX10_open_27 : decode cX10_open 27 = .ok (.iconst 1, 1) := by decide +kernel
theorem dX10_open_28 : decode cX10_open 28 = .ok (.ireturn, 1) := by decide +kernel
theorem dX10_seal_0 : decode cX10_seal 0 = .ok (.aload_n 0, 1) := by decide +kernel
theorem dX10_seal_1 : decode cX10_seal 1 = .ok (.getfield 10, 3) := by decide +kernel
theorem dX10_seal_4 : decode cX10_seal 4 = .ok (.iload_n 1, 1) := by decide +kernel
theorem dX10_seal_5 : decode cX10_seal 5 = .ok (.invokevirtual 178, 3) := by decide +kernel
theorem dX10_seal_8 : decode cX10_seal 8 = .ok (.astore_n 2, 1) := by decide +kernel
theorem dX10_seal_9 : decode cX10_seal 9 = .ok (.aload_n 2, 1) := by decide +kernel
theorem dX10_seal_10 : decode cX10_seal 10 = .ok (.ifnull 28, 3) := by decide +kernel
theorem dX10_seal_13 : decode cX10_seal 13 = .ok (.aload_n 2, 1) := by decide +kernel
theorem dX10_seal_14 : decode cX10_seal 14 = .ok (.invokevirtual 182, 3) := by decide +kernel
theorem dX10_seal_17 : decode cX10_seal 17 = .ok (.ifCond .eq 21, 3) := by decide +kernel
theorem dX10_seal_20 : decode cX10_seal 20 = .ok (.aload_n 2, 1) := by decide +kernel
theorem dX10_seal_21 : decode cX10_seal 21 = .ok (.invokevirtual 189, 3) := by decide +kernel
theorem dX10_seal_24 : decode cX10_seal 24 = .ok (.ifCond .ne 14, 3) := by decide +kernel
theorem dX10_seal_27 : decode cX10_seal 27 = .ok (.aload_n 0, 1) := by decide +kernel
theorem dX10_seal_28 : decode cX10_seal 28 = .ok (.aload_n 2, 1) := by decide +kernel
theorem dX10_seal_29 : decode cX10_seal 29 = .ok (.getfield 192, 3) := by decide +kernel
theorem dX10_seal_32 : decode cX10_seal 32 = .ok (.invokevirtual 158, 3) := by decide +kernel
theorem dX10_seal_35 : decode cX10_seal 35 = .ok (.ifCond .eq 5, 3) := by decide +kernel
theorem dX10_seal_38 : decode cX10_seal 38 = .ok (.iconst (-1), 1) := by decide +kernel
theorem dX10_seal_39 : decode cX10_seal 39 = .ok (.ireturn, 1) := by decide +kernel
theorem dX10_seal_40 : decode cX10_seal 40 = .ok (.aload_n 2, 1) := by decide +kernel
theorem dX10_seal_41 : decode cX10_seal 41 = .ok (.aload_n 0, 1) := by decide +kernel
theorem dX10_seal_42 : decode cX10_seal 42 = .ok (.getfield 10, 3) := by decide +kernel
theorem dX10_seal_45 : decode cX10_seal 45 = .ok (.invokevirtual 167, 3) := by decide +kernel
theorem dX10_seal_48 : decode cX10_seal 48 = .ok (.putfield 186, 3) := by decide +kernel
theorem dX10_seal_51 : decode cX10_seal 51 = .ok (.aload_n 2, 1) := by decide +kernel
theorem dX10_seal_52 : decode cX10_seal 52 = .ok (.getfield 186, 3) := by decide +kernel
theorem dX10_seal_55 : decode cX10_seal 55 = .ok (.ireturn, 1) := by decide +kernel
theorem dX10_sell_0 : decode cX10_sell 0 = .ok (.aload_n 0, 1) := by decide +kernel
theorem dX10_sell_1 : decode cX10_sell 1 = .ok (.getfield 10, 3) := by decide +kernel
theorem dX10_sell_4 : decode cX10_sell 4 = .ok (.iload_n 1, 1) := by decide +kernel
theorem dX10_sell_5 : decode cX10_sell 5 = .ok (.invokevirtual 178, 3) := by decide +kernel
theorem dX10_sell_8 : decode cX10_sell 8 = .ok (.astore_n 3, 1) := by decide +kernel
theorem dX10_sell_9 : decode cX10_sell 9 = .ok (.aload_n 3, 1) := by decide +kernel
theorem dX10_sell_10 : decode cX10_sell 10 = .ok (.ifnull 27, 3) := by decide +kernel
theorem dX10_sell_13 : decode cX10_sell 13 = .ok (.iload_n 2, 1) := by decide +kernel
theorem dX10_sell_14 : decode cX10_sell 14 = .ok (.iconst 0, 1) := by decide +kernel
theorem dX10_sell_15 : decode cX10_sell 15 = .ok (.bipush 19, 2) := by decide +kernel
theorem dX10_sell_17 : decode cX10_sell 17 = .ok (.invokestatic 43, 3) := by decide +kernel
theorem dX10_sell_20 : decode cX10_sell 20 = .ok (.ifCond .eq 17, 3) := by decide +kernel
theorem dX10_sell_23 : decode cX10_sell 23 = .ok (.aload_n 3, 1) := by decide +kernel
theorem dX10_sell_24 : decode cX10_sell 24 = .ok (.invokevirtual 182, 3) := by decide +kernel
theorem dX10_sell_27 : decode cX10_sell 27 = .ok (.ifCond .ne 10, 3) := by decide +kernel
theorem dX10_sell_30 : decode cX10_sell 30 = .ok (.aload_n 3, 1) := by decide +kernel
theorem dX10_sell_31 : decode cX10_sell 31 = .ok (.invokevirtual 189, 3) := by decide +kernel
theorem dX10_sell_34 : decode cX10_sell 34 = .ok (.ifCond .eq 5, 3) := by decide +kernel
theorem dX10_sell_37 : decode cX10_sell 37 = .ok (.iconst 0, 1) := by decide +kernel
theorem dX10_sell_38 : decode cX10_sell 38 = .ok (.ireturn, 1) := by decide +kernel
theorem dX10_sell_39 : decode cX10_sell 39 = .ok (.aload_n 3, 1) := by decide +kernel
theorem dX10_sell_40 : decode cX10_sell 40 = .ok (.iload_n 2, 1) := by decide +kernel
theorem dX10_sell_41 : decode cX10_sell 41 = .ok (.putfield 195, 3) := by decide +kernel
theorem dX10_sell_44 : decode cX10_sell 44 = .ok (.iconst 1, 1) := by decide +kernel
theorem dX10_sell_45 : decode cX10_sell 45 = .ok (.ireturn, 1) := by decide +kernel
theorem dX10_toss_0 : decode cX10_toss 0 = .ok (.aload_n 0, 1) := by decide +kernel
theorem dX10_toss_1 : decode cX10_toss 1 = .ok (.getfield 10, 3) := by decide +kernel
theorem dX10_toss_4 : decode cX10_toss 4 = .ok (.iload_n 1, 1) := by decide +kernel
theorem dX10_toss_5 : decode cX10_toss 5 = .ok (.invokevirtual 107, 3) := by decide +kernel
theorem dX10_toss_8 : decode cX10_toss 8 = .ok (.astore_n 3, 1) := by decide +kernel
theorem dX10_toss_9 : decode cX10_toss 9 = .ok (.aload_n 3, 1) := by decide +kernel
theorem dX10_toss_10 : decode cX10_toss 10 = .ok (.ifnull 11, 3) := by decide +kernel
theorem dX10_toss_13 : decode cX10_toss 13 = .ok (.aload_n 3, 1) := by decide +kernel
theorem dX10_toss_14 : decode cX10_toss 14 = .ok (.iload_n 2, 1) := by decide +kernel
theorem dX10_toss_15 : decode cX10_toss 15 = .ok (.invokevirtual 111, 3) := by decide +kernel
theorem dX10_toss_18 : decode cX10_toss 18 = .ok (.ifCond .ne 5, 3) := by decide +kernel
theorem dX10_toss_21 : decode cX10_toss 21 = .ok (.iconst 0, 1) := by decide +kernel
theorem dX10_toss_22 : decode cX10_toss 22 = .ok (.ireturn, 1) := by decide +kernel
theorem dX10_toss_23 : decode cX10_toss 23 = .ok (.aload_n 3, 1) := by decide +kernel
theorem dX10_toss_24 : decode cX10_toss 24 = .ok (.dup, 1) := by decide +kernel
theorem dX10_toss_25 : decode cX10_toss 25 = .ok (.getfield 139, 3) := by decide +kernel
theorem dX10_toss_28 : decode cX10_toss 28 = .ok (.iload_n 2, 1) := by decide +kernel
theorem dX10_toss_29 : decode cX10_toss 29 = .ok (.isub, 1) := by decide +kernel
theorem dX10_toss_30 : decode cX10_toss 30 = .ok (.putfield 139, 3) := by decide +kernel
theorem dX10_toss_33 : decode cX10_toss 33 = .ok (.aload_n 3, 1) := by decide +kernel
theorem dX10_toss_34 : decode cX10_toss 34 = .ok (.dup, 1) := by decide +kernel
theorem dX10_toss_35 : decode cX10_toss 35 = .ok (.getfield 198, 3) := by decide +kernel
theorem dX10_toss_38 : decode cX10_toss 38 = .ok (.iload_n 2, 1) := by decide +kernel
theorem dX10_toss_39 : decode cX10_toss 39 = .ok (.iadd, 1) := by decide +kernel
theorem dX10_toss_40 : decode cX10_toss 40 = .ok (.putfield 198, 3) := by decide +kernel
theorem dX10_toss_43 : decode cX10_toss 43 = .ok (.iconst 1, 1) := by decide +kernel
theorem dX10_toss_44 : decode cX10_toss 44 = .ok (.ireturn, 1) := by decide +kernel
theorem dX10_look_0 : decode cX10_look 0 = .ok (.aload_n 0, 1) := by decide +kernel
theorem dX10_look_1 : decode cX10_look 1 = .ok (.getfield 10, 3) := by decide +kernel
theorem dX10_look_4 : decode cX10_look 4 = .ok (.iload_n 1, 1) := by decide +kernel
theorem dX10_look_5 : decode cX10_look 5 = .ok (.invokevirtual 107, 3) := by decide +kernel
theorem dX10_look_8 : decode cX10_look 8 = .ok (.astore 4, 2) := by decide +kernel
theorem dX10_look_10 : decode cX10_look 10 = .ok (.aload 4, 2) := by decide +kernel
theorem dX10_look_12 : decode cX10_look 12 = .ok (.ifnull 45, 3) := by decide +kernel
theorem dX10_look_15 : decode cX10_look 15 = .ok (.aload 4, 2) := by decide +kernel
theorem dX10_look_17 : decode cX10_look 17 = .ok (.getfield 115, 3) := by decide +kernel
theorem dX10_look_20 : decode cX10_look 20 = .ok (.iconst 1, 1) := by decide +kernel
theorem dX10_look_21 : decode cX10_look 21 = .ok (.if_icmp .ne 36, 3) := by decide +kernel
theorem dX10_look_24 : decode cX10_look 24 = .ok (.iload_n 2, 1) := by decide +kernel
theorem dX10_look_25 : decode cX10_look 25 = .ok (.iconst 1, 1) := by decide +kernel
theorem dX10_look_26 : decode cX10_look 26 = .ok (.sipush 10000, 3) := by decide +kernel
theorem dX10_look_29 : decode cX10_look 29 = .ok (.invokestatic 43, 3) := by decide +kernel
theorem dX10_look_32 : decode cX10_look 32 = .ok (.ifCond .eq 25, 3) := by decide +kernel
theorem dX10_look_35 : decode cX10_look 35 = .ok (.iload_n 3, 1) := by decide +kernel
theorem dX10_look_36 : decode cX10_look 36 = .ok (.iconst 0, 1) := by decide +kernel
theorem dX10_look_37 : decode cX10_look 37 = .ok (.iload_n 2, 1) := by decide +kernel
theorem dX10_look_38 : decode cX10_look 38 = .ok (.invokestatic 43, 3) := by decide +kernel
theorem dX10_look_41 : decode cX10_look 41 = .ok (.ifCond .eq 16, 3) := by decide +kernel
theorem dX10_look_44 : decode cX10_look 44 = .ok (.aload_n 0, 1) := by decide +kernel
theorem dX10_look_45 : decode cX10_look 45 = .ok (.getfield 10, 3) := by decide +kernel
theorem dX10_look_48 : decode cX10_look 48 = .ok (.getfield 201, 3) := by decide +kernel
theorem dX10_look_51 : decode cX10_look 51 = .ok (.sipush 300, 3) := by decide +kernel
theorem dX10_look_54 : decode cX10_look 54 = .ok (.if_icmp .lt 5, 3) := by decide +kernel
theorem dX10_look_57 : decode cX10_look 57 = .ok (.iconst (-1), 1) := by decide +kernel
theorem dX10_look_58 : decode cX10_look 58 = .ok (.ireturn, 1) := by decide +kernel
theorem dX10_look_59 : decode cX10_look 59 = .ok (.aload 4, 2) := by decide +kernel
theorem dX10_look_61 : decode cX10_look 61 = .ok (.new 204, 3) := by decide +kernel
theorem dX10_look_64 : decode cX10_look 64 = .ok (.dup, 1) := by decide +kernel
theorem dX10_look_65 : decode cX10_look 65 = .ok (.aload 4, 2) := by decide +kernel
theorem dX10_look_67 : decode cX10_look 67 = .ok (.getfield 206, 3) := by decide +kernel
theorem dX10_look_70 : decode cX10_look 70 = .ok (.aload_n 0, 1) := by decide +kernel
theorem dX10_look_71 : decode cX10_look 71 = .ok (.getfield 10, 3) := by decide +kernel
theorem dX10_look_74 : decode cX10_look 74 = .ok (.getfield 67, 3) := by decide +kernel
theorem dX10_look_77 : decode cX10_look 77 = .ok (.iload_n 2, 1) := by decide +kernel
theorem dX10_look_78 : decode cX10_look 78 = .ok (.iload_n 3, 1) := by decide +kernel
theorem dX10_look_79 : decode cX10_look 79 = .ok (.invokespecial 210, 3) := by decide +kernel
theorem dX10_look_82 : decode cX10_look 82 = .ok (.putfield 206, 3) := by decide +kernel
theorem dX10_look_85 : decode cX10_look 85 = .ok (.aload_n 0, 1) := by decide +kernel
theorem dX10_look_86 : decode cX10_look 86 = .ok (.getfield 10, 3) := by decide +kernel
theorem dX10_look_89 : decode cX10_look 89 = .ok (.dup, 1) := by decide +kernel
theorem dX10_look_90 : decode cX10_look 90 = .ok (.getfield 201, 3) := by decide +kernel
theorem dX10_look_93 : decode cX10_look 93 = .ok (.iconst 1, 1) := by decide +kernel
theorem dX10_look_94 : decode cX10_look 94 = .ok (.iadd, 1) := by decide +kernel
theorem dX10_look_95 : decode cX10_look 95 = .ok (.putfield 201, 3) := by decide +kernel
theorem dX10_look_98 : decode cX10_look 98 = .ok (.aload 4, 2) := by decide +kernel
theorem dX10_look_100 : decode cX10_look 100 = .ok (.invokevirtual 213, 3) := by decide +kernel
theorem dX10_look_103 : decode cX10_look 103 = .ok (.ireturn, 1) := by decide +kernel
theorem dX10_drawn_0 : decode cX10_drawn 0 = .ok (.iload_n 1, 1) := by decide +kernel
theorem dX10_drawn_1 : decode cX10_drawn 1 = .ok (.iconst 1, 1) := by decide +kernel
theorem dX10_drawn_2 : decode cX10_drawn 2 = .ok (.sipush 500, 3) := by decide +kernel
theorem dX10_drawn_5 : decode cX10_drawn 5 = .ok (.invokestatic 43, 3) := by decide +kernel
theorem dX10_drawn_8 : decode cX10_drawn 8 = .ok (.ifCond .eq 29, 3) := by decide +kernel
theorem dX10_drawn_11 : decode cX10_drawn 11 = .ok (.iload_n 2, 1) := by decide +kernel
theorem dX10_drawn_12 : decode cX10_drawn 12 = .ok (.iconst 0, 1) := by decide +kernel
theorem dX10_drawn_13 : decode cX10_drawn 13 = .ok (.iload_n 1, 1) := by decide +kernel
theorem dX10_drawn_14 : decode cX10_drawn 14 = .ok (.bipush 40, 2) := by decide +kernel
theorem dX10_drawn_16 : decode cX10_drawn 16 = .ok (.invokestatic 216, 3) := by decide +kernel
theorem dX10_drawn_19 : decode cX10_drawn 19 = .ok (.invokestatic 43, 3) := by decide +kernel
theorem dX10_drawn_22 : decode cX10_drawn 22 = .ok (.ifCond .eq 15, 3) := by decide +kernel
theorem dX10_drawn_25 : decode cX10_drawn 25 = .ok (.iload 5, 2) := by decide +kernel
theorem dX10_drawn_27 : decode cX10_drawn 27 = .ok (.iconst 0, 1) := by decide +kernel
theorem dX10_drawn_28 : decode cX10_drawn 28 = .ok (.iload_n 2, 1) := by decide +kernel
theorem dX10_drawn_29 : decode cX10_drawn 29 = .ok (.iconst 1, 1) := by decide +kernel
theorem dX10_drawn_30 : decode cX10_drawn 30 = .ok (.isub, 1) := by decide +kernel
theorem dX10_drawn_31 : decode cX10_drawn 31 = .ok (.invokestatic 43, 3) := by decide +kernel
theorem dX10_drawn_34 : decode cX10_drawn 34 = .ok (.ifCond .ne 5, 3) := by decide +kernel
theorem dX10_drawn_37 : decode cX10_drawn 37 = .ok (.iconst (-1), 1) := by decide +kernel
theorem dX10_drawn_38 : decode cX10_drawn 38 = .ok (.ireturn, 1) := by decide +kernel
theorem dX10_drawn_39 : decode cX10_drawn 39 = .ok (.iconst 0, 1) := by decide +kernel
theorem dX10_drawn_40 : decode cX10_drawn 40 = .ok (.istore 6, 2) := by decide +kernel
theorem dX10_drawn_42 : decode cX10_drawn 42 = .ok (.iload 6, 2) := by decide +kernel
theorem dX10_drawn_44 : decode cX10_drawn 44 = .ok (.iload_n 1, 1) := by decide +kernel
theorem dX10_drawn_45 : decode cX10_drawn 45 = .ok (.if_icmp .ge 18, 3) := by decide +kernel
theorem dX10_drawn_48 : decode cX10_drawn 48 = .ok (.aload_n 0, 1) := by decide +kernel
theorem dX10_drawn_49 : decode cX10_drawn 49 = .ok (.getfield 39, 3) := by decide +kernel
theorem dX10_drawn_52 : decode cX10_drawn 52 = .ok (.iload 6, 2) := by decide +kernel
theorem dX10_drawn_54 : decode cX10_drawn 54 = .ok (.iload 6, 2) := by decide +kernel
theorem dX10_drawn_56 : decode cX10_drawn 56 = .ok (.iastore, 1) := by decide +kernel
theorem dX10_drawn_57 : decode cX10_drawn 57 = .ok (.iinc 6 1, 3) := by decide +kernel
theorem dX10_drawn_60 : decode cX10_drawn 60 = .ok (.goto (-18), 3) := by decide +kernel
theorem dX10_drawn_63 : decode cX10_drawn 63 = .ok (.lload_n 3, 1) := by decide +kernel
theorem dX10_drawn_64 : decode cX10_drawn 64 = .ok (.lstore 6, 2) := by decide +kernel
theorem dX10_drawn_66 : decode cX10_drawn 66 = .ok (.iconst 0, 1) := by decide +kernel
theorem dX10_drawn_67 : decode cX10_drawn 67 = .ok (.istore 8, 2) := by decide +kernel
theorem dX10_drawn_69 : decode cX10_drawn 69 = .ok (.iload 8, 2) := by decide +kernel
theorem dX10_drawn_71 : decode cX10_drawn 71 = .ok (.iload 5, 2) := by decide +kernel
theorem dX10_drawn_73 : decode cX10_drawn 73 = .ok (.if_icmp .gt 70, 3) := by decide +kernel
theorem dX10_drawn_76 : decode cX10_drawn 76 = .ok (.lload 6, 2) := by decide +kernel
theorem dX10_drawn_78 : decode cX10_drawn 78 = .ok (.ldc2_w 221, 3) := by decide +kernel
theorem dX10_drawn_81 : decode cX10_drawn 81 = .ok (.lmul, 1) := by decide +kernel
theorem dX10_drawn_82 : decode cX10_drawn 82 = .ok (.ldc2_w 223, 3) := by decide +kernel
theorem dX10_drawn_85 : decode cX10_drawn 85 = .ok (.ladd, 1) := by decide +kernel
theorem dX10_drawn_86 : decode cX10_drawn 86 = .ok (.lstore 6, 2) := by decide +kernel
theorem dX10_drawn_88 : decode cX10_drawn 88 = .ok (.iload 8, 2) := by decide +kernel
theorem dX10_drawn_90 : decode cX10_drawn 90 = .ok (.lload 6, 2) := by decide +kernel
theorem dX10_drawn_92 : decode cX10_drawn 92 = .ok (.bipush 33, 2) := by decide +kernel
theorem dX10_drawn_94 : decode cX10_drawn 94 = .ok (.lushr, 1) := by decide +kernel
theorem dX10_drawn_95 : decode cX10_drawn 95 = .ok (.iload_n 1, 1) := by decide +kernel
theorem dX10_drawn_96 : decode cX10_drawn 96 = .ok (.iload 8, 2) := by decide +kernel
theorem dX10_drawn_98 : decode cX10_drawn 98 = .ok (.isub, 1) := by decide +kernel
theorem dX10_drawn_99 : decode cX10_drawn 99 = .ok (.i2l, 1) := by decide +kernel
theorem dX10_drawn_100 : decode cX10_drawn 100 = .ok (.lrem, 1) := by decide +kernel
theorem dX10_drawn_101 : decode cX10_drawn 101 = .ok (.l2i, 1) := by decide +kernel
theorem dX10_drawn_102 : decode cX10_drawn 102 = .ok (.iadd, 1) := by decide +kernel
theorem dX10_drawn_103 : decode cX10_drawn 103 = .ok (.istore 9, 2) := by decide +kernel
theorem dX10_drawn_105 : decode cX10_drawn 105 = .ok (.aload_n 0, 1) := by decide +kernel
theorem dX10_drawn_106 : decode cX10_drawn 106 = .ok (.getfield 39, 3) := by decide +kernel
theorem dX10_drawn_109 : decode cX10_drawn 109 = .ok (.iload 8, 2) := by decide +kernel
theorem dX10_drawn_111 : decode cX10_drawn 111 = .ok (.iaload, 1) := by decide +kernel
theorem dX10_drawn_112 : decode cX10_drawn 112 = .ok (.istore 10, 2) := by decide +kernel
theorem dX10_drawn_114 : decode cX10_drawn 114 = .ok (.aload_n 0, 1) := by decide +kernel
theorem dX10_drawn_115 : decode cX10_drawn 115 = .ok (.getfield 39, 3) := by decide +kernel
theorem dX10_drawn_118 : decode cX10_drawn 118 = .ok (.iload 8, 2) := by decide +kernel
theorem dX10_drawn_120 : decode cX10_drawn 120 = .ok (.aload_n 0, 1) := by decide +kernel
theorem dX10_drawn_121 : decode cX10_drawn 121 = .ok (.getfield 39, 3) := by decide +kernel
theorem dX10_drawn_124 : decode cX10_drawn 124 = .ok (.iload 9, 2) := by decide +kernel
theorem dX10_drawn_126 : decode cX10_drawn 126 = .ok (.iaload, 1) := by decide +kernel
theorem dX10_drawn_127 : decode cX10_drawn 127 = .ok (.iastore, 1) := by decide +kernel
theorem dX10_drawn_128 : decode cX10_drawn 128 = .ok (.aload_n 0, 1) := by decide +kernel
theorem dX10_drawn_129 : decode cX10_drawn 129 = .ok (.getfield 39, 3) := by decide +kernel
theorem dX10_drawn_132 : decode cX10_drawn 132 = .ok (.iload 9, 2) := by decide +kernel
theorem dX10_drawn_134 : decode cX10_drawn 134 = .ok (.iload 10, 2) := by decide +kernel
theorem dX10_drawn_136 : decode cX10_drawn 136 = .ok (.iastore, 1) := by decide +kernel
theorem dX10_drawn_137 : decode cX10_drawn 137 = .ok (.iinc 8 1, 3) := by decide +kernel
theorem dX10_drawn_140 : decode cX10_drawn 140 = .ok (.goto (-71), 3) := by decide +kernel
theorem dX10_drawn_143 : decode cX10_drawn 143 = .ok (.aload_n 0, 1) := by decide +kernel
theorem dX10_drawn_144 : decode cX10_drawn 144 = .ok (.getfield 39, 3) := by decide +kernel
theorem dX10_drawn_147 : decode cX10_drawn 147 = .ok (.iload 5, 2) := by decide +kernel
theorem dX10_drawn_149 : decode cX10_drawn 149 = .ok (.iaload, 1) := by decide +kernel
theorem dX10_drawn_150 : decode cX10_drawn 150 = .ok (.ireturn, 1) := by decide +kernel
theorem dX10_prove_0 : decode cX10_prove 0 = .ok (.aload_n 0, 1) := by decide +kernel
theorem dX10_prove_1 : decode cX10_prove 1 = .ok (.getfield 10, 3) := by decide +kernel
theorem dX10_prove_4 : decode cX10_prove 4 = .ok (.iload_n 1, 1) := by decide +kernel
theorem dX10_prove_5 : decode cX10_prove 5 = .ok (.invokevirtual 107, 3) := by decide +kernel
theorem dX10_prove_8 : decode cX10_prove 8 = .ok (.astore_n 2, 1) := by decide +kernel
theorem dX10_prove_9 : decode cX10_prove 9 = .ok (.aload_n 2, 1) := by decide +kernel
theorem dX10_prove_10 : decode cX10_prove 10 = .ok (.ifnull 11, 3) := by decide +kernel
theorem dX10_prove_13 : decode cX10_prove 13 = .ok (.aload_n 2, 1) := by decide +kernel
theorem dX10_prove_14 : decode cX10_prove 14 = .ok (.getfield 225, 3) := by decide +kernel
theorem dX10_prove_17 : decode cX10_prove 17 = .ok (.iconst (-1), 1) := by decide +kernel
theorem dX10_prove_18 : decode cX10_prove 18 = .ok (.if_icmp .eq 5, 3) := by decide +kernel
theorem dX10_prove_21 : decode cX10_prove 21 = .ok (.iconst 0, 1) := by decide +kernel
theorem dX10_prove_22 : decode cX10_prove 22 = .ok (.ireturn, 1) := by decide +kernel
theorem dX10_prove_23 : decode cX10_prove 23 = .ok (.aload_n 2, 1) := by decide +kernel
theorem dX10_prove_24 : decode cX10_prove 24 = .ok (.aload_n 0, 1) := by decide +kernel
theorem dX10_prove_25 : decode cX10_prove 25 = .ok (.getfield 10, 3) := by decide +kernel
theorem dX10_prove_28 : decode cX10_prove 28 = .ok (.getfield 67, 3) := by decide +kernel
theorem dX10_prove_31 : decode cX10_prove 31 = .ok (.putfield 225, 3) := by decide +kernel
theorem dX10_prove_34 : decode cX10_prove 34 = .ok (.iconst 1, 1) := by decide +kernel
theorem dX10_prove_35 : decode cX10_prove 35 = .ok (.ireturn, 1) := by decide +kernel
theorem dX10_year_0 : decode cX10_year 0 = .ok (.aload_n 0, 1) := by decide +kernel
theorem dX10_year_1 : decode cX10_year 1 = .ok (.getfield 10, 3) := by decide +kernel
theorem dX10_year_4 : decode cX10_year 4 = .ok (.getfield 67, 3) := by decide +kernel
theorem dX10_year_7 : decode cX10_year 7 = .ok (.bipush 40, 2) := by decide +kernel
theorem dX10_year_9 : decode cX10_year 9 = .ok (.if_icmp .lt 5, 3) := by decide +kernel
theorem dX10_year_12 : decode cX10_year 12 = .ok (.iconst (-1), 1) := by decide +kernel
theorem dX10_year_13 : decode cX10_year 13 = .ok (.ireturn, 1) := by decide +kernel
theorem dX10_year_14 : decode cX10_year 14 = .ok (.aload_n 0, 1) := by decide +kernel
theorem dX10_year_15 : decode cX10_year 15 = .ok (.getfield 10, 3) := by decide +kernel
theorem dX10_year_18 : decode cX10_year 18 = .ok (.dup, 1) := by decide +kernel
theorem dX10_year_19 : decode cX10_year 19 = .ok (.getfield 67, 3) := by decide +kernel
theorem dX10_year_22 : decode cX10_year 22 = .ok (.iconst 1, 1) := by decide +kernel
theorem dX10_year_23 : decode cX10_year 23 = .ok (.iadd, 1) := by decide +kernel
theorem dX10_year_24 : decode cX10_year 24 = .ok (.putfield 67, 3) := by decide +kernel
theorem dX10_year_27 : decode cX10_year 27 = .ok (.aload_n 0, 1) := by decide +kernel
theorem dX10_year_28 : decode cX10_year 28 = .ok (.getfield 10, 3) := by decide +kernel
theorem dX10_year_31 : decode cX10_year 31 = .ok (.getfield 67, 3) := by decide +kernel
theorem dX10_year_34 : decode cX10_year 34 = .ok (.ireturn, 1) := by decide +kernel
theorem dX10_judge_0 : decode cX10_judge 0 = .ok (.aload_n 0, 1) := by decide +kernel
theorem dX10_judge_1 : decode cX10_judge 1 = .ok (.iload_n 1, 1) := by decide +kernel
theorem dX10_judge_2 : decode cX10_judge 2 = .ok (.iload_n 2, 1) := by decide +kernel
theorem dX10_judge_3 : decode cX10_judge 3 = .ok (.invokevirtual 228, 3) := by decide +kernel
theorem dX10_judge_6 : decode cX10_judge 6 = .ok (.astore_n 3, 1) := by decide +kernel
theorem dX10_judge_7 : decode cX10_judge 7 = .ok (.aload_n 3, 1) := by decide +kernel
theorem dX10_judge_8 : decode cX10_judge 8 = .ok (.ifnonnull 5, 3) := by decide +kernel
theorem dX10_judge_11 : decode cX10_judge 11 = .ok (.iconst (-1), 1) := by decide +kernel
theorem dX10_judge_12 : decode cX10_judge 12 = .ok (.ireturn, 1) := by decide +kernel
theorem dX10_judge_13 : decode cX10_judge 13 = .ok (.aload_n 0, 1) := by decide +kernel
theorem dX10_judge_14 : decode cX10_judge 14 = .ok (.getfield 21, 3) := by decide +kernel
theorem dX10_judge_17 : decode cX10_judge 17 = .ok (.aload_n 3, 1) := by decide +kernel
theorem dX10_judge_18 : decode cX10_judge 18 = .ok (.getfield 232, 3) := by decide +kernel
theorem dX10_judge_21 : decode cX10_judge 21 = .ok (.iload_n 2, 1) := by decide +kernel
theorem dX10_judge_22 : decode cX10_judge 22 = .ok (.invokevirtual 235, 3) := by decide +kernel
theorem dX10_judge_25 : decode cX10_judge 25 = .ok (.aload_n 3, 1) := by decide +kernel
theorem dX10_judge_26 : decode cX10_judge 26 = .ok (.getfield 239, 3) := by decide +kernel
theorem dX10_judge_29 : decode cX10_judge 29 = .ok (.ireturn, 1) := by decide +kernel
theorem dX10_why_0 : decode cX10_why 0 = .ok (.aload_n 0, 1) := by decide +kernel
theorem dX10_why_1 : decode cX10_why 1 = .ok (.iload_n 1, 1) := by decide +kernel
theorem dX10_why_2 : decode cX10_why 2 = .ok (.iload_n 2, 1) := by decide +kernel
theorem dX10_why_3 : decode cX10_why 3 = .ok (.invokevirtual 228, 3) := by decide +kernel
theorem dX10_why_6 : decode cX10_why 6 = .ok (.astore_n 3, 1) := by decide +kernel
theorem dX10_why_7 : decode cX10_why 7 = .ok (.aload_n 3, 1) := by decide +kernel
theorem dX10_why_8 : decode cX10_why 8 = .ok (.ifnonnull 5, 3) := by decide +kernel
theorem dX10_why_11 : decode cX10_why 11 = .ok (.iconst (-1), 1) := by decide +kernel
theorem dX10_why_12 : decode cX10_why 12 = .ok (.ireturn, 1) := by decide +kernel
theorem dX10_why_13 : decode cX10_why 13 = .ok (.aload_n 0, 1) := by decide +kernel
theorem dX10_why_14 : decode cX10_why 14 = .ok (.getfield 21, 3) := by decide +kernel
theorem dX10_why_17 : decode cX10_why 17 = .ok (.aload_n 3, 1) := by decide +kernel
theorem dX10_why_18 : decode cX10_why 18 = .ok (.getfield 232, 3) := by decide +kernel
theorem dX10_why_21 : decode cX10_why 21 = .ok (.iload_n 2, 1) := by decide +kernel
theorem dX10_why_22 : decode cX10_why 22 = .ok (.invokevirtual 235, 3) := by decide +kernel
theorem dX10_why_25 : decode cX10_why 25 = .ok (.aload_n 3, 1) := by decide +kernel
theorem dX10_why_26 : decode cX10_why 26 = .ok (.getfield 242, 3) := by decide +kernel
theorem dX10_why_29 : decode cX10_why 29 = .ok (.ireturn, 1) := by decide +kernel
theorem dX10_ways_0 : decode cX10_ways 0 = .ok (.aload_n 0, 1) := by decide +kernel
theorem dX10_ways_1 : decode cX10_ways 1 = .ok (.getfield 10, 3) := by decide +kernel
theorem dX10_ways_4 : decode cX10_ways 4 = .ok (.iload_n 1, 1) := by decide +kernel
theorem dX10_ways_5 : decode cX10_ways 5 = .ok (.invokevirtual 107, 3) := by decide +kernel
theorem dX10_ways_8 : decode cX10_ways 8 = .ok (.astore_n 3, 1) := by decide +kernel
theorem dX10_ways_9 : decode cX10_ways 9 = .ok (.aload_n 0, 1) := by decide +kernel
theorem dX10_ways_10 : decode cX10_ways 10 = .ok (.getfield 10, 3) := by decide +kernel
theorem dX10_ways_13 : decode cX10_ways 13 = .ok (.iload_n 2, 1) := by decide +kernel
theorem dX10_ways_14 : decode cX10_ways 14 = .ok (.invokevirtual 107, 3) := by decide +kernel
theorem dX10_ways_17 : decode cX10_ways 17 = .ok (.astore 4, 2) := by decide +kernel
theorem dX10_ways_19 : decode cX10_ways 19 = .ok (.aload_n 3, 1) := by decide +kernel
theorem dX10_ways_20 : decode cX10_ways 20 = .ok (.ifnull 8, 3) := by decide +kernel
theorem dX10_ways_23 : decode cX10_ways 23 = .ok (.aload 4, 2) := by decide +kernel
theorem dX10_ways_25 : decode cX10_ways 25 = .ok (.ifnonnull 5, 3) := by decide +kernel
theorem dX10_ways_28 : decode cX10_ways 28 = .ok (.iconst 0, 1) := by decide +kernel
theorem dX10_ways_29 : decode cX10_ways 29 = .ok (.ireturn, 1) := by decide +kernel
theorem dX10_ways_30 : decode cX10_ways 30 = .ok (.aload_n 0, 1) := by decide +kernel
theorem dX10_ways_31 : decode cX10_ways 31 = .ok (.getfield 28, 3) := by decide +kernel
theorem dX10_ways_34 : decode cX10_ways 34 = .ok (.aload 4, 2) := by decide +kernel
theorem dX10_ways_36 : decode cX10_ways 36 = .ok (.invokevirtual 245, 3) := by decide +kernel
theorem dX10_ways_39 : decode cX10_ways 39 = .ok (.aload_n 3, 1) := by decide +kernel
theorem dX10_ways_40 : decode cX10_ways 40 = .ok (.getfield 248, 3) := by decide +kernel
theorem dX10_ways_43 : decode cX10_ways 43 = .ok (.ireturn, 1) := by decide +kernel
theorem dX10_touched_0 : decode cX10_touched 0 = .ok (.aload_n 0, 1) := by decide +kernel
theorem dX10_touched_1 : decode cX10_touched 1 = .ok (.getfield 10, 3) := by decide +kernel
theorem dX10_touched_4 : decode cX10_touched 4 = .ok (.iload_n 1, 1) := by decide +kernel
theorem dX10_touched_5 : decode cX10_touched 5 = .ok (.invokevirtual 107, 3) := by decide +kernel
theorem dX10_touched_8 : decode cX10_touched 8 = .ok (.astore 4, 2) := by decide +kernel
theorem dX10_touched_10 : decode cX10_touched 10 = .ok (.aload 4, 2) := by decide +kernel
theorem dX10_touched_12 : decode cX10_touched 12 = .ok (.ifnull 16, 3) := by decide +kernel
theorem dX10_touched_15 : decode cX10_touched 15 = .ok (.iload_n 2, 1) := by decide +kernel
theorem dX10_touched_16 : decode cX10_touched 16 = .ok (.iconst 0, 1) := by decide +kernel
theorem dX10_touched_17 : decode cX10_touched 17 = .ok (.iconst 2, 1) := by decide +kernel
theorem dX10_touched_18 : decode cX10_touched 18 = .ok (.invokestatic 43, 3) := by decide +kernel
theorem dX10_touched_21 : decode cX10_touched 21 = .ok (.ifCond .eq 7, 3) := by decide +kernel
theorem dX10_touched_24 : decode cX10_touched 24 = .ok (.iload_n 3, 1) := by decide +kernel
theorem dX10_touched_25 : decode cX10_touched 25 = .ok (.ifCond .ge 5, 3) := by decide +kernel
theorem dX10_touched_28 : decode cX10_touched 28 = .ok (.iconst (-1), 1) := by decide +kernel
theorem dX10_touched_29 : decode cX10_touched 29 = .ok (.ireturn, 1) := by decide +kernel
theorem dX10_touched_30 : decode cX10_touched 30 = .ok (.aload_n 0, 1) := by decide +kernel
theorem dX10_touched_31 : decode cX10_touched 31 = .ok (.getfield 28, 3) := by decide +kernel
theorem dX10_touched_34 : decode cX10_touched 34 = .ok (.aload 4, 2) := by decide +kernel
theorem dX10_touched_36 : decode cX10_touched 36 = .ok (.iload_n 2, 1) := by decide +kernel
theorem dX10_touched_37 : decode cX10_touched 37 = .ok (.iload_n 3, 1) := by decide +kernel
theorem dX10_touched_38 : decode cX10_touched 38 = .ok (.invokevirtual 251, 3) := by decide +kernel
theorem dX10_touched_41 : decode cX10_touched 41 = .ok (.ireturn, 1) := by decide +kernel
theorem dX10_buyers_0 : decode cX10_buyers 0 = .ok (.aload_n 0, 1) := by decide +kernel
theorem dX10_buyers_1 : decode cX10_buyers 1 = .ok (.getfield 10, 3) := by decide +kernel
theorem dX10_buyers_4 : decode cX10_buyers 4 = .ok (.iload_n 1, 1) := by decide +kernel
theorem dX10_buyers_5 : decode cX10_buyers 5 = .ok (.invokevirtual 107, 3) := by decide +kernel
theorem dX10_buyers_8 : decode cX10_buyers 8 = .ok (.astore_n 2, 1) := by decide +kernel
theorem dX10_buyers_9 : decode cX10_buyers 9 = .ok (.aload_n 2, 1) := by decide +kernel
theorem dX10_buyers_10 : decode cX10_buyers 10 = .ok (.ifnonnull 7, 3) := by decide +kernel
theorem dX10_buyers_13 : decode cX10_buyers 13 = .ok (.iconst 0, 1) := by decide +kernel
theorem dX10_buyers_14 : decode cX10_buyers 14 = .ok (.goto 11, 3) := by decide +kernel
theorem dX10_buyers_17 : decode cX10_buyers 17 = .ok (.aload_n 0, 1) := by decide +kernel
theorem dX10_buyers_18 : decode cX10_buyers 18 = .ok (.getfield 28, 3) := by decide +kernel
theorem dX10_buyers_21 : decode cX10_buyers 21 = .ok (.aload_n 2, 1) := by decide +kernel
theorem dX10_buyers_22 : decode cX10_buyers 22 = .ok (.invokevirtual 255, 3) := by decide +kernel
theorem dX10_buyers_25 : decode cX10_buyers 25 = .ok (.ireturn, 1) := by decide +kernel
theorem dX10_want_0 : decode cX10_want 0 = .ok (.iload_n 1, 1) := by decide +kernel
theorem dX10_want_1 : decode cX10_want 1 = .ok (.iconst (-1), 1) := by decide +kernel
theorem dX10_want_2 : decode cX10_want 2 = .ok (.if_icmp .ne 12, 3) := by decide +kernel
theorem dX10_want_5 : decode cX10_want 5 = .ok (.aload_n 0, 1) := by decide +kernel
theorem dX10_want_6 : decode cX10_want 6 = .ok (.getfield 35, 3) := by decide +kernel
theorem dX10_want_9 : decode cX10_want 9 = .ok (.invokevirtual 258, 3) := by decide +kernel
theorem dX10_want_12 : decode cX10_want 12 = .ok (.iconst 0, 1) := by decide +kernel
theorem dX10_want_13 : decode cX10_want 13 = .ok (.ireturn, 1) := by decide +kernel
theorem dX10_want_14 : decode cX10_want 14 = .ok (.aload_n 0, 1) := by decide +kernel
theorem dX10_want_15 : decode cX10_want 15 = .ok (.getfield 10, 3) := by decide +kernel
theorem dX10_want_18 : decode cX10_want 18 = .ok (.iload_n 1, 1) := by decide +kernel
theorem dX10_want_19 : decode cX10_want 19 = .ok (.invokevirtual 107, 3) := by decide +kernel
theorem dX10_want_22 : decode cX10_want 22 = .ok (.astore_n 2, 1) := by decide +kernel
theorem dX10_want_23 : decode cX10_want 23 = .ok (.aload_n 2, 1) := by decide +kernel
theorem dX10_want_24 : decode cX10_want 24 = .ok (.ifnonnull 7, 3) := by decide +kernel
theorem dX10_want_27 : decode cX10_want 27 = .ok (.iconst (-1), 1) := by decide +kernel
theorem dX10_want_28 : decode cX10_want 28 = .ok (.goto 11, 3) := by decide +kernel
theorem dX10_want_31 : decode cX10_want 31 = .ok (.aload_n 0, 1) := by decide +kernel
theorem dX10_want_32 : decode cX10_want 32 = .ok (.getfield 35, 3) := by decide +kernel
theorem dX10_want_35 : decode cX10_want 35 = .ok (.aload_n 2, 1) := by decide +kernel
theorem dX10_want_36 : decode cX10_want 36 = .ok (.invokevirtual 261, 3) := by decide +kernel
theorem dX10_want_39 : decode cX10_want 39 = .ok (.ireturn, 1) := by decide +kernel
theorem dX10_plan_0 : decode cX10_plan 0 = .ok (.iload_n 1, 1) := by decide +kernel
theorem dX10_plan_1 : decode cX10_plan 1 = .ok (.iconst 0, 1) := by decide +kernel
theorem dX10_plan_2 : decode cX10_plan 2 = .ok (.aload_n 0, 1) := by decide +kernel
theorem dX10_plan_3 : decode cX10_plan 3 = .ok (.getfield 35, 3) := by decide +kernel
theorem dX10_plan_6 : decode cX10_plan 6 = .ok (.getfield 264, 3) := by decide +kernel
theorem dX10_plan_9 : decode cX10_plan 9 = .ok (.iconst 1, 1) := by decide +kernel
theorem dX10_plan_10 : decode cX10_plan 10 = .ok (.isub, 1) := by decide +kernel
theorem dX10_plan_11 : decode cX10_plan 11 = .ok (.invokestatic 43, 3) := by decide +kernel
theorem dX10_plan_14 : decode cX10_plan 14 = .ok (.ifCond .eq 14, 3) := by decide +kernel
theorem dX10_plan_17 : decode cX10_plan 17 = .ok (.aload_n 0, 1) := by decide +kernel
theorem dX10_plan_18 : decode cX10_plan 18 = .ok (.getfield 35, 3) := by decide +kernel
theorem dX10_plan_21 : decode cX10_plan 21 = .ok (.iload_n 1, 1) := by decide +kernel
theorem dX10_plan_22 : decode cX10_plan 22 = .ok (.invokevirtual 267, 3) := by decide +kernel
theorem dX10_plan_25 : decode cX10_plan 25 = .ok (.goto 4, 3) := by decide +kernel
theorem dX10_plan_28 : decode cX10_plan 28 = .ok (.iconst (-1), 1) := by decide +kernel
theorem dX10_plan_29 : decode cX10_plan 29 = .ok (.ireturn, 1) := by decide +kernel
theorem dX10_told_0 : decode cX10_told 0 = .ok (.aload_n 0, 1) := by decide +kernel
theorem dX10_told_1 : decode cX10_told 1 = .ok (.getfield 10, 3) := by decide +kernel
theorem dX10_told_4 : decode cX10_told 4 = .ok (.iload_n 1, 1) := by decide +kernel
theorem dX10_told_5 : decode cX10_told 5 = .ok (.invokevirtual 107, 3) := by decide +kernel
theorem dX10_told_8 : decode cX10_told 8 = .ok (.astore_n 3, 1) := by decide +kernel
theorem dX10_told_9 : decode cX10_told 9 = .ok (.aload_n 3, 1) := by decide +kernel
theorem dX10_told_10 : decode cX10_told 10 = .ok (.ifnonnull 7, 3) := by decide +kernel
theorem dX10_told_13 : decode cX10_told 13 = .ok (.iconst (-1), 1) := by decide +kernel
theorem dX10_told_14 : decode cX10_told 14 = .ok (.goto 8, 3) := by decide +kernel
theorem dX10_told_17 : decode cX10_told 17 = .ok (.aload_n 3, 1) := by decide +kernel
theorem dX10_told_18 : decode cX10_told 18 = .ok (.iload_n 2, 1) := by decide +kernel
theorem dX10_told_19 : decode cX10_told 19 = .ok (.invokevirtual 271, 3) := by decide +kernel
theorem dX10_told_22 : decode cX10_told 22 = .ok (.ireturn, 1) := by decide +kernel
theorem dX10_sack_0 : decode cX10_sack 0 = .ok (.aload_n 0, 1) := by decide +kernel
theorem dX10_sack_1 : decode cX10_sack 1 = .ok (.getfield 10, 3) := by decide +kernel
theorem dX10_sack_4 : decode cX10_sack 4 = .ok (.iload_n 1, 1) := by decide +kernel
theorem dX10_sack_5 : decode cX10_sack 5 = .ok (.invokevirtual 178, 3) := by decide +kernel
theorem dX10_sack_8 : decode cX10_sack 8 = .ok (.astore_n 3, 1) := by decide +kernel
theorem dX10_sack_9 : decode cX10_sack 9 = .ok (.aload_n 3, 1) := by decide +kernel
theorem dX10_sack_10 : decode cX10_sack 10 = .ok (.ifnonnull 7, 3) := by decide +kernel
theorem dX10_sack_13 : decode cX10_sack 13 = .ok (.iconst (-1), 1) := by decide +kernel
theorem dX10_sack_14 : decode cX10_sack 14 = .ok (.goto 8, 3) := by decide +kernel
theorem dX10_sack_17 : decode cX10_sack 17 = .ok (.aload_n 3, 1) := by decide +kernel
theorem dX10_sack_18 : decode cX10_sack 18 = .ok (.iload_n 2, 1) := by decide +kernel
theorem dX10_sack_19 : decode cX10_sack 19 = .ok (.invokevirtual 274, 3) := by decide +kernel
theorem dX10_sack_22 : decode cX10_sack 22 = .ok (.ireturn, 1) := by decide +kernel
theorem dX10_count_0 : decode cX10_count 0 = .ok (.iload_n 1, 1) := by decide +kernel
theorem dX10_count_1 : decode cX10_count 1 = .ok (.tableswitch 130 0 8 #[51, 59, 67, 75, 83, 91, 99, 107, 122], 51) := by decide +kernel
theorem dX10_count_52 : decode cX10_count 52 = .ok (.aload_n 0, 1) := by decide +kernel
theorem dX10_count_53 : decode cX10_count 53 = .ok (.getfield 10, 3) := by decide +kernel
theorem dX10_count_56 : decode cX10_count 56 = .ok (.getfield 67, 3) := by decide +kernel
theorem dX10_count_59 : decode cX10_count 59 = .ok (.ireturn, 1) := by decide +kernel
theorem dX10_count_60 : decode cX10_count 60 = .ok (.aload_n 0, 1) := by decide +kernel
theorem dX10_count_61 : decode cX10_count 61 = .ok (.getfield 10, 3) := by decide +kernel
theorem dX10_count_64 : decode cX10_count 64 = .ok (.getfield 47, 3) := by decide +kernel
theorem dX10_count_67 : decode cX10_count 67 = .ok (.ireturn, 1) := by decide +kernel
theorem dX10_count_68 : decode cX10_count 68 = .ok (.aload_n 0, 1) := by decide +kernel
theorem dX10_count_69 : decode cX10_count 69 = .ok (.getfield 10, 3) := by decide +kernel
theorem dX10_count_72 : decode cX10_count 72 = .ok (.getfield 91, 3) := by decide +kernel
theorem dX10_count_75 : decode cX10_count 75 = .ok (.ireturn, 1) := by decide +kernel
theorem dX10_count_76 : decode cX10_count 76 = .ok (.aload_n 0, 1) := by decide +kernel
theorem dX10_count_77 : decode cX10_count 77 = .ok (.getfield 10, 3) := by decide +kernel
theorem dX10_count_80 : decode cX10_count 80 = .ok (.getfield 155, 3) := by decide +kernel
theorem dX10_count_83 : decode cX10_count 83 = .ok (.ireturn, 1) := by decide +kernel
theorem dX10_count_84 : decode cX10_count 84 = .ok (.aload_n 0, 1) := by decide +kernel
theorem dX10_count_85 : decode cX10_count 85 = .ok (.getfield 10, 3) := by decide +kernel
theorem dX10_count_88 : decode cX10_count 88 = .ok (.getfield 275, 3) := by decide +kernel
theorem dX10_count_91 : decode cX10_count 91 = .ok (.ireturn, 1) := by decide +kernel
theorem dX10_count_92 : decode cX10_count 92 = .ok (.aload_n 0, 1) := by decide +kernel
theorem dX10_count_93 : decode cX10_count 93 = .ok (.getfield 10, 3) := by decide +kernel
theorem dX10_count_96 : decode cX10_count 96 = .ok (.getfield 278, 3) := by decide +kernel
theorem dX10_count_99 : decode cX10_count 99 = .ok (.ireturn, 1) := by decide +kernel
theorem dX10_count_100 : decode cX10_count 100 = .ok (.aload_n 0, 1) := by decide +kernel
theorem dX10_count_101 : decode cX10_count 101 = .ok (.getfield 10, 3) := by decide +kernel
theorem dX10_count_104 : decode cX10_count 104 = .ok (.getfield 201, 3) := by decide +kernel
theorem dX10_count_107 : decode cX10_count 107 = .ok (.ireturn, 1) := by decide +kernel
theorem dX10_count_108 : decode cX10_count 108 = .ok (.aload_n 0, 1) := by decide +kernel
theorem dX10_count_109 : decode cX10_count 109 = .ok (.getfield 21, 3) := by decide +kernel
theorem dX10_count_112 : decode cX10_count 112 = .ok (.aload_n 0, 1) := by decide +kernel
theorem dX10_count_113 : decode cX10_count 113 = .ok (.getfield 10, 3) := by decide +kernel
theorem dX10_count_116 : decode cX10_count 116 = .ok (.getfield 67, 3) := by decide +kernel
theorem dX10_count_119 : decode cX10_count 119 = .ok (.invokevirtual 281, 3) := by decide +kernel
theorem dX10_count_122 : decode cX10_count 122 = .ok (.ireturn, 1) := by decide +kernel
theorem dX10_count_123 : decode cX10_count 123 = .ok (.aload_n 0, 1) := by decide +kernel
theorem dX10_count_124 : decode cX10_count 124 = .ok (.getfield 35, 3) := by decide +kernel
theorem dX10_count_127 : decode cX10_count 127 = .ok (.getfield 264, 3) := by decide +kernel
theorem dX10_count_130 : decode cX10_count 130 = .ok (.ireturn, 1) := by decide +kernel
theorem dX10_count_131 : decode cX10_count 131 = .ok (.iconst (-1), 1) := by decide +kernel
theorem dX10_count_132 : decode cX10_count 132 = .ok (.ireturn, 1) := by decide +kernel
theorem dX10_within_0 : decode cX10_within 0 = .ok (.iload_n 0, 1) := by decide +kernel
theorem dX10_within_1 : decode cX10_within 1 = .ok (.iload_n 1, 1) := by decide +kernel
theorem dX10_within_2 : decode cX10_within 2 = .ok (.if_icmp .lt 12, 3) := by decide +kernel
theorem dX10_within_5 : decode cX10_within 5 = .ok (.iload_n 0, 1) := by decide +kernel
theorem dX10_within_6 : decode cX10_within 6 = .ok (.iload_n 2, 1) := by decide +kernel
theorem dX10_within_7 : decode cX10_within 7 = .ok (.if_icmp .gt 7, 3) := by decide +kernel
theorem dX10_within_10 : decode cX10_within 10 = .ok (.iconst 1, 1) := by decide +kernel
theorem dX10_within_11 : decode cX10_within 11 = .ok (.goto 4, 3) := by decide +kernel
theorem dX10_within_14 : decode cX10_within 14 = .ok (.iconst 0, 1) := by decide +kernel
theorem dX10_within_15 : decode cX10_within 15 = .ok (.ireturn, 1) := by decide +kernel
theorem dX10_lotKnownIn_0 : decode cX10_lotKnownIn 0 = .ok (.aload_n 0, 1) := by decide +kernel
theorem dX10_lotKnownIn_1 : decode cX10_lotKnownIn 1 = .ok (.getfield 10, 3) := by decide +kernel
theorem dX10_lotKnownIn_4 : decode cX10_lotKnownIn 4 = .ok (.iload_n 1, 1) := by decide +kernel
theorem dX10_lotKnownIn_5 : decode cX10_lotKnownIn 5 = .ok (.invokevirtual 107, 3) := by decide +kernel
theorem dX10_lotKnownIn_8 : decode cX10_lotKnownIn 8 = .ok (.astore_n 3, 1) := by decide +kernel
theorem dX10_lotKnownIn_9 : decode cX10_lotKnownIn 9 = .ok (.aload_n 3, 1) := by decide +kernel
theorem dX10_lotKnownIn_10 : decode cX10_lotKnownIn 10 = .ok (.ifnull 25, 3) := by decide +kernel
theorem dX10_lotKnownIn_13 : decode cX10_lotKnownIn 13 = .ok (.iload_n 2, 1) := by decide +kernel
theorem dX10_lotKnownIn_14 : decode cX10_lotKnownIn 14 = .ok (.aload_n 3, 1) := by decide +kernel
theorem dX10_lotKnownIn_15 : decode cX10_lotKnownIn 15 = .ok (.getfield 118, 3) := by decide +kernel
theorem dX10_lotKnownIn_18 : decode cX10_lotKnownIn 18 = .ok (.aload_n 0, 1) := by decide +kernel
theorem dX10_lotKnownIn_19 : decode cX10_lotKnownIn 19 = .ok (.getfield 10, 3) := by decide +kernel
theorem dX10_lotKnownIn_22 : decode cX10_lotKnownIn 22 = .ok (.getfield 67, 3) := by decide +kernel
theorem dX10_lotKnownIn_25 : decode cX10_lotKnownIn 25 = .ok (.invokestatic 43, 3) := by decide +kernel
theorem dX10_lotKnownIn_28 : decode cX10_lotKnownIn 28 = .ok (.ifCond .eq 7, 3) := by decide +kernel
theorem dX10_lotKnownIn_31 : decode cX10_lotKnownIn 31 = .ok (.aload_n 3, 1) := by decide +kernel
theorem dX10_lotKnownIn_32 : decode cX10_lotKnownIn 32 = .ok (.goto 4, 3) := by decide +kernel
theorem dX10_lotKnownIn_35 : decode cX10_lotKnownIn 35 = .ok (.aconst_null, 1) := by decide +kernel
theorem dX10_lotKnownIn_36 : decode cX10_lotKnownIn 36 = .ok (.areturn, 1) := by decide +kernel
theorem dX10_isOutNow_0 : decode cX10_isOutNow 0 = .ok (.aload_n 0, 1) := by decide +kernel
theorem dX10_isOutNow_1 : decode cX10_isOutNow 1 = .ok (.getfield 21, 3) := by decide +kernel
theorem dX10_isOutNow_4 : decode cX10_isOutNow 4 = .ok (.aload_n 1, 1) := by decide +kernel
theorem dX10_isOutNow_5 : decode cX10_isOutNow 5 = .ok (.getfield 232, 3) := by decide +kernel
theorem dX10_isOutNow_8 : decode cX10_isOutNow 8 = .ok (.aload_n 0, 1) := by decide +kernel
theorem dX10_isOutNow_9 : decode cX10_isOutNow 9 = .ok (.getfield 10, 3) := by decide +kernel
theorem dX10_isOutNow_12 : decode cX10_isOutNow 12 = .ok (.getfield 67, 3) := by decide +kernel
theorem dX10_isOutNow_15 : decode cX10_isOutNow 15 = .ok (.invokevirtual 235, 3) := by decide +kernel
theorem dX10_isOutNow_18 : decode cX10_isOutNow 18 = .ok (.aload_n 1, 1) := by decide +kernel
theorem dX10_isOutNow_19 : decode cX10_isOutNow 19 = .ok (.getfield 239, 3) := by decide +kernel
theorem dX10_isOutNow_22 : decode cX10_isOutNow 22 = .ok (.bipush 9, 2) := by decide +kernel
theorem dX10_isOutNow_24 : decode cX10_isOutNow 24 = .ok (.if_icmp .ne 7, 3) := by decide +kernel
theorem dX10_isOutNow_27 : decode cX10_isOutNow 27 = .ok (.iconst 1, 1) := by decide +kernel
theorem dX10_isOutNow_28 : decode cX10_isOutNow 28 = .ok (.goto 4, 3) := by decide +kernel
theorem dX10_isOutNow_31 : decode cX10_isOutNow 31 = .ok (.iconst 0, 1) := by decide +kernel
theorem dX10_isOutNow_32 : decode cX10_isOutNow 32 = .ok (.ireturn, 1) := by decide +kernel
end
section
theorem dL_law_0 : decode cL_law 0 = .ok (.new 7, 3) := by decide +kernel
theorem dL_law_3 : decode cL_law 3 = .ok (.dup, 1) := by decide +kernel
theorem dL_law_4 : decode cL_law 4 = .ok (.invokespecial 9, 3) := by decide +kernel
theorem dL_law_7 : decode cL_law 7 = .ok (.astore_n 1, 1) := by decide +kernel
theorem dL_law_8 : decode cL_law 8 = .ok (.new 10, 3) := by decide +kernel
theorem dL_law_11 : decode cL_law 11 = .ok (.dup, 1) := by decide +kernel
theorem dL_law_12 : decode cL_law 12 = .ok (.invokespecial 12, 3) := by decide +kernel
theorem dL_law_15 : decode cL_law 15 = .ok (.astore_n 2, 1) := by decide +kernel
theorem dL_law_16 : decode cL_law 16 = .ok (.iconst 0, 1) := by decide +kernel
theorem dL_law_17 : decode cL_law 17 = .ok (.istore_n 3, 1) := by decide +kernel
theorem dL_law_18 : decode cL_law 18 = .ok (.iload_n 3, 1) := by decide +kernel
theorem dL_law_19 : decode cL_law 19 = .ok (.aload_n 0, 1) := by decide +kernel
theorem dL_law_20 : decode cL_law 20 = .ok (.arraylength, 1) := by decide +kernel
theorem dL_law_21 : decode cL_law 21 = .ok (.bipush 6, 2) := by decide +kernel
theorem dL_law_23 : decode cL_law 23 = .ok (.isub, 1) := by decide +kernel
theorem dL_law_24 : decode cL_law 24 = .ok (.if_icmp .gt 1163, 3) := by decide +kernel
theorem dL_law_27 : decode cL_law 27 = .ok (.aload_n 0, 1) := by decide +kernel
theorem dL_law_28 : decode cL_law 28 = .ok (.iload_n 3, 1) := by decide +kernel
theorem dL_law_29 : decode cL_law 29 = .ok (.iaload, 1) := by decide +kernel
theorem dL_law_30 : decode cL_law 30 = .ok (.bipush 31, 2) := by decide +kernel
theorem dL_law_32 : decode cL_law 32 = .ok (.iand, 1) := by decide +kernel
theorem dL_law_33 : decode cL_law 33 = .ok (.tableswitch 1148 0 28 #[131, 184, 217, 260, 303, 346, 389, 412, 455, 488, 541, 574, 597, 620, 653, 686, 729, 812, 835, 848, 881, 914, 947, 990, 1013, 1036, 1059, 1092, 1125], 131) := by decide +kernel
theorem dL_law_164 : decode cL_law 164 = .ok (.aload_n 1, 1) := by decide +kernel
theorem dL_law_165 : decode cL_law 165 = .ok (.aload_n 0, 1) := by decide +kernel
theorem dL_law_166 : decode cL_law 166 = .ok (.iload_n 3, 1) := by decide +kernel
theorem dL_law_167 : decode cL_law 167 = .ok (.iconst 1, 1) := by decide +kernel
theorem dL_law_168 : decode cL_law 168 = .ok (.iadd, 1) := by decide +kernel
theorem dL_law_169 : decode cL_law 169 = .ok (.iaload, 1) := by decide +kernel
theorem dL_law_170 : decode cL_law 170 = .ok (.aload_n 0, 1) := by decide +kernel
theorem dL_law_171 : decode cL_law 171 = .ok (.iload_n 3, 1) := by decide +kernel
theorem dL_law_172 : decode cL_law 172 = .ok (.iconst 2, 1) := by decide +kernel
theorem dL_law_173 : decode cL_law 173 = .ok (.iadd, 1) := by decide +kernel
theorem dL_law_174 : decode cL_law 174 = .ok (.iaload, 1) := by decide +kernel
theorem dL_law_175 : decode cL_law 175 = .ok (.aload_n 0, 1) := by decide +kernel
theorem dL_law_176 : decode cL_law 176 = .ok (.iload_n 3, 1) := by decide +kernel
theorem dL_law_177 : decode cL_law 177 = .ok (.iconst 3, 1) := by decide +kernel
theorem dL_law_178 : decode cL_law 178 = .ok (.iadd, 1) := by decide +kernel
theorem dL_law_179 : decode cL_law 179 = .ok (.iaload, 1) := by decide +kernel
theorem dL_law_180 : decode cL_law 180 = .ok (.aload_n 0, 1) := by decide +kernel
theorem dL_law_181 : decode cL_law 181 = .ok (.iload_n 3, 1) := by decide +kernel
theorem dL_law_182 : decode cL_law 182 = .ok (.iconst 4, 1) := by decide +kernel
theorem dL_law_183 : decode cL_law 183 = .ok (.iadd, 1) := by decide +kernel
theorem dL_law_184 : decode cL_law 184 = .ok (.iaload, 1) := by decide +kernel
theorem dL_law_185 : decode cL_law 185 = .ok (.invokevirtual 13, 3) := by decide +kernel
theorem dL_law_188 : decode cL_law 188 = .ok (.aload_n 2, 1) := by decide +kernel
theorem dL_law_189 : decode cL_law 189 = .ok (.aload_n 0, 1) := by decide +kernel
theorem dL_law_190 : decode cL_law 190 = .ok (.iload_n 3, 1) := by decide +kernel
theorem dL_law_191 : decode cL_law 191 = .ok (.iconst 1, 1) := by decide +kernel
theorem dL_law_192 : decode cL_law 192 = .ok (.iadd, 1) := by decide +kernel
theorem dL_law_193 : decode cL_law 193 = .ok (.iaload, 1) := by decide +kernel
theorem dL_law_194 : decode cL_law 194 = .ok (.aload_n 0, 1) := by decide +kernel
theorem dL_law_195 : decode cL_law 195 = .ok (.iload_n 3, 1) := by decide +kernel
theorem dL_law_196 : decode cL_law 196 = .ok (.iconst 2, 1) := by decide +kernel
theorem dL_law_197 : decode cL_law 197 = .ok (.iadd, 1) := by decide +kernel
theorem dL_law_198 : decode cL_law 198 = .ok (.iaload, 1) := by decide +kernel
theorem dL_law_199 : decode cL_law 199 = .ok (.aload_n 0, 1) := by decide +kernel
theorem dL_law_200 : decode cL_law 200 = .ok (.iload_n 3, 1) := by decide +kernel
theorem dL_law_201 : decode cL_law 201 = .ok (.iconst 3, 1) := by decide +kernel
theorem dL_law_202 : decode cL_law 202 = .ok (.iadd, 1) := by decide +kernel
theorem dL_law_203 : decode cL_law 203 = .ok (.iaload, 1) := by decide +kernel
theorem dL_law_204 : decode cL_law 204 = .ok (.aload_n 0, 1) := by decide +kernel
theorem dL_law_205 : decode cL_law 205 = .ok (.iload_n 3, 1) := by decide +kernel
theorem dL_law_206 : decode cL_law 206 = .ok (.iconst 4, 1) := by decide +kernel
theorem dL_law_207 : decode cL_law 207 = .ok (.iadd, 1) := by decide +kernel
theorem dL_law_208 : decode cL_law 208 = .ok (.iaload, 1) := by decide +kernel
theorem dL_law_209 : decode cL_law 209 = .ok (.invokevirtual 17, 3) := by decide +kernel
theorem dL_law_212 : decode cL_law 212 = .ok (.if_icmp .eq 969, 3) := by decide +kernel
theorem dL_law_215 : decode cL_law 215 = .ok (.iconst 0, 1) := by decide +kernel
theorem dL_law_216 : decode cL_law 216 = .ok (.ireturn, 1) := by decide +kernel
theorem dL_law_217 : decode cL_law 217 = .ok (.aload_n 1, 1) := by decide +kernel
theorem dL_law_218 : decode cL_law 218 = .ok (.aload_n 0, 1) := by decide +kernel
theorem dL_law_219 : decode cL_law 219 = .ok (.iload_n 3, 1) := by decide +kernel
theorem dL_law_220 : decode cL_law 220 = .ok (.iconst 1, 1) := by decide +kernel
theorem dL_law_221 : decode cL_law 221 = .ok (.iadd, 1) := by decide +kernel
theorem dL_law_222 : decode cL_law 222 = .ok (.iaload, 1) := by decide +kernel
theorem dL_law_223 : decode cL_law 223 = .ok (.aload_n 0, 1) := by decide +kernel
theorem dL_law_224 : decode cL_law 224 = .ok (.iload_n 3, 1) := by decide +kernel
theorem dL_law_225 : decode cL_law 225 = .ok (.iconst 2, 1) := by decide +kernel
theorem dL_law_226 : decode cL_law 226 = .ok (.iadd, 1) := by decide +kernel
theorem dL_law_227 : decode cL_law 227 = .ok (.iaload, 1) := by decide +kernel
theorem dL_law_228 : decode cL_law 228 = .ok (.invokevirtual 18, 3) := by decide +kernel
theorem dL_law_231 : decode cL_law 231 = .ok (.aload_n 2, 1) := by decide +kernel
theorem dL_law_232 : decode cL_law 232 = .ok (.aload_n 0, 1) := by decide +kernel
theorem dL_law_233 : decode cL_law 233 = .ok (.iload_n 3, 1) := by decide +kernel
theorem dL_law_234 : decode cL_law 234 = .ok (.iconst 1, 1) := by decide +kernel
theorem dL_law_235 : decode cL_law 235 = .ok (.iadd, 1) := by decide +kernel
theorem dL_law_236 : decode cL_law 236 = .ok (.iaload, 1) := by decide +kernel
theorem dL_law_237 : decode cL_law 237 = .ok (.aload_n 0, 1) := by decide +kernel
theorem dL_law_238 : decode cL_law 238 = .ok (.iload_n 3, 1) := by decide +kernel
theorem dL_law_239 : decode cL_law 239 = .ok (.iconst 2, 1) := by decide +kernel
theorem dL_law_240 : decode cL_law 240 = .ok (.iadd, 1) := by decide +kernel
theorem dL_law_241 : decode cL_law 241 = .ok (.iaload, 1) := by decide +kernel
theorem dL_law_242 : decode cL_law 242 = .ok (.invokevirtual 22, 3) := by decide +kernel
theorem dL_law_245 : decode cL_law 245 = .ok (.if_icmp .eq 936, 3) := by decide +kernel
theorem dL_law_248 : decode cL_law 248 = .ok (.iconst 0, 1) := by decide +kernel
theorem dL_law_249 : decode cL_law 249 = .ok (.ireturn, 1) := by decide +kernel
theorem dL_law_250 : decode cL_law 250 = .ok (.aload_n 1, 1) := by decide +kernel
theorem dL_law_251 : decode cL_law 251 = .ok (.aload_n 0, 1) := by decide +kernel
theorem dL_law_252 : decode cL_law 252 = .ok (.iload_n 3, 1) := by decide +kernel
theorem dL_law_253 : decode cL_law 253 = .ok (.iconst 1, 1) := by decide +kernel
theorem dL_law_254 : decode cL_law 254 = .ok (.iadd, 1) := by decide +kernel
theorem dL_law_255 : decode cL_law 255 = .ok (.iaload, 1) := by decide +kernel
theorem dL_law_256 : decode cL_law 256 = .ok (.aload_n 0, 1) := by decide +kernel
theorem dL_law_257 : decode cL_law 257 = .ok (.iload_n 3, 1) := by decide +kernel
theorem dL_law_258 : decode cL_law 258 = .ok (.iconst 2, 1) := by decide +kernel
theorem dL_law_259 : decode cL_law 259 = .ok (.iadd, 1) := by decide +kernel
theorem dL_law_260 : decode cL_law 260 = .ok (.iaload, 1) := by decide +kernel
theorem dL_law_261 : decode cL_law 261 = .ok (.aload_n 0, 1) := by decide +kernel
theorem dL_law_262 : decode cL_law 262 = .ok (.iload_n 3, 1) := by decide +kernel
theorem dL_law_263 : decode cL_law 263 = .ok (.iconst 3, 1) := by decide +kernel
theorem dL_law_264 : decode cL_law 264 = .ok (.iadd, 1) := by decide +kernel
theorem dL_law_265 : decode cL_law 265 = .ok (.iaload, 1) := by decide +kernel
theorem dL_law_266 : decode cL_law 266 = .ok (.invokevirtual 23, 3) := by decide +kernel
theorem dL_law_269 : decode cL_law 269 = .ok (.aload_n 2, 1) := by decide +kernel
theorem dL_law_270 : decode cL_law 270 = .ok (.aload_n 0, 1) := by decide +kernel
theorem dL_law_271 : decode cL_law 271 = .ok (.iload_n 3, 1) := by decide +kernel
theorem dL_law_272 : decode cL_law 272 = .ok (.iconst 1, 1) := by decide +kernel
theorem dL_law_273 : decode cL_law 273 = .ok (.iadd, 1) := by decide +kernel
theorem dL_law_274 : decode cL_law 274 = .ok (.iaload, 1) := by decide +kernel
theorem dL_law_275 : decode cL_law 275 = .ok (.aload_n 0, 1) := by decide +kernel
theorem dL_law_276 : decode cL_law 276 = .ok (.iload_n 3, 1) := by decide +kernel
theorem dL_law_277 : decode cL_law 277 = .ok (.iconst 2, 1) := by decide +kernel
theorem dL_law_278 : decode cL_law 278 = .ok (.iadd, 1) := by decide +kernel
theorem dL_law_279 : decode cL_law 279 = .ok (.iaload, 1) := by decide +kernel
theorem dL_law_280 : decode cL_law 280 = .ok (.aload_n 0, 1) := by decide +kernel
theorem dL_law_281 : decode cL_law 281 = .ok (.iload_n 3, 1) := by decide +kernel
theorem dL_law_282 : decode cL_law 282 = .ok (.iconst 3, 1) := by decide +kernel
theorem dL_law_283 : decode cL_law 283 = .ok (.iadd, 1) := by decide +kernel
theorem dL_law_284 : decode cL_law 284 = .ok (.iaload, 1) := by decide +kernel
theorem dL_law_285 : decode cL_law 285 = .ok (.invokevirtual 27, 3) := by decide +kernel
theorem dL_law_288 : decode cL_law 288 = .ok (.if_icmp .eq 893, 3) := by decide +kernel
theorem dL_law_291 : decode cL_law 291 = .ok (.iconst 0, 1) := by decide +kernel
theorem dL_law_292 : decode cL_law 292 = .ok (.ireturn, 1) := by decide +kernel
theorem dL_law_293 : decode cL_law 293 = .ok (.aload_n 1, 1) := by decide +kernel
theorem dL_law_294 : decode cL_law 294 = .ok (.aload_n 0, 1) := by decide +kernel
theorem dL_law_295 : decode cL_law 295 = .ok (.iload_n 3, 1) := by decide +kernel
theorem dL_law_296 : decode cL_law 296 = .ok (.iconst 1, 1) := by decide +kernel
theorem dL_law_297 : decode cL_law 297 = .ok (.iadd, 1) := by decide +kernel
theorem dL_law_298 : decode cL_law 298 = .ok (.iaload, 1) := by decide +kernel
theorem dL_law_299 : decode cL_law 299 = .ok (.aload_n 0, 1) := by decide +kernel
theorem dL_law_300 : decode cL_law 300 = .ok (.iload_n 3, 1) := by decide +kernel
theorem dL_law_301 : decode cL_law 301 = .ok (.iconst 2, 1) := by decide +kernel
theorem dL_law_302 : decode cL_law 302 = .ok (.iadd, 1) := by decide +kernel
theorem dL_law_303 : decode cL_law 303 = .ok (.iaload, 1) := by decide +kernel
theorem dL_law_304 : decode cL_law 304 = .ok (.aload_n 0, 1) := by decide +kernel
theorem dL_law_305 : decode cL_law 305 = .ok (.iload_n 3, 1) := by decide +kernel
theorem dL_law_306 : decode cL_law 306 = .ok (.iconst 3, 1) := by decide +kernel
theorem dL_law_307 : decode cL_law 307 = .ok (.iadd, 1) := by decide +kernel
theorem dL_law_308 : decode cL_law 308 = .ok (.iaload, 1) := by decide +kernel
theorem dL_law_309 : decode cL_law 309 = .ok (.invokevirtual 28, 3) := by decide +kernel
theorem dL_law_312 : decode cL_law 312 = .ok (.aload_n 2, 1) := by decide +kernel
theorem dL_law_313 : decode cL_law 313 = .ok (.aload_n 0, 1) := by decide +kernel
theorem dL_law_314 : decode cL_law 314 = .ok (.iload_n 3, 1) := by decide +kernel
theorem dL_law_315 : decode cL_law 315 = .ok (.iconst 1, 1) := by decide +kernel
theorem dL_law_316 : decode cL_law 316 = .ok (.iadd, 1) := by decide +kernel
theorem dL_law_317 : decode cL_law 317 = .ok (.iaload, 1) := by decide +kernel
theorem dL_law_318 : decode cL_law 318 = .ok (.aload_n 0, 1) := by decide +kernel
theorem dL_law_319 : decode cL_law 319 = .ok (.iload_n 3, 1) := by decide +kernel
theorem dL_law_320 : decode cL_law 320 = .ok (.iconst 2, 1) := by decide +kernel
theorem dL_law_321 : decode cL_law 321 = .ok (.iadd, 1) := by decide +kernel
theorem dL_law_322 : decode cL_law 322 = .ok (.iaload, 1) := by decide +kernel
theorem dL_law_323 : decode cL_law 323 = .ok (.aload_n 0, 1) := by decide +kernel
theorem dL_law_324 : decode cL_law 324 = .ok (.iload_n 3, 1) := by decide +kernel
theorem dL_law_325 : decode cL_law 325 = .ok (.iconst 3, 1) := by decide +kernel
theorem dL_law_326 : decode cL_law 326 = .ok (.iadd, 1) := by decide +kernel
theorem dL_law_327 : decode cL_law 327 = .ok (.iaload, 1) := by decide +kernel
theorem dL_law_328 : decode cL_law 328 = .ok (.invokevirtual 32, 3) := by decide +kernel
theorem dL_law_331 : decode cL_law 331 = .ok (.if_icmp .eq 850, 3) := by decide +kernel
theorem dL_law_334 : decode cL_law 334 = .ok (.iconst 0, 1) := by decide +kernel
theorem dL_law_335 : decode cL_law 335 = .ok (.ireturn, 1) := by decide +kernel
theorem dL_law_336 : decode cL_law 336 = .ok (.aload_n 1, 1) := by decide +kernel
theorem dL_law_337 : decode cL_law 337 = .ok (.aload_n 0, 1) := by decide +kernel
theorem dL_law_338 : decode cL_law 338 = .ok (.iload_n 3, 1) := by decide +kernel
theorem dL_law_339 : decode cL_law 339 = .ok (.iconst 1, 1) := by decide +kernel
theorem dL_law_340 : decode cL_law 340 = .ok (.iadd, 1) := by decide +kernel
theorem dL_law_341 : decode cL_law 341 = .ok (.iaload, 1) := by decide +kernel
theorem dL_law_342 : decode cL_law 342 = .ok (.aload_n 0, 1) := by decide +kernel
theorem dL_law_343 : decode cL_law 343 = .ok (.iload_n 3, 1) := by decide +kernel
theorem dL_law_344 : decode cL_law 344 = .ok (.iconst 2, 1) := by decide +kernel
theorem dL_law_345 : decode cL_law 345 = .ok (.iadd, 1) := by decide +kernel
theorem dL_law_346 : decode cL_law 346 = .ok (.iaload, 1) := by decide +kernel
theorem dL_law_347 : decode cL_law 347 = .ok (.aload_n 0, 1) := by decide +kernel
theorem dL_law_348 : decode cL_law 348 = .ok (.iload_n 3, 1) := by decide +kernel
theorem dL_law_349 : decode cL_law 349 = .ok (.iconst 3, 1) := by decide +kernel
theorem dL_law_350 : decode cL_law 350 = .ok (.iadd, 1) := by decide +kernel
theorem dL_law_351 : decode cL_law 351 = .ok (.iaload, 1) := by decide +kernel
theorem dL_law_352 : decode cL_law 352 = .ok (.invokevirtual 33, 3) := by decide +kernel
theorem dL_law_355 : decode cL_law 355 = .ok (.aload_n 2, 1) := by decide +kernel
theorem dL_law_356 : decode cL_law 356 = .ok (.aload_n 0, 1) := by decide +kernel
theorem dL_law_357 : decode cL_law 357 = .ok (.iload_n 3, 1) := by decide +kernel
theorem dL_law_358 : decode cL_law 358 = .ok (.iconst 1, 1) := by decide +kernel
theorem dL_law_359 : decode cL_law 359 = .ok (.iadd, 1) := by decide +kernel
theorem dL_law_360 : decode cL_law 360 = .ok (.iaload, 1) := by decide +kernel
theorem dL_law_361 : decode cL_law 361 = .ok (.aload_n 0, 1) := by decide +kernel
theorem dL_law_362 : decode cL_law 362 = .ok (.iload_n 3, 1) := by decide +kernel
theorem dL_law_363 : decode cL_law 363 = .ok (.iconst 2, 1) := by decide +kernel
theorem dL_law_364 : decode cL_law 364 = .ok (.iadd, 1) := by decide +kernel
theorem dL_law_365 : decode cL_law 365 = .ok (.iaload, 1) := by decide +kernel
theorem dL_law_366 : decode cL_law 366 = .ok (.aload_n 0, 1) := by decide +kernel
theorem dL_law_367 : decode cL_law 367 = .ok (.iload_n 3, 1) := by decide +kernel
theorem dL_law_368 : decode cL_law 368 = .ok (.iconst 3, 1) := by decide +kernel
theorem dL_law_369 : decode cL_law 369 = .ok (.iadd, 1) := by decide +kernel
theorem dL_law_370 : decode cL_law 370 = .ok (.iaload, 1) := by decide +kernel
theorem dL_law_371 : decode cL_law 371 = .ok (.invokevirtual 36, 3) := by decide +kernel
theorem dL_law_374 : decode cL_law 374 = .ok (.if_icmp .eq 807, 3) := by decide +kernel
theorem dL_law_377 : decode cL_law 377 = .ok (.iconst 0, 1) := by decide +kernel
theorem dL_law_378 : decode cL_law 378 = .ok (.ireturn, 1) := by decide +kernel
theorem dL_law_379 : decode cL_law 379 = .ok (.aload_n 1, 1) := by decide +kernel
theorem dL_law_380 : decode cL_law 380 = .ok (.aload_n 0, 1) := by decide +kernel
theorem dL_law_381 : decode cL_law 381 = .ok (.iload_n 3, 1) := by decide +kernel
theorem dL_law_382 : decode cL_law 382 = .ok (.iconst 1, 1) := by decide +kernel
theorem dL_law_383 : decode cL_law 383 = .ok (.iadd, 1) := by decide +kernel
theorem dL_law_384 : decode cL_law 384 = .ok (.iaload, 1) := by decide +kernel
theorem dL_law_385 : decode cL_law 385 = .ok (.aload_n 0, 1) := by decide +kernel
theorem dL_law_386 : decode cL_law 386 = .ok (.iload_n 3, 1) := by decide +kernel
theorem dL_law_387 : decode cL_law 387 = .ok (.iconst 2, 1) := by decide +kernel
theorem dL_law_388 : decode cL_law 388 = .ok (.iadd, 1) := by decide +kernel
theorem dL_law_389 : decode cL_law 389 = .ok (.iaload, 1) := by decide +kernel
theorem dL_law_390 : decode cL_law 390 = .ok (.aload_n 0, 1) := by decide +kernel
theorem dL_law_391 : decode cL_law 391 = .ok (.iload_n 3, 1) := by decide +kernel
theorem dL_law_392 : decode cL_law 392 = .ok (.iconst 3, 1) := by decide +kernel
theorem dL_law_393 : decode cL_law 393 = .ok (.iadd, 1) := by decide +kernel
theorem dL_law_394 : decode cL_law 394 = .ok (.iaload, 1) := by decide +kernel
theorem dL_law_395 : decode cL_law 395 = .ok (.invokevirtual 37, 3) := by decide +kernel
theorem dL_law_398 : decode cL_law 398 = .ok (.aload_n 2, 1) := by decide +kernel
theorem dL_law_399 : decode cL_law 399 = .ok (.aload_n 0, 1) := by decide +kernel
theorem dL_law_400 : decode cL_law 400 = .ok (.iload_n 3, 1) := by decide +kernel
theorem dL_law_401 : decode cL_law 401 = .ok (.iconst 1, 1) := by decide +kernel
theorem dL_law_402 : decode cL_law 402 = .ok (.iadd, 1) := by decide +kernel
theorem dL_law_403 : decode cL_law 403 = .ok (.iaload, 1) := by decide +kernel
theorem dL_law_404 : decode cL_law 404 = .ok (.aload_n 0, 1) := by decide +kernel
theorem dL_law_405 : decode cL_law 405 = .ok (.iload_n 3, 1) := by decide +kernel
theorem dL_law_406 : decode cL_law 406 = .ok (.iconst 2, 1) := by decide +kernel
theorem dL_law_407 : decode cL_law 407 = .ok (.iadd, 1) := by decide +kernel
theorem dL_law_408 : decode cL_law 408 = .ok (.iaload, 1) := by decide +kernel
theorem dL_law_409 : decode cL_law 409 = .ok (.aload_n 0, 1) := by decide +kernel
theorem dL_law_410 : decode cL_law 410 = .ok (.iload_n 3, 1) := by decide +kernel
theorem dL_law_411 : decode cL_law 411 = .ok (.iconst 3, 1) := by decide +kernel
theorem dL_law_412 : decode cL_law 412 = .ok (.iadd, 1) := by decide +kernel
theorem dL_law_413 : decode cL_law 413 = .ok (.iaload, 1) := by decide +kernel
theorem dL_law_414 : decode cL_law 414 = .ok (.invokevirtual 40, 3) := by decide +kernel
theorem dL_law_417 : decode cL_law 417 = .ok (.if_icmp .eq 764, 3) := by decide +kernel
theorem dL_law_420 : decode cL_law 420 = .ok (.iconst 0, 1) := by decide +kernel
theorem dL_law_421 : decode cL_law 421 = .ok (.ireturn, 1) := by decide +kernel
theorem dL_law_422 : decode cL_law 422 = .ok (.aload_n 1, 1) := by decide +kernel
theorem dL_law_423 : decode cL_law 423 = .ok (.aload_n 0, 1) := by decide +kernel
theorem dL_law_424 : decode cL_law 424 = .ok (.iload_n 3, 1) := by decide +kernel
theorem dL_law_425 : decode cL_law 425 = .ok (.iconst 1, 1) := by decide +kernel
theorem dL_law_426 : decode cL_law 426 = .ok (.iadd, 1) := by decide +kernel
theorem dL_law_427 : decode cL_law 427 = .ok (.iaload, 1) := by decide +kernel
theorem dL_law_428 : decode cL_law 428 = .ok (.invokevirtual 41, 3) := by decide +kernel
theorem dL_law_431 : decode cL_law 431 = .ok (.aload_n 2, 1) := by decide +kernel
theorem dL_law_432 : decode cL_law 432 = .ok (.aload_n 0, 1) := by decide +kernel
theorem dL_law_433 : decode cL_law 433 = .ok (.iload_n 3, 1) := by decide +kernel
theorem dL_law_434 : decode cL_law 434 = .ok (.iconst 1, 1) := by decide +kernel
theorem dL_law_435 : decode cL_law 435 = .ok (.iadd, 1) := by decide +kernel
theorem dL_law_436 : decode cL_law 436 = .ok (.iaload, 1) := by decide +kernel
theorem dL_law_437 : decode cL_law 437 = .ok (.invokevirtual 45, 3) := by decide +kernel
theorem dL_law_440 : decode cL_law 440 = .ok (.if_icmp .eq 741, 3) := by decide +kernel
theorem dL_law_443 : decode cL_law 443 = .ok (.iconst 0, 1) := by decide +kernel
theorem dL_law_444 : decode cL_law 444 = .ok (.ireturn, 1) := by decide +kernel
theorem dL_law_445 : decode cL_law 445 = .ok (.aload_n 1, 1) := by decide +kernel
theorem dL_law_446 : decode cL_law 446 = .ok (.aload_n 0, 1) := by decide +kernel
theorem dL_law_447 : decode cL_law 447 = .ok (.iload_n 3, 1) := by decide +kernel
theorem dL_law_448 : decode cL_law 448 = .ok (.iconst 1, 1) := by decide +kernel
theorem dL_law_449 : decode cL_law 449 = .ok (.iadd, 1) := by decide +kernel
theorem dL_law_450 : decode cL_law 450 = .ok (.iaload, 1) := by decide +kernel
theorem dL_law_451 : decode cL_law 451 = .ok (.aload_n 0, 1) := by decide +kernel
theorem dL_law_452 : decode cL_law 452 = .ok (.iload_n 3, 1) := by decide +kernel
theorem dL_law_453 : decode cL_law 453 = .ok (.iconst 2, 1) := by decide +kernel
theorem dL_law_454 : decode cL_law 454 = .ok (.iadd, 1) := by decide +kernel
theorem dL_law_455 : decode cL_law 455 = .ok (.iaload, 1) := by decide +kernel
theorem dL_law_456 : decode cL_law 456 = .ok (.aload_n 0, 1) := by decide +kernel
theorem dL_law_457 : decode cL_law 457 = .ok (.iload_n 3, 1) := by decide +kernel
theorem dL_law_458 : decode cL_law 458 = .ok (.iconst 3, 1) := by decide +kernel
theorem dL_law_459 : decode cL_law 459 = .ok (.iadd, 1) := by decide +kernel
theorem dL_law_460 : decode cL_law 460 = .ok (.iaload, 1) := by decide +kernel
theorem dL_law_461 : decode cL_law 461 = .ok (.invokevirtual 46, 3) := by decide +kernel
theorem dL_law_464 : decode cL_law 464 = .ok (.aload_n 2, 1) := by decide +kernel
theorem dL_law_465 : decode cL_law 465 = .ok (.aload_n 0, 1) := by decide +kernel
theorem dL_law_466 : decode cL_law 466 = .ok (.iload_n 3, 1) := by decide +kernel
theorem dL_law_467 : decode cL_law 467 = .ok (.iconst 1, 1) := by decide +kernel
theorem dL_law_468 : decode cL_law 468 = .ok (.iadd, 1) := by decide +kernel
theorem dL_law_469 : decode cL_law 469 = .ok (.iaload, 1) := by decide +kernel
theorem dL_law_470 : decode cL_law 470 = .ok (.aload_n 0, 1) := by decide +kernel
theorem dL_law_471 : decode cL_law 471 = .ok (.iload_n 3, 1) := by decide +kernel
theorem dL_law_472 : decode cL_law 472 = .ok (.iconst 2, 1) := by decide +kernel
theorem dL_law_473 : decode cL_law 473 = .ok (.iadd, 1) := by decide +kernel
theorem dL_law_474 : decode cL_law 474 = .ok (.iaload, 1) := by decide +kernel
theorem dL_law_475 : decode cL_law 475 = .ok (.aload_n 0, 1) := by decide +kernel
theorem dL_law_476 : decode cL_law 476 = .ok (.iload_n 3, 1) := by decide +kernel
theorem dL_law_477 : decode cL_law 477 = .ok (.iconst 3, 1) := by decide +kernel
theorem dL_law_478 : decode cL_law 478 = .ok (.iadd, 1) := by decide +kernel
theorem dL_law_479 : decode cL_law 479 = .ok (.iaload, 1) := by decide +kernel
theorem dL_law_480 : decode cL_law 480 = .ok (.invokevirtual 49, 3) := by decide +kernel
theorem dL_law_483 : decode cL_law 483 = .ok (.if_icmp .eq 698, 3) := by decide +kernel
theorem dL_law_486 : decode cL_law 486 = .ok (.iconst 0, 1) := by decide +kernel
theorem dL_law_487 : decode cL_law 487 = .ok (.ireturn, 1) := by decide +kernel
theorem dL_law_488 : decode cL_law 488 = .ok (.aload_n 1, 1) := by decide +kernel
theorem dL_law_489 : decode cL_law 489 = .ok (.aload_n 0, 1) := by decide +kernel
theorem dL_law_490 : decode cL_law 490 = .ok (.iload_n 3, 1) := by decide +kernel
theorem dL_law_491 : decode cL_law 491 = .ok (.iconst 1, 1) := by decide +kernel
theorem dL_law_492 : decode cL_law 492 = .ok (.iadd, 1) := by decide +kernel
theorem dL_law_493 : decode cL_law 493 = .ok (.iaload, 1) := by decide +kernel
theorem dL_law_494 : decode cL_law 494 = .ok (.aload_n 0, 1) := by decide +kernel
theorem dL_law_495 : decode cL_law 495 = .ok (.iload_n 3, 1) := by decide +kernel
theorem dL_law_496 : decode cL_law 496 = .ok (.iconst 2, 1) := by decide +kernel
theorem dL_law_497 : decode cL_law 497 = .ok (.iadd, 1) := by decide +kernel
theorem dL_law_498 : decode cL_law 498 = .ok (.iaload, 1) := by decide +kernel
theorem dL_law_499 : decode cL_law 499 = .ok (.invokevirtual 50, 3) := by decide +kernel
theorem dL_law_502 : decode cL_law 502 = .ok (.aload_n 2, 1) := by decide +kernel
theorem dL_law_503 : decode cL_law 503 = .ok (.aload_n 0, 1) := by decide +kernel
theorem dL_law_504 : decode cL_law 504 = .ok (.iload_n 3, 1) := by decide +kernel
theorem dL_law_505 : decode cL_law 505 = .ok (.iconst 1, 1) := by decide +kernel
theorem dL_law_506 : decode cL_law 506 = .ok (.iadd, 1) := by decide +kernel
theorem dL_law_507 : decode cL_law 507 = .ok (.iaload, 1) := by decide +kernel
theorem dL_law_508 : decode cL_law 508 = .ok (.aload_n 0, 1) := by decide +kernel
theorem dL_law_509 : decode cL_law 509 = .ok (.iload_n 3, 1) := by decide +kernel
theorem dL_law_510 : decode cL_law 510 = .ok (.iconst 2, 1) := by decide +kernel
theorem dL_law_511 : decode cL_law 511 = .ok (.iadd, 1) := by decide +kernel
theorem dL_law_512 : decode cL_law 512 = .ok (.iaload, 1) := by decide +kernel
theorem dL_law_513 : decode cL_law 513 = .ok (.invokevirtual 54, 3) := by decide +kernel
theorem dL_law_516 : decode cL_law 516 = .ok (.if_icmp .eq 665, 3) := by decide +kernel
theorem dL_law_519 : decode cL_law 519 = .ok (.iconst 0, 1) := by decide +kernel
theorem dL_law_520 : decode cL_law 520 = .ok (.ireturn, 1) := by decide +kernel
theorem dL_law_521 : decode cL_law 521 = .ok (.aload_n 1, 1) := by decide +kernel
theorem dL_law_522 : decode cL_law 522 = .ok (.aload_n 0, 1) := by decide +kernel
theorem dL_law_523 : decode cL_law 523 = .ok (.iload_n 3, 1) := by decide +kernel
theorem dL_law_524 : decode cL_law 524 = .ok (.iconst 1, 1) := by decide +kernel
theorem dL_law_525 : decode cL_law 525 = .ok (.iadd, 1) := by decide +kernel
theorem dL_law_526 : decode cL_law 526 = .ok (.iaload, 1) := by decide +kernel
theorem dL_law_527 : decode cL_law 527 = .ok (.aload_n 0, 1) := by decide +kernel
theorem dL_law_528 : decode cL_law 528 = .ok (.iload_n 3, 1) := by decide +kernel
theorem dL_law_529 : decode cL_law 529 = .ok (.iconst 2, 1) := by decide +kernel
theorem dL_law_530 : decode cL_law 530 = .ok (.iadd, 1) := by decide +kernel
theorem dL_law_531 : decode cL_law 531 = .ok (.iaload, 1) := by decide +kernel
theorem dL_law_532 : decode cL_law 532 = .ok (.aload_n 0, 1) := by decide +kernel
theorem dL_law_533 : decode cL_law 533 = .ok (.iload_n 3, 1) := by decide +kernel
theorem dL_law_534 : decode cL_law 534 = .ok (.iconst 3, 1) := by decide +kernel
theorem dL_law_535 : decode cL_law 535 = .ok (.iadd, 1) := by decide +kernel
theorem dL_law_536 : decode cL_law 536 = .ok (.iaload, 1) := by decide +kernel
theorem dL_law_537 : decode cL_law 537 = .ok (.aload_n 0, 1) := by decide +kernel
theorem dL_law_538 : decode cL_law 538 = .ok (.iload_n 3, 1) := by decide +kernel
theorem dL_law_539 : decode cL_law 539 = .ok (.iconst 4, 1) := by decide +kernel
theorem dL_law_540 : decode cL_law 540 = .ok (.iadd, 1) := by decide +kernel
theorem dL_law_541 : decode cL_law 541 = .ok (.iaload, 1) := by decide +kernel
theorem dL_law_542 : decode cL_law 542 = .ok (.invokevirtual 55, 3) := by decide +kernel
theorem dL_law_545 : decode cL_law 545 = .ok (.aload_n 2, 1) := by decide +kernel
theorem dL_law_546 : decode cL_law 546 = .ok (.aload_n 0, 1) := by decide +kernel
theorem dL_law_547 : decode cL_law 547 = .ok (.iload_n 3, 1) := by decide +kernel
theorem dL_law_548 : decode cL_law 548 = .ok (.iconst 1, 1) := by decide +kernel
theorem dL_law_549 : decode cL_law 549 = .ok (.iadd, 1) := by decide +kernel
theorem dL_law_550 : decode cL_law 550 = .ok (.iaload, 1) := by decide +kernel
theorem dL_law_551 : decode cL_law 551 = .ok (.aload_n 0, 1) := by decide +kernel
theorem dL_law_552 : decode cL_law 552 = .ok (.iload_n 3, 1) := by decide +kernel
theorem dL_law_553 : decode cL_law 553 = .ok (.iconst 2, 1) := by decide +kernel
theorem dL_law_554 : decode cL_law 554 = .ok (.iadd, 1) := by decide +kernel
theorem dL_law_555 : decode cL_law 555 = .ok (.iaload, 1) := by decide +kernel
theorem dL_law_556 : decode cL_law 556 = .ok (.aload_n 0, 1) := by decide +kernel
theorem dL_law_557 : decode cL_law 557 = .ok (.iload_n 3, 1) := by decide +kernel
theorem dL_law_558 : decode cL_law 558 = .ok (.iconst 3, 1) := by decide +kernel
theorem dL_law_559 : decode cL_law 559 = .ok (.iadd, 1) := by decide +kernel
theorem dL_law_560 : decode cL_law 560 = .ok (.iaload, 1) := by decide +kernel
theorem dL_law_561 : decode cL_law 561 = .ok (.aload_n 0, 1) := by decide +kernel
theorem dL_law_562 : decode cL_law 562 = .ok (.iload_n 3, 1) := by decide +kernel
theorem dL_law_563 : decode cL_law 563 = .ok (.iconst 4, 1) := by decide +kernel
theorem dL_law_564 : decode cL_law 564 = .ok (.iadd, 1) := by decide +kernel
theorem dL_law_565 : decode cL_law 565 = .ok (.iaload, 1) := by decide +kernel
theorem dL_law_566 : decode cL_law 566 = .ok (.invokevirtual 58, 3) := by decide +kernel
theorem dL_law_569 : decode cL_law 569 = .ok (.if_icmp .eq 612, 3) := by decide +kernel
theorem dL_law_572 : decode cL_law 572 = .ok (.iconst 0, 1) := by decide +kernel
theorem dL_law_573 : decode cL_law 573 = .ok (.ireturn, 1) := by decide +kernel
theorem dL_law_574 : decode cL_law 574 = .ok (.aload_n 1, 1) := by decide +kernel
theorem dL_law_575 : decode cL_law 575 = .ok (.aload_n 0, 1) := by decide +kernel
theorem dL_law_576 : decode cL_law 576 = .ok (.iload_n 3, 1) := by decide +kernel
theorem dL_law_577 : decode cL_law 577 = .ok (.iconst 1, 1) := by decide +kernel
theorem dL_law_578 : decode cL_law 578 = .ok (.iadd, 1) := by decide +kernel
theorem dL_law_579 : decode cL_law 579 = .ok (.iaload, 1) := by decide +kernel
theorem dL_law_580 : decode cL_law 580 = .ok (.aload_n 0, 1) := by decide +kernel
theorem dL_law_581 : decode cL_law 581 = .ok (.iload_n 3, 1) := by decide +kernel
theorem dL_law_582 : decode cL_law 582 = .ok (.iconst 2, 1) := by decide +kernel
theorem dL_law_583 : decode cL_law 583 = .ok (.iadd, 1) := by decide +kernel
theorem dL_law_584 : decode cL_law 584 = .ok (.iaload, 1) := by decide +kernel
theorem dL_law_585 : decode cL_law 585 = .ok (.invokevirtual 59, 3) := by decide +kernel
theorem dL_law_588 : decode cL_law 588 = .ok (.aload_n 2, 1) := by decide +kernel
theorem dL_law_589 : decode cL_law 589 = .ok (.aload_n 0, 1) := by decide +kernel
theorem dL_law_590 : decode cL_law 590 = .ok (.iload_n 3, 1) := by decide +kernel
theorem dL_law_591 : decode cL_law 591 = .ok (.iconst 1, 1) := by decide +kernel
theorem dL_law_592 : decode cL_law 592 = .ok (.iadd, 1) := by decide +kernel
theorem dL_law_593 : decode cL_law 593 = .ok (.iaload, 1) := by decide +kernel
theorem dL_law_594 : decode cL_law 594 = .ok (.aload_n 0, 1) := by decide +kernel
theorem dL_law_595 : decode cL_law 595 = .ok (.iload_n 3, 1) := by decide +kernel
theorem dL_law_596 : decode cL_law 596 = .ok (.iconst 2, 1) := by decide +kernel
theorem dL_law_597 : decode cL_law 597 = .ok (.iadd, 1) := by decide +kernel
theorem dL_law_598 : decode cL_law 598 = .ok (.iaload, 1) := by decide +kernel
theorem dL_law_599 : decode cL_law 599 = .ok (.invokevirtual 62, 3) := by decide +kernel
theorem dL_law_602 : decode cL_law 602 = .ok (.if_icmp .eq 579, 3) := by decide +kernel
theorem dL_law_605 : decode cL_law 605 = .ok (.iconst 0, 1) := by decide +kernel
theorem dL_law_606 : decode cL_law 606 = .ok (.ireturn, 1) := by decide +kernel
theorem dL_law_607 : decode cL_law 607 = .ok (.aload_n 1, 1) := by decide +kernel
theorem dL_law_608 : decode cL_law 608 = .ok (.aload_n 0, 1) := by decide +kernel
theorem dL_law_609 : decode cL_law 609 = .ok (.iload_n 3, 1) := by decide +kernel
theorem dL_law_610 : decode cL_law 610 = .ok (.iconst 1, 1) := by decide +kernel
theorem dL_law_611 : decode cL_law 611 = .ok (.iadd, 1) := by decide +kernel
theorem dL_law_612 : decode cL_law 612 = .ok (.iaload, 1) := by decide +kernel
theorem dL_law_613 : decode cL_law 613 = .ok (.invokevirtual 63, 3) := by decide +kernel
theorem dL_law_616 : decode cL_law 616 = .ok (.aload_n 2, 1) := by decide +kernel
theorem dL_law_617 : decode cL_law 617 = .ok (.aload_n 0, 1) := by decide +kernel
theorem dL_law_618 : decode cL_law 618 = .ok (.iload_n 3, 1) := by decide +kernel
theorem dL_law_619 : decode cL_law 619 = .ok (.iconst 1, 1) := by decide +kernel
theorem dL_law_620 : decode cL_law 620 = .ok (.iadd, 1) := by decide +kernel
theorem dL_law_621 : decode cL_law 621 = .ok (.iaload, 1) := by decide +kernel
theorem dL_law_622 : decode cL_law 622 = .ok (.invokevirtual 67, 3) := by decide +kernel
theorem dL_law_625 : decode cL_law 625 = .ok (.if_icmp .eq 556, 3) := by decide +kernel
theorem dL_law_628 : decode cL_law 628 = .ok (.iconst 0, 1) := by decide +kernel
theorem dL_law_629 : decode cL_law 629 = .ok (.ireturn, 1) := by decide +kernel
theorem dL_law_630 : decode cL_law 630 = .ok (.aload_n 1, 1) := by decide +kernel
theorem dL_law_631 : decode cL_law 631 = .ok (.aload_n 0, 1) := by decide +kernel
theorem dL_law_632 : decode cL_law 632 = .ok (.iload_n 3, 1) := by decide +kernel
theorem dL_law_633 : decode cL_law 633 = .ok (.iconst 1, 1) := by decide +kernel
theorem dL_law_634 : decode cL_law 634 = .ok (.iadd, 1) := by decide +kernel
theorem dL_law_635 : decode cL_law 635 = .ok (.iaload, 1) := by decide +kernel
theorem dL_law_636 : decode cL_law 636 = .ok (.invokevirtual 68, 3) := by decide +kernel
theorem dL_law_639 : decode cL_law 639 = .ok (.aload_n 2, 1) := by decide +kernel
theorem dL_law_640 : decode cL_law 640 = .ok (.aload_n 0, 1) := by decide +kernel
theorem dL_law_641 : decode cL_law 641 = .ok (.iload_n 3, 1) := by decide +kernel
theorem dL_law_642 : decode cL_law 642 = .ok (.iconst 1, 1) := by decide +kernel
theorem dL_law_643 : decode cL_law 643 = .ok (.iadd, 1) := by decide +kernel
theorem dL_law_644 : decode cL_law 644 = .ok (.iaload, 1) := by decide +kernel
theorem dL_law_645 : decode cL_law 645 = .ok (.invokevirtual 71, 3) := by decide +kernel
theorem dL_law_648 : decode cL_law 648 = .ok (.if_icmp .eq 533, 3) := by decide +kernel
theorem dL_law_651 : decode cL_law 651 = .ok (.iconst 0, 1) := by decide +kernel
theorem dL_law_652 : decode cL_law 652 = .ok (.ireturn, 1) := by decide +kernel
theorem dL_law_653 : decode cL_law 653 = .ok (.aload_n 1, 1) := by decide +kernel
theorem dL_law_654 : decode cL_law 654 = .ok (.aload_n 0, 1) := by decide +kernel
theorem dL_law_655 : decode cL_law 655 = .ok (.iload_n 3, 1) := by decide +kernel
theorem dL_law_656 : decode cL_law 656 = .ok (.iconst 1, 1) := by decide +kernel
theorem dL_law_657 : decode cL_law 657 = .ok (.iadd, 1) := by decide +kernel
theorem dL_law_658 : decode cL_law 658 = .ok (.iaload, 1) := by decide +kernel
theorem dL_law_659 : decode cL_law 659 = .ok (.aload_n 0, 1) := by decide +kernel
theorem dL_law_660 : decode cL_law 660 = .ok (.iload_n 3, 1) := by decide +kernel
theorem dL_law_661 : decode cL_law 661 = .ok (.iconst 2, 1) := by decide +kernel
theorem dL_law_662 : decode cL_law 662 = .ok (.iadd, 1) := by decide +kernel
theorem dL_law_663 : decode cL_law 663 = .ok (.iaload, 1) := by decide +kernel
theorem dL_law_664 : decode cL_law 664 = .ok (.invokevirtual 72, 3) := by decide +kernel
theorem dL_law_667 : decode cL_law 667 = .ok (.aload_n 2, 1) := by decide +kernel
theorem dL_law_668 : decode cL_law 668 = .ok (.aload_n 0, 1) := by decide +kernel
theorem dL_law_669 : decode cL_law 669 = .ok (.iload_n 3, 1) := by decide +kernel
theorem dL_law_670 : decode cL_law 670 = .ok (.iconst 1, 1) := by decide +kernel
theorem dL_law_671 : decode cL_law 671 = .ok (.iadd, 1) := by decide +kernel
theorem dL_law_672 : decode cL_law 672 = .ok (.iaload, 1) := by decide +kernel
theorem dL_law_673 : decode cL_law 673 = .ok (.aload_n 0, 1) := by decide +kernel
theorem dL_law_674 : decode cL_law 674 = .ok (.iload_n 3, 1) := by decide +kernel
theorem dL_law_675 : decode cL_law 675 = .ok (.iconst 2, 1) := by decide +kernel
theorem dL_law_676 : decode cL_law 676 = .ok (.iadd, 1) := by decide +kernel
theorem dL_law_677 : decode cL_law 677 = .ok (.iaload, 1) := by decide +kernel
theorem dL_law_678 : decode cL_law 678 = .ok (.invokevirtual 75, 3) := by decide +kernel
theorem dL_law_681 : decode cL_law 681 = .ok (.if_icmp .eq 500, 3) := by decide +kernel
theorem dL_law_684 : decode cL_law 684 = .ok (.iconst 0, 1) := by decide +kernel
theorem dL_law_685 : decode cL_law 685 = .ok (.ireturn, 1) := by decide +kernel
theorem dL_law_686 : decode cL_law 686 = .ok (.aload_n 1, 1) := by decide +kernel
theorem dL_law_687 : decode cL_law 687 = .ok (.aload_n 0, 1) := by decide +kernel
theorem dL_law_688 : decode cL_law 688 = .ok (.iload_n 3, 1) := by decide +kernel
theorem dL_law_689 : decode cL_law 689 = .ok (.iconst 1, 1) := by decide +kernel
theorem dL_law_690 : decode cL_law 690 = .ok (.iadd, 1) := by decide +kernel
theorem dL_law_691 : decode cL_law 691 = .ok (.iaload, 1) := by decide +kernel
theorem dL_law_692 : decode cL_law 692 = .ok (.aload_n 0, 1) := by decide +kernel
theorem dL_law_693 : decode cL_law 693 = .ok (.iload_n 3, 1) := by decide +kernel
theorem dL_law_694 : decode cL_law 694 = .ok (.iconst 2, 1) := by decide +kernel
theorem dL_law_695 : decode cL_law 695 = .ok (.iadd, 1) := by decide +kernel
theorem dL_law_696 : decode cL_law 696 = .ok (.iaload, 1) := by decide +kernel
theorem dL_law_697 : decode cL_law 697 = .ok (.invokevirtual 76, 3) := by decide +kernel
theorem dL_law_700 : decode cL_law 700 = .ok (.aload_n 2, 1) := by decide +kernel
theorem dL_law_701 : decode cL_law 701 = .ok (.aload_n 0, 1) := by decide +kernel
theorem dL_law_702 : decode cL_law 702 = .ok (.iload_n 3, 1) := by decide +kernel
theorem dL_law_703 : decode cL_law 703 = .ok (.iconst 1, 1) := by decide +kernel
theorem dL_law_704 : decode cL_law 704 = .ok (.iadd, 1) := by decide +kernel
theorem dL_law_705 : decode cL_law 705 = .ok (.iaload, 1) := by decide +kernel
theorem dL_law_706 : decode cL_law 706 = .ok (.aload_n 0, 1) := by decide +kernel
theorem dL_law_707 : decode cL_law 707 = .ok (.iload_n 3, 1) := by decide +kernel
theorem dL_law_708 : decode cL_law 708 = .ok (.iconst 2, 1) := by decide +kernel
theorem dL_law_709 : decode cL_law 709 = .ok (.iadd, 1) := by decide +kernel
theorem dL_law_710 : decode cL_law 710 = .ok (.iaload, 1) := by decide +kernel
theorem dL_law_711 : decode cL_law 711 = .ok (.invokevirtual 79, 3) := by decide +kernel
theorem dL_law_714 : decode cL_law 714 = .ok (.if_icmp .eq 467, 3) := by decide +kernel
theorem dL_law_717 : decode cL_law 717 = .ok (.iconst 0, 1) := by decide +kernel
theorem dL_law_718 : decode cL_law 718 = .ok (.ireturn, 1) := by decide +kernel
theorem dL_law_719 : decode cL_law 719 = .ok (.aload_n 1, 1) := by decide +kernel
theorem dL_law_720 : decode cL_law 720 = .ok (.aload_n 0, 1) := by decide +kernel
theorem dL_law_721 : decode cL_law 721 = .ok (.iload_n 3, 1) := by decide +kernel
theorem dL_law_722 : decode cL_law 722 = .ok (.iconst 1, 1) := by decide +kernel
theorem dL_law_723 : decode cL_law 723 = .ok (.iadd, 1) := by decide +kernel
theorem dL_law_724 : decode cL_law 724 = .ok (.iaload, 1) := by decide +kernel
theorem dL_law_725 : decode cL_law 725 = .ok (.aload_n 0, 1) := by decide +kernel
theorem dL_law_726 : decode cL_law 726 = .ok (.iload_n 3, 1) := by decide +kernel
theorem dL_law_727 : decode cL_law 727 = .ok (.iconst 2, 1) := by decide +kernel
theorem dL_law_728 : decode cL_law 728 = .ok (.iadd, 1) := by decide +kernel
theorem dL_law_729 : decode cL_law 729 = .ok (.iaload, 1) := by decide +kernel
theorem dL_law_730 : decode cL_law 730 = .ok (.aload_n 0, 1) := by decide +kernel
theorem dL_law_731 : decode cL_law 731 = .ok (.iload_n 3, 1) := by decide +kernel
theorem dL_law_732 : decode cL_law 732 = .ok (.iconst 3, 1) := by decide +kernel
theorem dL_law_733 : decode cL_law 733 = .ok (.iadd, 1) := by decide +kernel
theorem dL_law_734 : decode cL_law 734 = .ok (.iaload, 1) := by decide +kernel
theorem dL_law_735 : decode cL_law 735 = .ok (.invokevirtual 80, 3) := by decide +kernel
theorem dL_law_738 : decode cL_law 738 = .ok (.aload_n 2, 1) := by decide +kernel
theorem dL_law_739 : decode cL_law 739 = .ok (.aload_n 0, 1) := by decide +kernel
theorem dL_law_740 : decode cL_law 740 = .ok (.iload_n 3, 1) := by decide +kernel
theorem dL_law_741 : decode cL_law 741 = .ok (.iconst 1, 1) := by decide +kernel
theorem dL_law_742 : decode cL_law 742 = .ok (.iadd, 1) := by decide +kernel
theorem dL_law_743 : decode cL_law 743 = .ok (.iaload, 1) := by decide +kernel
theorem dL_law_744 : decode cL_law 744 = .ok (.aload_n 0, 1) := by decide +kernel
theorem dL_law_745 : decode cL_law 745 = .ok (.iload_n 3, 1) := by decide +kernel
theorem dL_law_746 : decode cL_law 746 = .ok (.iconst 2, 1) := by decide +kernel
theorem dL_law_747 : decode cL_law 747 = .ok (.iadd, 1) := by decide +kernel
theorem dL_law_748 : decode cL_law 748 = .ok (.iaload, 1) := by decide +kernel
theorem dL_law_749 : decode cL_law 749 = .ok (.aload_n 0, 1) := by decide +kernel
theorem dL_law_750 : decode cL_law 750 = .ok (.iload_n 3, 1) := by decide +kernel
theorem dL_law_751 : decode cL_law 751 = .ok (.iconst 3, 1) := by decide +kernel
theorem dL_law_752 : decode cL_law 752 = .ok (.iadd, 1) := by decide +kernel
theorem dL_law_753 : decode cL_law 753 = .ok (.iaload, 1) := by decide +kernel
theorem dL_law_754 : decode cL_law 754 = .ok (.invokevirtual 83, 3) := by decide +kernel
theorem dL_law_757 : decode cL_law 757 = .ok (.if_icmp .eq 424, 3) := by decide +kernel
theorem dL_law_760 : decode cL_law 760 = .ok (.iconst 0, 1) := by decide +kernel
theorem dL_law_761 : decode cL_law 761 = .ok (.ireturn, 1) := by decide +kernel
theorem dL_law_762 : decode cL_law 762 = .ok (.aload_n 1, 1) := by decide +kernel
theorem dL_law_763 : decode cL_law 763 = .ok (.aload_n 0, 1) := by decide +kernel
theorem dL_law_764 : decode cL_law 764 = .ok (.iload_n 3, 1) := by decide +kernel
theorem dL_law_765 : decode cL_law 765 = .ok (.iconst 1, 1) := by decide +kernel
theorem dL_law_766 : decode cL_law 766 = .ok (.iadd, 1) := by decide +kernel
theorem dL_law_767 : decode cL_law 767 = .ok (.iaload, 1) := by decide +kernel
theorem dL_law_768 : decode cL_law 768 = .ok (.aload_n 0, 1) := by decide +kernel
theorem dL_law_769 : decode cL_law 769 = .ok (.iload_n 3, 1) := by decide +kernel
theorem dL_law_770 : decode cL_law 770 = .ok (.iconst 2, 1) := by decide +kernel
theorem dL_law_771 : decode cL_law 771 = .ok (.iadd, 1) := by decide +kernel
theorem dL_law_772 : decode cL_law 772 = .ok (.iaload, 1) := by decide +kernel
theorem dL_law_773 : decode cL_law 773 = .ok (.aload_n 0, 1) := by decide +kernel
theorem dL_law_774 : decode cL_law 774 = .ok (.iload_n 3, 1) := by decide +kernel
theorem dL_law_775 : decode cL_law 775 = .ok (.iconst 3, 1) := by decide +kernel
theorem dL_law_776 : decode cL_law 776 = .ok (.iadd, 1) := by decide +kernel
theorem dL_law_777 : decode cL_law 777 = .ok (.iaload, 1) := by decide +kernel
theorem dL_law_778 : decode cL_law 778 = .ok (.i2l, 1) := by decide +kernel
theorem dL_law_779 : decode cL_law 779 = .ok (.bipush 32, 2) := by decide +kernel
theorem dL_law_781 : decode cL_law 781 = .ok (.lshl, 1) := by decide +kernel
theorem dL_law_782 : decode cL_law 782 = .ok (.aload_n 0, 1) := by decide +kernel
theorem dL_law_783 : decode cL_law 783 = .ok (.iload_n 3, 1) := by decide +kernel
theorem dL_law_784 : decode cL_law 784 = .ok (.iconst 4, 1) := by decide +kernel
theorem dL_law_785 : decode cL_law 785 = .ok (.iadd, 1) := by decide +kernel
theorem dL_law_786 : decode cL_law 786 = .ok (.iaload, 1) := by decide +kernel
theorem dL_law_787 : decode cL_law 787 = .ok (.i2l, 1) := by decide +kernel
theorem dL_law_788 : decode cL_law 788 = .ok (.ldc2_w 84, 3) := by decide +kernel
theorem dL_law_791 : decode cL_law 791 = .ok (.land, 1) := by decide +kernel
theorem dL_law_792 : decode cL_law 792 = .ok (.lor, 1) := by decide +kernel
theorem dL_law_793 : decode cL_law 793 = .ok (.aload_n 0, 1) := by decide +kernel
theorem dL_law_794 : decode cL_law 794 = .ok (.iload_n 3, 1) := by decide +kernel
theorem dL_law_795 : decode cL_law 795 = .ok (.iconst 5, 1) := by decide +kernel
theorem dL_law_796 : decode cL_law 796 = .ok (.iadd, 1) := by decide +kernel
theorem dL_law_797 : decode cL_law 797 = .ok (.iaload, 1) := by decide +kernel
theorem dL_law_798 : decode cL_law 798 = .ok (.invokevirtual 86, 3) := by decide +kernel
theorem dL_law_801 : decode cL_law 801 = .ok (.aload_n 2, 1) := by decide +kernel
theorem dL_law_802 : decode cL_law 802 = .ok (.aload_n 0, 1) := by decide +kernel
theorem dL_law_803 : decode cL_law 803 = .ok (.iload_n 3, 1) := by decide +kernel
theorem dL_law_804 : decode cL_law 804 = .ok (.iconst 1, 1) := by decide +kernel
theorem dL_law_805 : decode cL_law 805 = .ok (.iadd, 1) := by decide +kernel
theorem dL_law_806 : decode cL_law 806 = .ok (.iaload, 1) := by decide +kernel
theorem dL_law_807 : decode cL_law 807 = .ok (.aload_n 0, 1) := by decide +kernel
theorem dL_law_808 : decode cL_law 808 = .ok (.iload_n 3, 1) := by decide +kernel
theorem dL_law_809 : decode cL_law 809 = .ok (.iconst 2, 1) := by decide +kernel
theorem dL_law_810 : decode cL_law 810 = .ok (.iadd, 1) := by decide +kernel
theorem dL_law_811 : decode cL_law 811 = .ok (.iaload, 1) := by decide +kernel
theorem dL_law_812 : decode cL_law 812 = .ok (.aload_n 0, 1) := by decide +kernel
theorem dL_law_813 : decode cL_law 813 = .ok (.iload_n 3, 1) := by decide +kernel
theorem dL_law_814 : decode cL_law 814 = .ok (.iconst 3, 1) := by decide +kernel
theorem dL_law_815 : decode cL_law 815 = .ok (.iadd, 1) := by decide +kernel
theorem dL_law_816 : decode cL_law 816 = .ok (.iaload, 1) := by decide +kernel
theorem dL_law_817 : decode cL_law 817 = .ok (.i2l, 1) := by decide +kernel
theorem dL_law_818 : decode cL_law 818 = .ok (.bipush 32, 2) := by decide +kernel
theorem dL_law_820 : decode cL_law 820 = .ok (.lshl, 1) := by decide +kernel
theorem dL_law_821 : decode cL_law 821 = .ok (.aload_n 0, 1) := by decide +kernel
theorem dL_law_822 : decode cL_law 822 = .ok (.iload_n 3, 1) := by decide +kernel
theorem dL_law_823 : decode cL_law 823 = .ok (.iconst 4, 1) := by decide +kernel
theorem dL_law_824 : decode cL_law 824 = .ok (.iadd, 1) := by decide +kernel
theorem dL_law_825 : decode cL_law 825 = .ok (.iaload, 1) := by decide +kernel
theorem dL_law_826 : decode cL_law 826 = .ok (.i2l, 1) := by decide +kernel
theorem dL_law_827 : decode cL_law 827 = .ok (.ldc2_w 84, 3) := by decide +kernel
theorem dL_law_830 : decode cL_law 830 = .ok (.land, 1) := by decide +kernel
theorem dL_law_831 : decode cL_law 831 = .ok (.lor, 1) := by decide +kernel
theorem dL_law_832 : decode cL_law 832 = .ok (.aload_n 0, 1) := by decide +kernel
theorem dL_law_833 : decode cL_law 833 = .ok (.iload_n 3, 1) := by decide +kernel
theorem dL_law_834 : decode cL_law 834 = .ok (.iconst 5, 1) := by decide +kernel
theorem dL_law_835 : decode cL_law 835 = .ok (.iadd, 1) := by decide +kernel
theorem dL_law_836 : decode cL_law 836 = .ok (.iaload, 1) := by decide +kernel
theorem dL_law_837 : decode cL_law 837 = .ok (.invokevirtual 90, 3) := by decide +kernel
theorem dL_law_840 : decode cL_law 840 = .ok (.if_icmp .eq 341, 3) := by decide +kernel
theorem dL_law_843 : decode cL_law 843 = .ok (.iconst 0, 1) := by decide +kernel
theorem dL_law_844 : decode cL_law 844 = .ok (.ireturn, 1) := by decide +kernel
theorem dL_law_845 : decode cL_law 845 = .ok (.aload_n 1, 1) := by decide +kernel
theorem dL_law_846 : decode cL_law 846 = .ok (.aload_n 0, 1) := by decide +kernel
theorem dL_law_847 : decode cL_law 847 = .ok (.iload_n 3, 1) := by decide +kernel
theorem dL_law_848 : decode cL_law 848 = .ok (.iconst 1, 1) := by decide +kernel
theorem dL_law_849 : decode cL_law 849 = .ok (.iadd, 1) := by decide +kernel
theorem dL_law_850 : decode cL_law 850 = .ok (.iaload, 1) := by decide +kernel
theorem dL_law_851 : decode cL_law 851 = .ok (.invokevirtual 91, 3) := by decide +kernel
theorem dL_law_854 : decode cL_law 854 = .ok (.aload_n 2, 1) := by decide +kernel
theorem dL_law_855 : decode cL_law 855 = .ok (.aload_n 0, 1) := by decide +kernel
theorem dL_law_856 : decode cL_law 856 = .ok (.iload_n 3, 1) := by decide +kernel
theorem dL_law_857 : decode cL_law 857 = .ok (.iconst 1, 1) := by decide +kernel
theorem dL_law_858 : decode cL_law 858 = .ok (.iadd, 1) := by decide +kernel
theorem dL_law_859 : decode cL_law 859 = .ok (.iaload, 1) := by decide +kernel
theorem dL_law_860 : decode cL_law 860 = .ok (.invokevirtual 94, 3) := by decide +kernel
theorem dL_law_863 : decode cL_law 863 = .ok (.if_icmp .eq 318, 3) := by decide +kernel
theorem dL_law_866 : decode cL_law 866 = .ok (.iconst 0, 1) := by decide +kernel
theorem dL_law_867 : decode cL_law 867 = .ok (.ireturn, 1) := by decide +kernel
theorem dL_law_868 : decode cL_law 868 = .ok (.aload_n 1, 1) := by decide +kernel
theorem dL_law_869 : decode cL_law 869 = .ok (.invokevirtual 95, 3) := by decide +kernel
theorem dL_law_872 : decode cL_law 872 = .ok (.aload_n 2, 1) := by decide +kernel
theorem dL_law_873 : decode cL_law 873 = .ok (.invokevirtual 99, 3) := by decide +kernel
theorem dL_law_876 : decode cL_law 876 = .ok (.if_icmp .eq 305, 3) := by decide +kernel
theorem dL_law_879 : decode cL_law 879 = .ok (.iconst 0, 1) := by decide +kernel
theorem dL_law_880 : decode cL_law 880 = .ok (.ireturn, 1) := by decide +kernel
theorem dL_law_881 : decode cL_law 881 = .ok (.aload_n 1, 1) := by decide +kernel
theorem dL_law_882 : decode cL_law 882 = .ok (.aload_n 0, 1) := by decide +kernel
theorem dL_law_883 : decode cL_law 883 = .ok (.iload_n 3, 1) := by decide +kernel
theorem dL_law_884 : decode cL_law 884 = .ok (.iconst 1, 1) := by decide +kernel
theorem dL_law_885 : decode cL_law 885 = .ok (.iadd, 1) := by decide +kernel
theorem dL_law_886 : decode cL_law 886 = .ok (.iaload, 1) := by decide +kernel
theorem dL_law_887 : decode cL_law 887 = .ok (.aload_n 0, 1) := by decide +kernel
theorem dL_law_888 : decode cL_law 888 = .ok (.iload_n 3, 1) := by decide +kernel
theorem dL_law_889 : decode cL_law 889 = .ok (.iconst 2, 1) := by decide +kernel
theorem dL_law_890 : decode cL_law 890 = .ok (.iadd, 1) := by decide +kernel
theorem dL_law_891 : decode cL_law 891 = .ok (.iaload, 1) := by decide +kernel
theorem dL_law_892 : decode cL_law 892 = .ok (.invokevirtual 100, 3) := by decide +kernel
theorem dL_law_895 : decode cL_law 895 = .ok (.aload_n 2, 1) := by decide +kernel
theorem dL_law_896 : decode cL_law 896 = .ok (.aload_n 0, 1) := by decide +kernel
theorem dL_law_897 : decode cL_law 897 = .ok (.iload_n 3, 1) := by decide +kernel
theorem dL_law_898 : decode cL_law 898 = .ok (.iconst 1, 1) := by decide +kernel
theorem dL_law_899 : decode cL_law 899 = .ok (.iadd, 1) := by decide +kernel
theorem dL_law_900 : decode cL_law 900 = .ok (.iaload, 1) := by decide +kernel
theorem dL_law_901 : decode cL_law 901 = .ok (.aload_n 0, 1) := by decide +kernel
theorem dL_law_902 : decode cL_law 902 = .ok (.iload_n 3, 1) := by decide +kernel
theorem dL_law_903 : decode cL_law 903 = .ok (.iconst 2, 1) := by decide +kernel
theorem dL_law_904 : decode cL_law 904 = .ok (.iadd, 1) := by decide +kernel
theorem dL_law_905 : decode cL_law 905 = .ok (.iaload, 1) := by decide +kernel
theorem dL_law_906 : decode cL_law 906 = .ok (.invokevirtual 103, 3) := by decide +kernel
theorem dL_law_909 : decode cL_law 909 = .ok (.if_icmp .eq 272, 3) := by decide +kernel
theorem dL_law_912 : decode cL_law 912 = .ok (.iconst 0, 1) := by decide +kernel
theorem dL_law_913 : decode cL_law 913 = .ok (.ireturn, 1) := by decide +kernel
theorem dL_law_914 : decode cL_law 914 = .ok (.aload_n 1, 1) := by decide +kernel
theorem dL_law_915 : decode cL_law 915 = .ok (.aload_n 0, 1) := by decide +kernel
theorem dL_law_916 : decode cL_law 916 = .ok (.iload_n 3, 1) := by decide +kernel
theorem dL_law_917 : decode cL_law 917 = .ok (.iconst 1, 1) := by decide +kernel
theorem dL_law_918 : decode cL_law 918 = .ok (.iadd, 1) := by decide +kernel
theorem dL_law_919 : decode cL_law 919 = .ok (.iaload, 1) := by decide +kernel
theorem dL_law_920 : decode cL_law 920 = .ok (.aload_n 0, 1) := by decide +kernel
theorem dL_law_921 : decode cL_law 921 = .ok (.iload_n 3, 1) := by decide +kernel
theorem dL_law_922 : decode cL_law 922 = .ok (.iconst 2, 1) := by decide +kernel
theorem dL_law_923 : decode cL_law 923 = .ok (.iadd, 1) := by decide +kernel
theorem dL_law_924 : decode cL_law 924 = .ok (.iaload, 1) := by decide +kernel
theorem dL_law_925 : decode cL_law 925 = .ok (.invokevirtual 104, 3) := by decide +kernel
theorem dL_law_928 : decode cL_law 928 = .ok (.aload_n 2, 1) := by decide +kernel
theorem dL_law_929 : decode cL_law 929 = .ok (.aload_n 0, 1) := by decide +kernel
theorem dL_law_930 : decode cL_law 930 = .ok (.iload_n 3, 1) := by decide +kernel
theorem dL_law_931 : decode cL_law 931 = .ok (.iconst 1, 1) := by decide +kernel
theorem dL_law_932 : decode cL_law 932 = .ok (.iadd, 1) := by decide +kernel
theorem dL_law_933 : decode cL_law 933 = .ok (.iaload, 1) := by decide +kernel
theorem dL_law_934 : decode cL_law 934 = .ok (.aload_n 0, 1) := by decide +kernel
theorem dL_law_935 : decode cL_law 935 = .ok (.iload_n 3, 1) := by decide +kernel
theorem dL_law_936 : decode cL_law 936 = .ok (.iconst 2, 1) := by decide +kernel
theorem dL_law_937 : decode cL_law 937 = .ok (.iadd, 1) := by decide +kernel
theorem dL_law_938 : decode cL_law 938 = .ok (.iaload, 1) := by decide +kernel
theorem dL_law_939 : decode cL_law 939 = .ok (.invokevirtual 107, 3) := by decide +kernel
theorem dL_law_942 : decode cL_law 942 = .ok (.if_icmp .eq 239, 3) := by decide +kernel
theorem dL_law_945 : decode cL_law 945 = .ok (.iconst 0, 1) := by decide +kernel
theorem dL_law_946 : decode cL_law 946 = .ok (.ireturn, 1) := by decide +kernel
theorem dL_law_947 : decode cL_law 947 = .ok (.aload_n 1, 1) := by decide +kernel
theorem dL_law_948 : decode cL_law 948 = .ok (.aload_n 0, 1) := by decide +kernel
theorem dL_law_949 : decode cL_law 949 = .ok (.iload_n 3, 1) := by decide +kernel
theorem dL_law_950 : decode cL_law 950 = .ok (.iconst 1, 1) := by decide +kernel
theorem dL_law_951 : decode cL_law 951 = .ok (.iadd, 1) := by decide +kernel
theorem dL_law_952 : decode cL_law 952 = .ok (.iaload, 1) := by decide +kernel
theorem dL_law_953 : decode cL_law 953 = .ok (.aload_n 0, 1) := by decide +kernel
theorem dL_law_954 : decode cL_law 954 = .ok (.iload_n 3, 1) := by decide +kernel
theorem dL_law_955 : decode cL_law 955 = .ok (.iconst 2, 1) := by decide +kernel
theorem dL_law_956 : decode cL_law 956 = .ok (.iadd, 1) := by decide +kernel
theorem dL_law_957 : decode cL_law 957 = .ok (.iaload, 1) := by decide +kernel
theorem dL_law_958 : decode cL_law 958 = .ok (.invokevirtual 108, 3) := by decide +kernel
theorem dL_law_961 : decode cL_law 961 = .ok (.aload_n 2, 1) := by decide +kernel
theorem dL_law_962 : decode cL_law 962 = .ok (.aload_n 0, 1) := by decide +kernel
theorem dL_law_963 : decode cL_law 963 = .ok (.iload_n 3, 1) := by decide +kernel
theorem dL_law_964 : decode cL_law 964 = .ok (.iconst 1, 1) := by decide +kernel
theorem dL_law_965 : decode cL_law 965 = .ok (.iadd, 1) := by decide +kernel
theorem dL_law_966 : decode cL_law 966 = .ok (.iaload, 1) := by decide +kernel
theorem dL_law_967 : decode cL_law 967 = .ok (.aload_n 0, 1) := by decide +kernel
theorem dL_law_968 : decode cL_law 968 = .ok (.iload_n 3, 1) := by decide +kernel
theorem dL_law_969 : decode cL_law 969 = .ok (.iconst 2, 1) := by decide +kernel
theorem dL_law_970 : decode cL_law 970 = .ok (.iadd, 1) := by decide +kernel
theorem dL_law_971 : decode cL_law 971 = .ok (.iaload, 1) := by decide +kernel
theorem dL_law_972 : decode cL_law 972 = .ok (.invokevirtual 111, 3) := by decide +kernel
theorem dL_law_975 : decode cL_law 975 = .ok (.if_icmp .eq 206, 3) := by decide +kernel
theorem dL_law_978 : decode cL_law 978 = .ok (.iconst 0, 1) := by decide +kernel
theorem dL_law_979 : decode cL_law 979 = .ok (.ireturn, 1) := by decide +kernel
theorem dL_law_980 : decode cL_law 980 = .ok (.aload_n 1, 1) := by decide +kernel
theorem dL_law_981 : decode cL_law 981 = .ok (.aload_n 0, 1) := by decide +kernel
theorem dL_law_982 : decode cL_law 982 = .ok (.iload_n 3, 1) := by decide +kernel
theorem dL_law_983 : decode cL_law 983 = .ok (.iconst 1, 1) := by decide +kernel
theorem dL_law_984 : decode cL_law 984 = .ok (.iadd, 1) := by decide +kernel
theorem dL_law_985 : decode cL_law 985 = .ok (.iaload, 1) := by decide +kernel
theorem dL_law_986 : decode cL_law 986 = .ok (.aload_n 0, 1) := by decide +kernel
theorem dL_law_987 : decode cL_law 987 = .ok (.iload_n 3, 1) := by decide +kernel
theorem dL_law_988 : decode cL_law 988 = .ok (.iconst 2, 1) := by decide +kernel
theorem dL_law_989 : decode cL_law 989 = .ok (.iadd, 1) := by decide +kernel
theorem dL_law_990 : decode cL_law 990 = .ok (.iaload, 1) := by decide +kernel
theorem dL_law_991 : decode cL_law 991 = .ok (.aload_n 0, 1) := by decide +kernel
theorem dL_law_992 : decode cL_law 992 = .ok (.iload_n 3, 1) := by decide +kernel
theorem dL_law_993 : decode cL_law 993 = .ok (.iconst 3, 1) := by decide +kernel
theorem dL_law_994 : decode cL_law 994 = .ok (.iadd, 1) := by decide +kernel
theorem dL_law_995 : decode cL_law 995 = .ok (.iaload, 1) := by decide +kernel
theorem dL_law_996 : decode cL_law 996 = .ok (.invokevirtual 112, 3) := by decide +kernel
theorem dL_law_999 : decode cL_law 999 = .ok (.aload_n 2, 1) := by decide +kernel
theorem dL_law_1000 : decode cL_law 1000 = .ok (.aload_n 0, 1) := by decide +kernel
theorem dL_law_1001 : decode cL_law 1001 = .ok (.iload_n 3, 1) := by decide +kernel
theorem dL_law_1002 : decode cL_law 1002 = .ok (.iconst 1, 1) := by decide +kernel
theorem dL_law_1003 : decode cL_law 1003 = .ok (.iadd, 1) := by decide +kernel
theorem dL_law_1004 : decode cL_law 1004 = .ok (.iaload, 1) := by decide +kernel
theorem dL_law_1005 : decode cL_law 1005 = .ok (.aload_n 0, 1) := by decide +kernel
theorem dL_law_1006 : decode cL_law 1006 = .ok (.iload_n 3, 1) := by decide +kernel
theorem dL_law_1007 : decode cL_law 1007 = .ok (.iconst 2, 1) := by decide +kernel
theorem dL_law_1008 : decode cL_law 1008 = .ok (.iadd, 1) := by decide +kernel
theorem dL_law_1009 : decode cL_law 1009 = .ok (.iaload, 1) := by decide +kernel
theorem dL_law_1010 : decode cL_law 1010 = .ok (.aload_n 0, 1) := by decide +kernel
theorem dL_law_1011 : decode cL_law 1011 = .ok (.iload_n 3, 1) := by decide +kernel
theorem dL_law_1012 : decode cL_law 1012 = .ok (.iconst 3, 1) := by decide +kernel
theorem dL_law_1013 : decode cL_law 1013 = .ok (.iadd, 1) := by decide +kernel
theorem dL_law_1014 : decode cL_law 1014 = .ok (.iaload, 1) := by decide +kernel
theorem dL_law_1015 : decode cL_law 1015 = .ok (.invokevirtual 115, 3) := by decide +kernel
theorem dL_law_1018 : decode cL_law 1018 = .ok (.if_icmp .eq 163, 3) := by decide +kernel
theorem dL_law_1021 : decode cL_law 1021 = .ok (.iconst 0, 1) := by decide +kernel
theorem dL_law_1022 : decode cL_law 1022 = .ok (.ireturn, 1) := by decide +kernel
theorem dL_law_1023 : decode cL_law 1023 = .ok (.aload_n 1, 1) := by decide +kernel
theorem dL_law_1024 : decode cL_law 1024 = .ok (.aload_n 0, 1) := by decide +kernel
theorem dL_law_1025 : decode cL_law 1025 = .ok (.iload_n 3, 1) := by decide +kernel
theorem dL_law_1026 : decode cL_law 1026 = .ok (.iconst 1, 1) := by decide +kernel
theorem dL_law_1027 : decode cL_law 1027 = .ok (.iadd, 1) := by decide +kernel
theorem dL_law_1028 : decode cL_law 1028 = .ok (.iaload, 1) := by decide +kernel
theorem dL_law_1029 : decode cL_law 1029 = .ok (.invokevirtual 116, 3) := by decide +kernel
theorem dL_law_1032 : decode cL_law 1032 = .ok (.aload_n 2, 1) := by decide +kernel
theorem dL_law_1033 : decode cL_law 1033 = .ok (.aload_n 0, 1) := by decide +kernel
theorem dL_law_1034 : decode cL_law 1034 = .ok (.iload_n 3, 1) := by decide +kernel
theorem dL_law_1035 : decode cL_law 1035 = .ok (.iconst 1, 1) := by decide +kernel
theorem dL_law_1036 : decode cL_law 1036 = .ok (.iadd, 1) := by decide +kernel
theorem dL_law_1037 : decode cL_law 1037 = .ok (.iaload, 1) := by decide +kernel
theorem dL_law_1038 : decode cL_law 1038 = .ok (.invokevirtual 119, 3) := by decide +kernel
theorem dL_law_1041 : decode cL_law 1041 = .ok (.if_icmp .eq 140, 3) := by decide +kernel
theorem dL_law_1044 : decode cL_law 1044 = .ok (.iconst 0, 1) := by decide +kernel
theorem dL_law_1045 : decode cL_law 1045 = .ok (.ireturn, 1) := by decide +kernel
theorem dL_law_1046 : decode cL_law 1046 = .ok (.aload_n 1, 1) := by decide +kernel
theorem dL_law_1047 : decode cL_law 1047 = .ok (.aload_n 0, 1) := by decide +kernel
theorem dL_law_1048 : decode cL_law 1048 = .ok (.iload_n 3, 1) := by decide +kernel
theorem dL_law_1049 : decode cL_law 1049 = .ok (.iconst 1, 1) := by decide +kernel
theorem dL_law_1050 : decode cL_law 1050 = .ok (.iadd, 1) := by decide +kernel
theorem dL_law_1051 : decode cL_law 1051 = .ok (.iaload, 1) := by decide +kernel
theorem dL_law_1052 : decode cL_law 1052 = .ok (.invokevirtual 120, 3) := by decide +kernel
theorem dL_law_1055 : decode cL_law 1055 = .ok (.aload_n 2, 1) := by decide +kernel
theorem dL_law_1056 : decode cL_law 1056 = .ok (.aload_n 0, 1) := by decide +kernel
theorem dL_law_1057 : decode cL_law 1057 = .ok (.iload_n 3, 1) := by decide +kernel
theorem dL_law_1058 : decode cL_law 1058 = .ok (.iconst 1, 1) := by decide +kernel
theorem dL_law_1059 : decode cL_law 1059 = .ok (.iadd, 1) := by decide +kernel
theorem dL_law_1060 : decode cL_law 1060 = .ok (.iaload, 1) := by decide +kernel
theorem dL_law_1061 : decode cL_law 1061 = .ok (.invokevirtual 123, 3) := by decide +kernel
theorem dL_law_1064 : decode cL_law 1064 = .ok (.if_icmp .eq 117, 3) := by decide +kernel
theorem dL_law_1067 : decode cL_law 1067 = .ok (.iconst 0, 1) := by decide +kernel
theorem dL_law_1068 : decode cL_law 1068 = .ok (.ireturn, 1) := by decide +kernel
theorem dL_law_1069 : decode cL_law 1069 = .ok (.aload_n 1, 1) := by decide +kernel
theorem dL_law_1070 : decode cL_law 1070 = .ok (.aload_n 0, 1) := by decide +kernel
theorem dL_law_1071 : decode cL_law 1071 = .ok (.iload_n 3, 1) := by decide +kernel
theorem dL_law_1072 : decode cL_law 1072 = .ok (.iconst 1, 1) := by decide +kernel
theorem dL_law_1073 : decode cL_law 1073 = .ok (.iadd, 1) := by decide +kernel
theorem dL_law_1074 : decode cL_law 1074 = .ok (.iaload, 1) := by decide +kernel
theorem dL_law_1075 : decode cL_law 1075 = .ok (.invokevirtual 124, 3) := by decide +kernel
theorem dL_law_1078 : decode cL_law 1078 = .ok (.aload_n 2, 1) := by decide +kernel
theorem dL_law_1079 : decode cL_law 1079 = .ok (.aload_n 0, 1) := by decide +kernel
theorem dL_law_1080 : decode cL_law 1080 = .ok (.iload_n 3, 1) := by decide +kernel
theorem dL_law_1081 : decode cL_law 1081 = .ok (.iconst 1, 1) := by decide +kernel
theorem dL_law_1082 : decode cL_law 1082 = .ok (.iadd, 1) := by decide +kernel
theorem dL_law_1083 : decode cL_law 1083 = .ok (.iaload, 1) := by decide +kernel
theorem dL_law_1084 : decode cL_law 1084 = .ok (.invokevirtual 127, 3) := by decide +kernel
theorem dL_law_1087 : decode cL_law 1087 = .ok (.if_icmp .eq 94, 3) := by decide +kernel
theorem dL_law_1090 : decode cL_law 1090 = .ok (.iconst 0, 1) := by decide +kernel
theorem dL_law_1091 : decode cL_law 1091 = .ok (.ireturn, 1) := by decide +kernel
theorem dL_law_1092 : decode cL_law 1092 = .ok (.aload_n 1, 1) := by decide +kernel
theorem dL_law_1093 : decode cL_law 1093 = .ok (.aload_n 0, 1) := by decide +kernel
theorem dL_law_1094 : decode cL_law 1094 = .ok (.iload_n 3, 1) := by decide +kernel
theorem dL_law_1095 : decode cL_law 1095 = .ok (.iconst 1, 1) := by decide +kernel
theorem dL_law_1096 : decode cL_law 1096 = .ok (.iadd, 1) := by decide +kernel
theorem dL_law_1097 : decode cL_law 1097 = .ok (.iaload, 1) := by decide +kernel
theorem dL_law_1098 : decode cL_law 1098 = .ok (.aload_n 0, 1) := by decide +kernel
theorem dL_law_1099 : decode cL_law 1099 = .ok (.iload_n 3, 1) := by decide +kernel
theorem dL_law_1100 : decode cL_law 1100 = .ok (.iconst 2, 1) := by decide +kernel
theorem dL_law_1101 : decode cL_law 1101 = .ok (.iadd, 1) := by decide +kernel
theorem dL_law_1102 : decode cL_law 1102 = .ok (.iaload, 1) := by decide +kernel
theorem dL_law_1103 : decode cL_law 1103 = .ok (.invokevirtual 128, 3) := by decide +kernel
theorem dL_law_1106 : decode cL_law 1106 = .ok (.aload_n 2, 1) := by decide +kernel
theorem dL_law_1107 : decode cL_law 1107 = .ok (.aload_n 0, 1) := by decide +kernel
theorem dL_law_1108 : decode cL_law 1108 = .ok (.iload_n 3, 1) := by decide +kernel
theorem dL_law_1109 : decode cL_law 1109 = .ok (.iconst 1, 1) := by decide +kernel
theorem dL_law_1110 : decode cL_law 1110 = .ok (.iadd, 1) := by decide +kernel
theorem dL_law_1111 : decode cL_law 1111 = .ok (.iaload, 1) := by decide +kernel
theorem dL_law_1112 : decode cL_law 1112 = .ok (.aload_n 0, 1) := by decide +kernel
theorem dL_law_1113 : decode cL_law 1113 = .ok (.iload_n 3, 1) := by decide +kernel
theorem dL_law_1114 : decode cL_law 1114 = .ok (.iconst 2, 1) := by decide +kernel
theorem dL_law_1115 : decode cL_law 1115 = .ok (.iadd, 1) := by decide +kernel
theorem dL_law_1116 : decode cL_law 1116 = .ok (.iaload, 1) := by decide +kernel
theorem dL_law_1117 : decode cL_law 1117 = .ok (.invokevirtual 131, 3) := by decide +kernel
theorem dL_law_1120 : decode cL_law 1120 = .ok (.if_icmp .eq 61, 3) := by decide +kernel
theorem dL_law_1123 : decode cL_law 1123 = .ok (.iconst 0, 1) := by decide +kernel
theorem dL_law_1124 : decode cL_law 1124 = .ok (.ireturn, 1) := by decide +kernel
theorem dL_law_1125 : decode cL_law 1125 = .ok (.aload_n 1, 1) := by decide +kernel
theorem dL_law_1126 : decode cL_law 1126 = .ok (.aload_n 0, 1) := by decide +kernel
theorem dL_law_1127 : decode cL_law 1127 = .ok (.iload_n 3, 1) := by decide +kernel
theorem dL_law_1128 : decode cL_law 1128 = .ok (.iconst 1, 1) := by decide +kernel
theorem dL_law_1129 : decode cL_law 1129 = .ok (.iadd, 1) := by decide +kernel
theorem dL_law_1130 : decode cL_law 1130 = .ok (.iaload, 1) := by decide +kernel
theorem dL_law_1131 : decode cL_law 1131 = .ok (.aload_n 0, 1) := by decide +kernel
theorem dL_law_1132 : decode cL_law 1132 = .ok (.iload_n 3, 1) := by decide +kernel
theorem dL_law_1133 : decode cL_law 1133 = .ok (.iconst 2, 1) := by decide +kernel
theorem dL_law_1134 : decode cL_law 1134 = .ok (.iadd, 1) := by decide +kernel
theorem dL_law_1135 : decode cL_law 1135 = .ok (.iaload, 1) := by decide +kernel
theorem dL_law_1136 : decode cL_law 1136 = .ok (.invokevirtual 132, 3) := by decide +kernel
theorem dL_law_1139 : decode cL_law 1139 = .ok (.aload_n 2, 1) := by decide +kernel
theorem dL_law_1140 : decode cL_law 1140 = .ok (.aload_n 0, 1) := by decide +kernel
theorem dL_law_1141 : decode cL_law 1141 = .ok (.iload_n 3, 1) := by decide +kernel
theorem dL_law_1142 : decode cL_law 1142 = .ok (.iconst 1, 1) := by decide +kernel
theorem dL_law_1143 : decode cL_law 1143 = .ok (.iadd, 1) := by decide +kernel
theorem dL_law_1144 : decode cL_law 1144 = .ok (.iaload, 1) := by decide +kernel
theorem dL_law_1145 : decode cL_law 1145 = .ok (.aload_n 0, 1) := by decide +kernel
theorem dL_law_1146 : decode cL_law 1146 = .ok (.iload_n 3, 1) := by decide +kernel
theorem dL_law_1147 : decode cL_law 1147 = .ok (.iconst 2, 1) := by decide +kernel
theorem dL_law_1148 : decode cL_law 1148 = .ok (.iadd, 1) := by decide +kernel
theorem dL_law_1149 : decode cL_law 1149 = .ok (.iaload, 1) := by decide +kernel
theorem dL_law_1150 : decode cL_law 1150 = .ok (.invokevirtual 135, 3) := by decide +kernel
theorem dL_law_1153 : decode cL_law 1153 = .ok (.if_icmp .eq 28, 3) := by decide +kernel
theorem dL_law_1156 : decode cL_law 1156 = .ok (.iconst 0, 1) := by decide +kernel
theorem dL_law_1157 : decode cL_law 1157 = .ok (.ireturn, 1) := by decide +kernel
theorem dL_law_1158 : decode cL_law 1158 = .ok (.aload_n 1, 1) := by decide +kernel
theorem dL_law_1159 : decode cL_law 1159 = .ok (.aload_n 0, 1) := by decide +kernel
theorem dL_law_1160 : decode cL_law 1160 = .ok (.iload_n 3, 1) := by decide +kernel
theorem dL_law_1161 : decode cL_law 1161 = .ok (.iconst 1, 1) := by decide +kernel
theorem dL_law_1162 : decode cL_law 1162 = .ok (.iadd, 1) := by decide +kernel
theorem dL_law_1163 : decode cL_law 1163 = .ok (.iaload, 1) := by decide +kernel
theorem dL_law_1164 : decode cL_law 1164 = .ok (.invokevirtual 136, 3) := by decide +kernel
theorem dL_law_1167 : decode cL_law 1167 = .ok (.aload_n 2, 1) := by decide +kernel
theorem dL_law_1168 : decode cL_law 1168 = .ok (.aload_n 0, 1) := by decide +kernel
theorem dL_law_1169 : decode cL_law 1169 = .ok (.iload_n 3, 1) := by decide +kernel
theorem dL_law_1170 : decode cL_law 1170 = .ok (.iconst 1, 1) := by decide +kernel
theorem dL_law_1171 : decode cL_law 1171 = .ok (.iadd, 1) := by decide +kernel
theorem dL_law_1172 : decode cL_law 1172 = .ok (.iaload, 1) := by decide +kernel
theorem dL_law_1173 : decode cL_law 1173 = .ok (.invokevirtual 139, 3) := by decide +kernel
theorem dL_law_1176 : decode cL_law 1176 = .ok (.if_icmp .eq 5, 3) := by decide +kernel
theorem dL_law_1179 : decode cL_law 1179 = .ok (.iconst 0, 1) := by decide +kernel
theorem dL_law_1180 : decode cL_law 1180 = .ok (.ireturn, 1) := by decide +kernel
theorem dL_law_1181 : decode cL_law 1181 = .ok (.iinc 3 6, 3) := by decide +kernel
theorem dL_law_1184 : decode cL_law 1184 = .ok (.goto (-1166), 3) := by decide +kernel
theorem dL_law_1187 : decode cL_law 1187 = .ok (.iconst 1, 1) := by decide +kernel
theorem dL_law_1188 : decode cL_law 1188 = .ok (.ireturn, 1) := by decide +kernel
end
section
/-! the heap of the system as functions: addresses, kind of each (0..11 objects, 12 rows of ints, 13.. rows of references), lengths, int fields, reference fields, int rows, reference rows -/
def jH : Type := List Nat × (Nat → Nat) × (Nat → Nat) × (Nat → Nat → Int32) × (Nat → Nat → Option Nat) × (Nat → Nat → Int32) × (Nat → Nat → Option Nat)
def h_L (h : jH) : List Nat := h.1
def h_K (h : jH) (a : Nat) : Nat := h.2.1 a
def h_N (h : jH) (a : Nat) : Nat := h.2.2.1 a
def h_I (h : jH) (f a : Nat) : Int32 := h.2.2.2.1 f a
def h_R (h : jH) (f a : Nat) : Option Nat := h.2.2.2.2.1 f a
def h_A (h : jH) (a i : Nat) : Int32 := h.2.2.2.2.2.1 a i
def h_B (h : jH) (a i : Nat) : Option Nat := h.2.2.2.2.2.2 a i
def u2 {α : Type} (g : Nat → Nat → α) (f a : Nat) (v : α) : Nat → Nat → α := fun f' a' => if f' = f then (if a' = a then v else g f' a') else g f' a'
def z2 {α : Type} (g : Nat → Nat → α) (a : Nat) (v : α) : Nat → Nat → α := fun f' a' => if a' = a then v else g f' a'
def r2 {α : Type} (g : Nat → Nat → α) (a : Nat) (v : α) : Nat → Nat → α := fun a' i => if a' = a then v else g a' i
def s_I (h : jH) (f a : Nat) (v : Int32) : jH := (h.1, h.2.1, h.2.2.1, u2 h.2.2.2.1 f a v, h.2.2.2.2.1, h.2.2.2.2.2.1, h.2.2.2.2.2.2)
def s_R (h : jH) (f a : Nat) (v : Option Nat) : jH := (h.1, h.2.1, h.2.2.1, h.2.2.2.1, u2 h.2.2.2.2.1 f a v, h.2.2.2.2.2.1, h.2.2.2.2.2.2)
def s_A (h : jH) (a i : Nat) (v : Int32) : jH := (h.1, h.2.1, h.2.2.1, h.2.2.2.1, h.2.2.2.2.1, u2 h.2.2.2.2.2.1 a i v, h.2.2.2.2.2.2)
def s_B (h : jH) (a i : Nat) (v : Option Nat) : jH := (h.1, h.2.1, h.2.2.1, h.2.2.2.1, h.2.2.2.2.1, h.2.2.2.2.2.1, u2 h.2.2.2.2.2.2 a i v)
def s_O (h : jH) (q k : Nat) : jH := (h.1 ++ [q], va_up h.2.1 q k, h.2.2.1, z2 h.2.2.2.1 q 0, z2 h.2.2.2.2.1 q none, h.2.2.2.2.2.1, h.2.2.2.2.2.2)
def s_N (h : jH) (q k n : Nat) : jH := (h.1 ++ [q], va_up h.2.1 q k, va_up h.2.2.1 q n, h.2.2.2.1, h.2.2.2.2.1, r2 h.2.2.2.2.2.1 q 0, r2 h.2.2.2.2.2.2 q none)
theorem g_LI (h : jH) (f0 a : Nat) (v : Int32) : h_L (s_I h f0 a v) = h_L h := rfl
theorem g_KI (h : jH) (f0 a : Nat) (v : Int32) (b : Nat) : h_K (s_I h f0 a v) b = h_K h b := rfl
theorem g_NI (h : jH) (f0 a : Nat) (v : Int32) (b : Nat) : h_N (s_I h f0 a v) b = h_N h b := rfl
theorem g_II (h : jH) (f0 a : Nat) (v : Int32) (f b : Nat) : h_I (s_I h f0 a v) f b = if f = f0 then (if b = a then v else h_I h f b) else h_I h f b := rfl
theorem g_RI (h : jH) (f0 a : Nat) (v : Int32) (f b : Nat) : h_R (s_I h f0 a v) f b = h_R h f b := rfl
theorem g_AI (h : jH) (f0 a : Nat) (v : Int32) (b j : Nat) : h_A (s_I h f0 a v) b j = h_A h b j := rfl
theorem g_BI (h : jH) (f0 a : Nat) (v : Int32) (b j : Nat) : h_B (s_I h f0 a v) b j = h_B h b j := rfl
theorem g_LR (h : jH) (f0 a : Nat) (v : Option Nat) : h_L (s_R h f0 a v) = h_L h := rfl
theorem g_KR (h : jH) (f0 a : Nat) (v : Option Nat) (b : Nat) : h_K (s_R h f0 a v) b = h_K h b := rfl
theorem g_NR (h : jH) (f0 a : Nat) (v : Option Nat) (b : Nat) : h_N (s_R h f0 a v) b = h_N h b := rfl
theorem g_IR (h : jH) (f0 a : Nat) (v : Option Nat) (f b : Nat) : h_I (s_R h f0 a v) f b = h_I h f b := rfl
theorem g_RR (h : jH) (f0 a : Nat) (v : Option Nat) (f b : Nat) : h_R (s_R h f0 a v) f b = if f = f0 then (if b = a then v else h_R h f b) else h_R h f b := rfl
theorem g_AR (h : jH) (f0 a : Nat) (v : Option Nat) (b j : Nat) : h_A (s_R h f0 a v) b j = h_A h b j := rfl
theorem g_BR (h : jH) (f0 a : Nat) (v : Option Nat) (b j : Nat) : h_B (s_R h f0 a v) b j = h_B h b j := rfl
theorem g_LA (h : jH) (a i : Nat) (v : Int32) : h_L (s_A h a i v) = h_L h := rfl
theorem g_KA (h : jH) (a i : Nat) (v : Int32) (b : Nat) : h_K (s_A h a i v) b = h_K h b := rfl
theorem g_NA (h : jH) (a i : Nat) (v : Int32) (b : Nat) : h_N (s_A h a i v) b = h_N h b := rfl
theorem g_IA (h : jH) (a i : Nat) (v : Int32) (f b : Nat) : h_I (s_A h a i v) f b = h_I h f b := rfl
theorem g_RA (h : jH) (a i : Nat) (v : Int32) (f b : Nat) : h_R (s_A h a i v) f b = h_R h f b := rfl
theorem g_AA (h : jH) (a i : Nat) (v : Int32) (b j : Nat) : h_A (s_A h a i v) b j = if b = a then (if j = i then v else h_A h b j) else h_A h b j := rfl
theorem g_BA (h : jH) (a i : Nat) (v : Int32) (b j : Nat) : h_B (s_A h a i v) b j = h_B h b j := rfl
theorem g_LB (h : jH) (a i : Nat) (v : Option Nat) : h_L (s_B h a i v) = h_L h := rfl
theorem g_KB (h : jH) (a i : Nat) (v : Option Nat) (b : Nat) : h_K (s_B h a i v) b = h_K h b := rfl
theorem g_NB (h : jH) (a i : Nat) (v : Option Nat) (b : Nat) : h_N (s_B h a i v) b = h_N h b := rfl
theorem g_IB (h : jH) (a i : Nat) (v : Option Nat) (f b : Nat) : h_I (s_B h a i v) f b = h_I h f b := rfl
theorem g_RB (h : jH) (a i : Nat) (v : Option Nat) (f b : Nat) : h_R (s_B h a i v) f b = h_R h f b := rfl
theorem g_AB (h : jH) (a i : Nat) (v : Option Nat) (b j : Nat) : h_A (s_B h a i v) b j = h_A h b j := rfl
theorem g_BB (h : jH) (a i : Nat) (v : Option Nat) (b j : Nat) : h_B (s_B h a i v) b j = if b = a then (if j = i then v else h_B h b j) else h_B h b j := rfl
theorem g_LO (h : jH) (q k : Nat) : h_L (s_O h q k) = h_L h ++ [q] := rfl
theorem g_KO (h : jH) (q k b : Nat) : h_K (s_O h q k) b = if b = q then k else h_K h b := rfl
theorem g_NO (h : jH) (q k b : Nat) : h_N (s_O h q k) b = h_N h b := rfl
theorem g_IO (h : jH) (q k f b : Nat) : h_I (s_O h q k) f b = if b = q then 0 else h_I h f b := rfl
theorem g_RO (h : jH) (q k f b : Nat) : h_R (s_O h q k) f b = if b = q then none else h_R h f b := rfl
theorem g_AO (h : jH) (q k b j : Nat) : h_A (s_O h q k) b j = h_A h b j := rfl
theorem g_BO (h : jH) (q k b j : Nat) : h_B (s_O h q k) b j = h_B h b j := rfl
theorem g_LN (h : jH) (q k n : Nat) : h_L (s_N h q k n) = h_L h ++ [q] := rfl
theorem g_KN (h : jH) (q k n b : Nat) : h_K (s_N h q k n) b = if b = q then k else h_K h b := rfl
theorem g_NN (h : jH) (q k n b : Nat) : h_N (s_N h q k n) b = if b = q then n else h_N h b := rfl
theorem g_IN (h : jH) (q k n f b : Nat) : h_I (s_N h q k n) f b = h_I h f b := rfl
theorem g_RN (h : jH) (q k n f b : Nat) : h_R (s_N h q k n) f b = h_R h f b := rfl
theorem g_AN (h : jH) (q k n b j : Nat) : h_A (s_N h q k n) b j = if b = q then 0 else h_A h b j := rfl
theorem g_BN (h : jH) (q k n b j : Nat) : h_B (s_N h q k n) b j = if b = q then none else h_B h b j := rfl
def nf (c : Nat) : Nat := ([1, 4, 12, 7, 1, 5, 20, 8, 4, 3, 5, 49] : List Nat).getD c 0
def rfb (c k : Nat) : Bool := (([[true], [true, false, false, false], [false, true, false, true, false, true, false, false, true, false, false, false], [false, false, false, false, false, true, true], [true], [true, false, false, false, false], [false, false, false, false, true, true, true, false, false, false, false, false, false, true, false, false, false, false, false, false], [true, true, true, true, true, true, false, false], [true, false, false, false], [true, false, false], [true, true, true, true, true], [false, false, false, false, false, false, false, false, false, true, true, true, true, true, true, true, true, true, true, true, true, true, true, true, true, true, true, true, true, true, true, true, true, true, true, true, true, true, true, true, true, true, true, true, true, true, true, true, true]] : List (List Bool)).getD c []).getD k false
def fv (c k : Nat) (h : jH) (a : Nat) : Value := if rfb c k = true then va_rf (h_R h (64 * c + k) a) else .int (h_I h (64 * c + k) a)
def fl (c : Nat) (h : jH) (a : Nat) : List Value := (List.range (nf c)).map (fun k => fv c k h a)
def pf (cy : Nat → ClassId) (h : jH) (a : Nat) : va_E := if h_K h a < 12 then .inr (h_K h a, fl (h_K h a) h a) else if h_K h a = 12 then .inl (cy 12, h_N h a, .inl (h_A h a)) else .inl (cy (h_K h a), h_N h a, .inr (.inr (.inr (.inr (h_B h a)))))
def pool (cy : Nat → ClassId) (h : jH) : va_W := [] ++ va_pl (h_L h) (pf cy h)
def h_ok (h : jH) (a k : Nat) : Prop := a ∈ h_L h ∧ h_K h a = k
theorem fl_len (c : Nat) (h : jH) (a : Nat) : (fl c h a).length = nf c := by simp [fl]
theorem fl_get {c k : Nat} (h : jH) (a : Nat) (hk : k < nf c) : (fl c h a)[k]? = some (fv c k h a) := by simp [fl, hk]
theorem fl_set {c k : Nat} {h h' : jH} {a : Nat} {v : Value} (hk : k < nf c) (h1 : fv c k h' a = v) (h2 : ∀ j, j < nf c → j ≠ k → fv c j h' a = fv c j h a) : (fl c h a).set k v = fl c h' a := by
  apply List.ext_getElem?
  intro j
  rw [List.getElem?_set, fl_len]
  by_cases hj : k = j
  · subst hj
    rw [if_pos rfl, if_pos hk, fl_get h' a hk, h1]
  · rw [if_neg hj]
    by_cases hl : j < nf c
    · rw [fl_get h a hl, fl_get h' a hl, h2 j hl (fun e => hj e.symm)]
    · rw [List.getElem?_eq_none (by rw [fl_len]; omega), List.getElem?_eq_none (by rw [fl_len]; omega)]
theorem fv_congr {c k : Nat} {h h' : jH} {a : Nat} (h1 : ∀ f, h_I h' f a = h_I h f a) (h2 : ∀ f, h_R h' f a = h_R h f a) : fv c k h' a = fv c k h a := by unfold fv; rw [h1, h2]
theorem fl_congr {c : Nat} {h h' : jH} {a : Nat} (h1 : ∀ f, h_I h' f a = h_I h f a) (h2 : ∀ f, h_R h' f a = h_R h f a) : fl c h' a = fl c h a := by
  unfold fl
  exact List.map_congr_left (fun k _ => fv_congr h1 h2)
theorem pf_obj {cy : Nat → ClassId} {h : jH} {a c : Nat} (hk : h_K h a = c) (hc : c < 12) : pf cy h a = .inr (c, fl c h a) := by
  subst hk
  unfold pf
  rw [if_pos hc]
theorem pf_int {cy : Nat → ClassId} {h : jH} {a : Nat} (hk : h_K h a = 12) : pf cy h a = .inl (cy 12, h_N h a, .inl (h_A h a)) := by
  unfold pf
  rw [if_neg (by rw [hk]; decide), if_pos hk]
theorem pf_ref {cy : Nat → ClassId} {h : jH} {a k : Nat} (hk : h_K h a = k) (hc : 12 < k) : pf cy h a = .inl (cy k, h_N h a, .inr (.inr (.inr (.inr (h_B h a))))) := by
  subst hk
  unfold pf
  rw [if_neg (by omega), if_neg (by omega)]
theorem pf_congr {cy : Nat → ClassId} {h h' : jH} {a : Nat} (h0 : h_K h' a = h_K h a) (h00 : h_N h' a = h_N h a) (h1 : ∀ f, h_I h' f a = h_I h f a) (h2 : ∀ f, h_R h' f a = h_R h f a) (h3 : ∀ j, h_A h' a j = h_A h a j) (h4 : ∀ j, h_B h' a j = h_B h a j) : pf cy h' a = pf cy h a := by
  unfold pf
  rw [h0, h00, fl_congr h1 h2, show h_A h' a = h_A h a from funext h3, show h_B h' a = h_B h a from funext h4]
theorem pool_get {cy : Nat → ClassId} {h : jH} {a : Nat} (hL : a ∈ h_L h) : ∃ k : Nat, (pool cy h)[k]? = some (a, pf cy h a) := va_pl_get hL
theorem pool_set {cy : Nat → ClassId} {h h' : jH} {A : Nat → Prop} {a k : Nat} {e : va_E} (hD : va_D A (pool cy h)) (hL : a ∈ h_L h) (hk : (pool cy h)[k]? = some (a, pf cy h a)) (hl : h_L h' = h_L h) (he : pf cy h' a = e) (ho : ∀ b, b ≠ a → pf cy h' b = pf cy h b) : (pool cy h).set k (a, e) = pool cy h' := by
  unfold pool
  rw [va_pl_set hD hL hk, hl]
  refine congrArg (fun l => [] ++ l) (va_pl_congr (fun b => ?_))
  by_cases hb : b = a
  · subst hb; rw [va_up_self, he]
  · rw [va_up_ne _ _ hb, ho b hb]
theorem pool_push {cy : Nat → ClassId} {h h' : jH} {q : Nat} {e : va_E} (hq : q ∉ h_L h) (hl : h_L h' = h_L h ++ [q]) (he : pf cy h' q = e) (ho : ∀ b, b ≠ q → pf cy h' b = pf cy h b) : pool cy h ++ [(q, e)] = pool cy h' := by
  unfold pool
  rw [List.append_assoc, va_pl_push hq, hl]
  refine congrArg (fun l => [] ++ l) (va_pl_congr (fun b => ?_))
  by_cases hb : b = q
  · subst hb; rw [va_up_self, he]
  · rw [va_up_ne _ _ hb, ho b hb]
theorem pool_fresh {cy : Nat → ClassId} {h : jH} {A : Nat → Prop} {q : Nat} {e : va_E} (hD : va_D A (pool cy h ++ [(q, e)])) : q ∉ h_L h := va_pl_fresh2 hD
theorem fid_ne {c j k : Nat} (h : j ≠ k) : ¬ (64 * c + j = 64 * c + k) := fun e => h (by omega)
theorem pset_I {cy : Nat → ClassId} {h : jH} {A : Nat → Prop} {a k c i : Nat} {v : Int32} (hD : va_D A (pool cy h)) (hL : h_ok h a c) (hc : c < 12) (hi : i < nf c) (hb : rfb c i = false) (hk : (pool cy h)[k]? = some (a, pf cy h a)) : (pool cy h).set k (a, .inr (c, (fl c h a).set i (.int v))) = pool cy (s_I h (64 * c + i) a v) := by
  refine pool_set hD hL.1 hk rfl ?_ (fun b hb => pf_congr rfl rfl (fun f => by rw [g_II]; simp [hb]) (fun _ => rfl) (fun _ => rfl) (fun _ => rfl))
  rw [pf_obj (c := c) (by exact hL.2) hc, fl_set (h' := s_I h (64 * c + i) a v) hi]
  · unfold fv; rw [hb, g_II]; simp
  · intro j hj hne
    unfold fv
    rw [g_RI, g_II, if_neg (fid_ne hne)]
theorem pset_R {cy : Nat → ClassId} {h : jH} {A : Nat → Prop} {a k c i : Nat} {v : Option Nat} (hD : va_D A (pool cy h)) (hL : h_ok h a c) (hc : c < 12) (hi : i < nf c) (hb : rfb c i = true) (hk : (pool cy h)[k]? = some (a, pf cy h a)) : (pool cy h).set k (a, .inr (c, (fl c h a).set i (va_rf v))) = pool cy (s_R h (64 * c + i) a v) := by
  refine pool_set hD hL.1 hk rfl ?_ (fun b hb => pf_congr rfl rfl (fun _ => rfl) (fun f => by rw [g_RR]; simp [hb]) (fun _ => rfl) (fun _ => rfl))
  rw [pf_obj (c := c) (by exact hL.2) hc, fl_set (h' := s_R h (64 * c + i) a v) hi]
  · unfold fv; rw [hb, g_RR]; simp
  · intro j hj hne
    unfold fv
    rw [g_RR, g_IR, if_neg (fid_ne hne)]
theorem pset_A {cy : Nat → ClassId} {h : jH} {A : Nat → Prop} {a k i : Nat} {v : Int32} (hD : va_D A (pool cy h)) (hL : h_ok h a 12) (hk : (pool cy h)[k]? = some (a, pf cy h a)) : (pool cy h).set k (a, .inl (cy 12, h_N h a, .inl (upd (h_A h a) i v))) = pool cy (s_A h a i v) := by
  refine pool_set hD hL.1 hk rfl ?_ (fun b hb => pf_congr rfl rfl (fun _ => rfl) (fun _ => rfl) (fun j => by rw [g_AA]; simp [hb]) (fun _ => rfl))
  rw [pf_int (show h_K (s_A h a i v) a = 12 from hL.2), show h_A (s_A h a i v) a = upd (h_A h a) i v from funext fun j => by rw [g_AA]; simp [upd], g_NA]
theorem pset_B {cy : Nat → ClassId} {h : jH} {A : Nat → Prop} {a k i c : Nat} {v : Option Nat} (hD : va_D A (pool cy h)) (hL : h_ok h a c) (hc : 12 < c) (hk : (pool cy h)[k]? = some (a, pf cy h a)) : (pool cy h).set k (a, .inl (cy c, h_N h a, .inr (.inr (.inr (.inr (va_up (h_B h a) i v)))))) = pool cy (s_B h a i v) := by
  refine pool_set hD hL.1 hk rfl ?_ (fun b hb => pf_congr rfl rfl (fun _ => rfl) (fun _ => rfl) (fun _ => rfl) (fun j => by rw [g_BB]; simp [hb]))
  rw [pf_ref (show h_K (s_B h a i v) a = c from hL.2) hc, show h_B (s_B h a i v) a = va_up (h_B h a) i v from funext fun j => by rw [g_BB]; simp [va_up], g_NB]
def jTys (cy : Nat → ClassId) : List (ClassId × FieldType) := [(cy 12, .int), (cy 13, .object "CleanSeed$Bag"), (cy 14, .object "CleanSeed$Field"), (cy 15, .object "CleanSeed$Lot"), (cy 16, .object "CleanSeed$Statute"), (cy 17, .object "CleanSeed$Telling")]

/-- the machine, in a method of the system, at pc, with these locals, this stack and this heap, comes to Q -/
def jW (p : Program) (l : Launch) (e : Env) (R : Room) (s : State) (m : MethodId) (args : Array Value) (below : List Frame) (meth : Method) (c : Code) (D : va_G) (cy : Nat → ClassId) (A : Nat → Prop) (nL cells slots : Nat) (Q : State → Prop) (h : jH) (lv : List (Nat × Value)) (pc : Nat) (st : List Value) : Prop :=
  ∀ (H : Heap) (locs : List Loc) (ls : Array Slot), va_P D vwCl (pool cy h) H → va_D A (pool cy h) → va_S A s.heap H locs → lv_has ls nL lv → W p l e R s m args below meth c H locs cells slots Q (F0 m pc ls st)
/-- the two rows of numbers that the class keeps in statics, outside A -/
def stT (j : Nat) : Value := .int (([1000, 10, 5, 1000, 8] : List Int32).getD j 0)
def stF (j : Nat) : Value := .int (([50, 2, 1, 10, 6] : List Int32).getD j 0)
def jSt (A : Nat → Prop) (U : State) (H : Heap) : Prop := (∃ t : Nat, va_Z "CleanSeed" "STATUTE_TOPS" "[I" (.ref t) A U H ∧ va_T .int t 5 stT A U H) ∧ ∃ t : Nat, va_Z "CleanSeed" "STATUTES_AT_FIRST" "[I" (.ref t) A U H ∧ va_T .int t 5 stF A U H
theorem jSt.moved {A : Nat → Prop} {u U : State} {H : Heap} (hvm : u.vm.Alike U.vm) (h : jSt A u H) : jSt A U H := by
  obtain ⟨⟨t, h1, h2⟩, t2, h3, h4⟩ := h
  exact ⟨⟨t, h1.moved hvm, h2.moved hvm⟩, t2, h3.moved hvm, h4.moved hvm⟩
theorem jSt.kept {A : Nat → Prop} {U : State} {H H1 : Heap} (h : jSt A U H) (hq : ∀ a : Nat, a < H.size → ¬ A a → H1[a]? = H[a]?) : jSt A U H1 := by
  obtain ⟨⟨t, h1, h2⟩, t2, h3, h4⟩ := h
  exact ⟨⟨t, h1.kept hq, h2.kept hq⟩, t2, h3.kept hq, h4.kept hq⟩
theorem jSt.narrow {A B : Nat → Prop} {U : State} {H : Heap} (h : jSt A U H) (hAB : ∀ q, B q → A q) : jSt B U H := by
  obtain ⟨⟨t, h1, h2⟩, t2, h3, h4⟩ := h
  exact ⟨⟨t, h1.narrow hAB, h2.narrow hAB⟩, t2, h3.narrow hAB, h4.narrow hAB⟩
/-- what holds all through a method of class own with the bytes cc -/
def jC (p : Program) (s : State) (m : MethodId) (args : Array Value) (meth : Method) (c : Code) (D : va_G) (cy : Nat → ClassId) (A : Nat → Prop) (nL : Nat) (own : String) (cc : ByteArray) : Prop :=
  p.tables.exec = Jvm.exec ∧ c.code = cc ∧ c.maxLocals = nL ∧ s.vm.findClass own = some m.cls ∧ (∀ w ∈ wall, w.before args s = true) ∧ va_K D vwCl (jTys cy) s ∧ (∀ q, s.heap.size ≤ q → A q) ∧ meth.locks = false ∧ jSt A s s.heap
def jg (lv : List (Nat × Value)) (i : Nat) : Option Value := (lv.find? (fun q => q.1 == i)).map Prod.snd
def js (lv : List (Nat × Value)) (i : Nat) (v : Value) : List (Nat × Value) := lv.filter (fun q => Nat.blt q.1 i && !(q.1 + 1 == i && q.2.category == 2)) ++ (i, v) :: lv.filter (fun q => Nat.blt i q.1)
def js2 (lv : List (Nat × Value)) (i : Nat) (v : Value) : List (Nat × Value) := lv.filter (fun q => Nat.blt q.1 i && !(q.1 + 1 == i && q.2.category == 2)) ++ (i, v) :: lv.filter (fun q => Nat.blt (i + 1) q.1)
theorem jg_has {ls : Array Slot} {nL i : Nat} {lv : List (Nat × Value)} {v : Value} (h : lv_has ls nL lv) (hg : jg lv i = some v) : ls[i]? = some (.val v) := by
  unfold jg at hg
  cases hf : lv.find? (fun q => q.1 == i) with
  | none => rw [hf] at hg; cases hg
  | some q =>
    rw [hf] at hg
    have h1 := List.find?_some hf
    have h2 := h.2.2 q (List.mem_of_find?_eq_some hf)
    have h3 : q.1 = i := by simpa using h1
    have h4 : q.2 = v := by simpa using hg
    rw [← h3, ← h4]; exact h2
theorem js_has {ls : Array Slot} {nL i : Nat} {lv lv' : List (Nat × Value)} {v : Value} (h : lv_has ls nL ((i, v) :: lv.filter (fun q => !(q.1 == i) && !(q.1 + 1 == i && q.2.category == 2)))) (e : js lv i v = lv') : lv_has ls nL lv' := by
  subst e
  refine ⟨h.1, h.2.1, fun q hq => h.2.2 q ?_⟩
  unfold js at hq
  simp only [List.mem_append, List.mem_cons, List.mem_filter, Nat.blt_eq, Bool.and_eq_true] at hq ⊢
  rcases hq with ⟨h1, h2, h3⟩ | rfl | ⟨h1, h2⟩
  · exact Or.inr ⟨h1, by simp; omega, h3⟩
  · exact Or.inl rfl
  · refine Or.inr ⟨h1, by simp; omega, ?_⟩
    have : (q.1 + 1 == i) = false := by simp; omega
    rw [this]; rfl
theorem js2_has {ls : Array Slot} {nL i : Nat} {lv lv' : List (Nat × Value)} {v : Value} (h : lv_has ls nL ((i, v) :: lv.filter (fun q => !(q.1 == i) && (!(q.1 == i + 1) && !(q.1 + 1 == i && q.2.category == 2))))) (e : js2 lv i v = lv') : lv_has ls nL lv' := by
  subst e
  refine ⟨h.1, h.2.1, fun q hq => h.2.2 q ?_⟩
  unfold js2 at hq
  simp only [List.mem_append, List.mem_cons, List.mem_filter, Nat.blt_eq, Bool.and_eq_true] at hq ⊢
  rcases hq with ⟨h1, h2, h3⟩ | rfl | ⟨h1, h2⟩
  · exact Or.inr ⟨h1, by simp; omega, by simp; omega, h3⟩
  · exact Or.inl rfl
  · refine Or.inr ⟨h1, by simp; omega, by simp; omega, ?_⟩
    have : (q.1 + 1 == i) = false := by simp; omega
    rw [this]; rfl
section JROWS
variable {p : Program} {l : Launch} {e : Env} {R : Room} {s : State} {m : MethodId} {args : Array Value} {below : List Frame} {meth : Method} {c : Code} {D : va_G} {cy : Nat → ClassId} {A : Nat → Prop} {nL cells slots : Nat} {Q : State → Prop} {own : String} {cc : ByteArray} {h : jH} {lv lv' : List (Nat × Value)} {pc : Nat} {st : List Value}
theorem j_iconst (C : jC p s m args meth c D cy A nL own cc) {n : Int} {v : Int32} (hd : decode cc pc = .ok (.iconst n, 1)) (hv : Int32.ofInt n = v) (k : jW p l e R s m args below meth c D cy A nL cells slots Q h lv (pc + 1) (.int v :: st)) : jW p l e R s m args below meth c D cy A nL cells slots Q h lv pc (st) := fun H locs ls hP hD hS hl => lv_iconst C.1 C.2.1 hd hv (k H locs ls hP hD hS hl)
theorem j_bipush (C : jC p s m args meth c D cy A nL own cc) {n : Int} {v : Int32} (hd : decode cc pc = .ok (.bipush n, 2)) (hv : (Int8.ofInt n).toInt32 = v) (k : jW p l e R s m args below meth c D cy A nL cells slots Q h lv (pc + 2) (.int v :: st)) : jW p l e R s m args below meth c D cy A nL cells slots Q h lv pc (st) := fun H locs ls hP hD hS hl => lv_bipush C.1 C.2.1 hd hv (k H locs ls hP hD hS hl)
theorem j_sipush (C : jC p s m args meth c D cy A nL own cc) {n : Int} {v : Int32} (hd : decode cc pc = .ok (.sipush n, 3)) (hv : (Int16.ofInt n).toInt32 = v) (k : jW p l e R s m args below meth c D cy A nL cells slots Q h lv (pc + 3) (.int v :: st)) : jW p l e R s m args below meth c D cy A nL cells slots Q h lv pc (st) := fun H locs ls hP hD hS hl => lv_sipush C.1 C.2.1 hd hv (k H locs ls hP hD hS hl)
theorem j_lconst (C : jC p s m args meth c D cy A nL own cc) {n : Fin 2} {v : Int64} (hd : decode cc pc = .ok (.lconst n, 1)) (hv : Int64.ofNat (n : Nat) = v) (k : jW p l e R s m args below meth c D cy A nL cells slots Q h lv (pc + 1) (.long v :: st)) : jW p l e R s m args below meth c D cy A nL cells slots Q h lv pc (st) := fun H locs ls hP hD hS hl => lv_lconst C.1 C.2.1 hd hv (k H locs ls hP hD hS hl)
theorem j_null (C : jC p s m args meth c D cy A nL own cc)  (hd : decode cc pc = .ok (.aconst_null, 1)) (k : jW p l e R s m args below meth c D cy A nL cells slots Q h lv (pc + 1) (.null :: st)) : jW p l e R s m args below meth c D cy A nL cells slots Q h lv pc (st) := fun H locs ls hP hD hS hl => lv_null C.1 C.2.1 hd (k H locs ls hP hD hS hl)
theorem j_ldc (C : jC p s m args meth c D cy A nL own cc) {i : Nat} {v : Int32} (hd : decode cc pc = .ok (.ldc i, 2)) (hv : Cond.constant own i v ∈ wall) (k : jW p l e R s m args below meth c D cy A nL cells slots Q h lv (pc + 2) (.int v :: st)) : jW p l e R s m args below meth c D cy A nL cells slots Q h lv pc (st) := fun H locs ls hP hD hS hl => lv_ldc C.1 C.2.1 C.2.2.2.1 (C.2.2.2.2.1 _ hv) hd (k H locs ls hP hD hS hl)
theorem j_ldc2 (C : jC p s m args meth c D cy A nL own cc) {i : Nat} {v : Int64} (hd : decode cc pc = .ok (.ldc2_w i, 3)) (hv : Cond.constantLong own i v ∈ wall) (k : jW p l e R s m args below meth c D cy A nL cells slots Q h lv (pc + 3) (.long v :: st)) : jW p l e R s m args below meth c D cy A nL cells slots Q h lv pc (st) := fun H locs ls hP hD hS hl => lv_ldc2 C.1 C.2.1 C.2.2.2.1 (C.2.2.2.2.1 _ hv) hd (k H locs ls hP hD hS hl)
theorem j_iload (C : jC p s m args meth c D cy A nL own cc) {i : Nat} {x : Int32} (hd : decode cc pc = .ok (.iload i, 2)) (hg : jg lv i = some (.int x)) (k : jW p l e R s m args below meth c D cy A nL cells slots Q h lv (pc + 2) (.int x :: st)) : jW p l e R s m args below meth c D cy A nL cells slots Q h lv pc (st) := fun H locs ls hP hD hS hl => lv_iload C.1 C.2.1 hd (jg_has hl hg) (k H locs ls hP hD hS hl)
theorem j_iload_n (C : jC p s m args meth c D cy A nL own cc) {n : Fin 4} {x : Int32} (hd : decode cc pc = .ok (.iload_n n, 1)) (hg : jg lv n.val = some (.int x)) (k : jW p l e R s m args below meth c D cy A nL cells slots Q h lv (pc + 1) (.int x :: st)) : jW p l e R s m args below meth c D cy A nL cells slots Q h lv pc (st) := fun H locs ls hP hD hS hl => lv_iload_n C.1 C.2.1 hd rfl (jg_has hl hg) (k H locs ls hP hD hS hl)
theorem j_aload (C : jC p s m args meth c D cy A nL own cc) {i : Nat} {x : Nat} (hd : decode cc pc = .ok (.aload i, 2)) (hg : jg lv i = some (.ref x)) (k : jW p l e R s m args below meth c D cy A nL cells slots Q h lv (pc + 2) (.ref x :: st)) : jW p l e R s m args below meth c D cy A nL cells slots Q h lv pc (st) := fun H locs ls hP hD hS hl => lv_aload C.1 C.2.1 hd (jg_has hl hg) (k H locs ls hP hD hS hl)
theorem j_aload_n (C : jC p s m args meth c D cy A nL own cc) {n : Fin 4} {x : Nat} (hd : decode cc pc = .ok (.aload_n n, 1)) (hg : jg lv n.val = some (.ref x)) (k : jW p l e R s m args below meth c D cy A nL cells slots Q h lv (pc + 1) (.ref x :: st)) : jW p l e R s m args below meth c D cy A nL cells slots Q h lv pc (st) := fun H locs ls hP hD hS hl => lv_aload_n C.1 C.2.1 hd rfl (jg_has hl hg) (k H locs ls hP hD hS hl)
theorem j_lload (C : jC p s m args meth c D cy A nL own cc) {i : Nat} {x : Int64} (hd : decode cc pc = .ok (.lload i, 2)) (hg : jg lv i = some (.long x)) (k : jW p l e R s m args below meth c D cy A nL cells slots Q h lv (pc + 2) (.long x :: st)) : jW p l e R s m args below meth c D cy A nL cells slots Q h lv pc (st) := fun H locs ls hP hD hS hl => lv_lload C.1 C.2.1 hd (jg_has hl hg) (k H locs ls hP hD hS hl)
theorem j_lload_n (C : jC p s m args meth c D cy A nL own cc) {n : Fin 4} {x : Int64} (hd : decode cc pc = .ok (.lload_n n, 1)) (hg : jg lv n.val = some (.long x)) (k : jW p l e R s m args below meth c D cy A nL cells slots Q h lv (pc + 1) (.long x :: st)) : jW p l e R s m args below meth c D cy A nL cells slots Q h lv pc (st) := fun H locs ls hP hD hS hl => lv_lload_n C.1 C.2.1 hd rfl (jg_has hl hg) (k H locs ls hP hD hS hl)
theorem j_aloadN (C : jC p s m args meth c D cy A nL own cc) {i : Nat} (hd : decode cc pc = .ok (.aload i, 2)) (hg : jg lv i = some .null) (k : jW p l e R s m args below meth c D cy A nL cells slots Q h lv (pc + 2) (.null :: st)) : jW p l e R s m args below meth c D cy A nL cells slots Q h lv pc (st) := fun H locs ls hP hD hS hl => lv_aloadN C.1 C.2.1 hd (jg_has hl hg) (k H locs ls hP hD hS hl)
theorem j_aload_nN (C : jC p s m args meth c D cy A nL own cc) {n : Fin 4} (hd : decode cc pc = .ok (.aload_n n, 1)) (hg : jg lv n.val = some .null) (k : jW p l e R s m args below meth c D cy A nL cells slots Q h lv (pc + 1) (.null :: st)) : jW p l e R s m args below meth c D cy A nL cells slots Q h lv pc (st) := fun H locs ls hP hD hS hl => lv_aload_nN C.1 C.2.1 hd rfl (jg_has hl hg) (k H locs ls hP hD hS hl)
theorem j_istore (C : jC p s m args meth c D cy A nL own cc) {i : Nat} {x : Int32} (hd : decode cc pc = .ok (.istore i, 2)) (hn : i < nL) (he : js lv i (.int x) = lv') (k : jW p l e R s m args below meth c D cy A nL cells slots Q h lv' (pc + 2) st) : jW p l e R s m args below meth c D cy A nL cells slots Q h lv pc (.int x :: st) := fun H locs ls hP hD hS hl => lv_istore C.1 C.2.1 hd hl hn rfl (fun ls2 hl2 => k H locs ls2 hP hD hS (js_has hl2 he))
theorem j_istore_n (C : jC p s m args meth c D cy A nL own cc) {n : Fin 4} {x : Int32} (hd : decode cc pc = .ok (.istore_n n, 1)) (hn : n.val < nL) (he : js lv n.val (.int x) = lv') (k : jW p l e R s m args below meth c D cy A nL cells slots Q h lv' (pc + 1) st) : jW p l e R s m args below meth c D cy A nL cells slots Q h lv pc (.int x :: st) := fun H locs ls hP hD hS hl => lv_istore_n C.1 C.2.1 hd rfl hl hn rfl (fun ls2 hl2 => k H locs ls2 hP hD hS (js_has hl2 he))
theorem j_astore (C : jC p s m args meth c D cy A nL own cc) {i : Nat} {x : Nat} (hd : decode cc pc = .ok (.astore i, 2)) (hn : i < nL) (he : js lv i (.ref x) = lv') (k : jW p l e R s m args below meth c D cy A nL cells slots Q h lv' (pc + 2) st) : jW p l e R s m args below meth c D cy A nL cells slots Q h lv pc (.ref x :: st) := fun H locs ls hP hD hS hl => lv_astore C.1 C.2.1 hd hl hn rfl (fun ls2 hl2 => k H locs ls2 hP hD hS (js_has hl2 he))
theorem j_astore_n (C : jC p s m args meth c D cy A nL own cc) {n : Fin 4} {x : Nat} (hd : decode cc pc = .ok (.astore_n n, 1)) (hn : n.val < nL) (he : js lv n.val (.ref x) = lv') (k : jW p l e R s m args below meth c D cy A nL cells slots Q h lv' (pc + 1) st) : jW p l e R s m args below meth c D cy A nL cells slots Q h lv pc (.ref x :: st) := fun H locs ls hP hD hS hl => lv_astore_n C.1 C.2.1 hd rfl hl hn rfl (fun ls2 hl2 => k H locs ls2 hP hD hS (js_has hl2 he))
theorem j_lstore (C : jC p s m args meth c D cy A nL own cc) {i : Nat} {x : Int64} (hd : decode cc pc = .ok (.lstore i, 2)) (hn : i + 1 < nL) (he : js2 lv i (.long x) = lv') (k : jW p l e R s m args below meth c D cy A nL cells slots Q h lv' (pc + 2) st) : jW p l e R s m args below meth c D cy A nL cells slots Q h lv pc (.long x :: st) := fun H locs ls hP hD hS hl => lv_lstore C.1 C.2.1 hd hl hn rfl (fun ls2 hl2 => k H locs ls2 hP hD hS (js2_has hl2 he))
theorem j_astoreN (C : jC p s m args meth c D cy A nL own cc) {i : Nat} (hd : decode cc pc = .ok (.astore i, 2)) (hn : i < nL) (he : js lv i .null = lv') (k : jW p l e R s m args below meth c D cy A nL cells slots Q h lv' (pc + 2) st) : jW p l e R s m args below meth c D cy A nL cells slots Q h lv pc (.null :: st) := fun H locs ls hP hD hS hl => lv_astoreN C.1 C.2.1 hd hl hn rfl (fun ls2 hl2 => k H locs ls2 hP hD hS (js_has hl2 he))
theorem j_astore_nN (C : jC p s m args meth c D cy A nL own cc) {n : Fin 4} (hd : decode cc pc = .ok (.astore_n n, 1)) (hn : n.val < nL) (he : js lv n.val .null = lv') (k : jW p l e R s m args below meth c D cy A nL cells slots Q h lv' (pc + 1) st) : jW p l e R s m args below meth c D cy A nL cells slots Q h lv pc (.null :: st) := fun H locs ls hP hD hS hl => lv_astore_nN C.1 C.2.1 hd rfl hl hn rfl (fun ls2 hl2 => k H locs ls2 hP hD hS (js_has hl2 he))
theorem j_iinc (C : jC p s m args meth c D cy A nL own cc) {i : Nat} {n : Int} {x v : Int32} (hd : decode cc pc = .ok (.iinc i n, 3)) (hg : jg lv i = some (.int x)) (hv : x + Int32.ofInt n = v) (hn : i < nL) (he : js lv i (.int v) = lv') (k : jW p l e R s m args below meth c D cy A nL cells slots Q h lv' (pc + 3) st) : jW p l e R s m args below meth c D cy A nL cells slots Q h lv pc st := fun H locs ls hP hD hS hl => by
  have hm : (i, Value.int x) ∈ lv := by
    unfold jg at hg
    cases hf : lv.find? (fun q => q.1 == i) with
    | none => rw [hf] at hg; cases hg
    | some q =>
      rw [hf] at hg
      have h1 := List.find?_some hf
      have h3 : q.1 = i := by simpa using h1
      have h4 : q.2 = .int x := by simpa using hg
      have h5 := List.mem_of_find?_eq_some hf
      rw [← h3, ← h4]; exact h5
  obtain ⟨kk, hkk⟩ := List.getElem?_of_mem hm
  exact lv_iinc C.1 C.2.1 hd hl hkk hv hn rfl (fun ls2 hl2 => k H locs ls2 hP hD hS (js_has hl2 he))
theorem j_iadd (C : jC p s m args meth c D cy A nL own cc) {x y : Int32} (hd : decode cc pc = .ok (.iadd, 1)) (k : jW p l e R s m args below meth c D cy A nL cells slots Q h lv (pc + 1) (.int (x + y) :: st)) : jW p l e R s m args below meth c D cy A nL cells slots Q h lv pc (.int y :: .int x :: st) := fun H locs ls hP hD hS hl => lv_iadd C.1 C.2.1 hd (k H locs ls hP hD hS hl)
theorem j_isub (C : jC p s m args meth c D cy A nL own cc) {x y : Int32} (hd : decode cc pc = .ok (.isub, 1)) (k : jW p l e R s m args below meth c D cy A nL cells slots Q h lv (pc + 1) (.int (x - y) :: st)) : jW p l e R s m args below meth c D cy A nL cells slots Q h lv pc (.int y :: .int x :: st) := fun H locs ls hP hD hS hl => lv_isub C.1 C.2.1 hd (k H locs ls hP hD hS hl)
theorem j_imul (C : jC p s m args meth c D cy A nL own cc) {x y : Int32} (hd : decode cc pc = .ok (.imul, 1)) (k : jW p l e R s m args below meth c D cy A nL cells slots Q h lv (pc + 1) (.int (x * y) :: st)) : jW p l e R s m args below meth c D cy A nL cells slots Q h lv pc (.int y :: .int x :: st) := fun H locs ls hP hD hS hl => lv_imul C.1 C.2.1 hd (k H locs ls hP hD hS hl)
theorem j_iand (C : jC p s m args meth c D cy A nL own cc) {x y : Int32} (hd : decode cc pc = .ok (.iand, 1)) (k : jW p l e R s m args below meth c D cy A nL cells slots Q h lv (pc + 1) (.int (x &&& y) :: st)) : jW p l e R s m args below meth c D cy A nL cells slots Q h lv pc (.int y :: .int x :: st) := fun H locs ls hP hD hS hl => lv_iand C.1 C.2.1 hd (k H locs ls hP hD hS hl)
theorem j_ior (C : jC p s m args meth c D cy A nL own cc) {x y : Int32} (hd : decode cc pc = .ok (.ior, 1)) (k : jW p l e R s m args below meth c D cy A nL cells slots Q h lv (pc + 1) (.int (x ||| y) :: st)) : jW p l e R s m args below meth c D cy A nL cells slots Q h lv pc (.int y :: .int x :: st) := fun H locs ls hP hD hS hl => lv_ior C.1 C.2.1 hd (k H locs ls hP hD hS hl)
theorem j_ladd (C : jC p s m args meth c D cy A nL own cc) {x y : Int64} (hd : decode cc pc = .ok (.ladd, 1)) (k : jW p l e R s m args below meth c D cy A nL cells slots Q h lv (pc + 1) (.long (x + y) :: st)) : jW p l e R s m args below meth c D cy A nL cells slots Q h lv pc (.long y :: .long x :: st) := fun H locs ls hP hD hS hl => lv_ladd C.1 C.2.1 hd (k H locs ls hP hD hS hl)
theorem j_lmul (C : jC p s m args meth c D cy A nL own cc) {x y : Int64} (hd : decode cc pc = .ok (.lmul, 1)) (k : jW p l e R s m args below meth c D cy A nL cells slots Q h lv (pc + 1) (.long (x * y) :: st)) : jW p l e R s m args below meth c D cy A nL cells slots Q h lv pc (.long y :: .long x :: st) := fun H locs ls hP hD hS hl => lv_lmul C.1 C.2.1 hd (k H locs ls hP hD hS hl)
theorem j_lor (C : jC p s m args meth c D cy A nL own cc) {x y : Int64} (hd : decode cc pc = .ok (.lor, 1)) (k : jW p l e R s m args below meth c D cy A nL cells slots Q h lv (pc + 1) (.long (x ||| y) :: st)) : jW p l e R s m args below meth c D cy A nL cells slots Q h lv pc (.long y :: .long x :: st) := fun H locs ls hP hD hS hl => lv_lor C.1 C.2.1 hd (k H locs ls hP hD hS hl)
theorem j_land (C : jC p s m args meth c D cy A nL own cc) {x y : Int64} (hd : decode cc pc = .ok (.land, 1)) (k : jW p l e R s m args below meth c D cy A nL cells slots Q h lv (pc + 1) (.long (x &&& y) :: st)) : jW p l e R s m args below meth c D cy A nL cells slots Q h lv pc (.long y :: .long x :: st) := fun H locs ls hP hD hS hl => lv_land C.1 C.2.1 hd (k H locs ls hP hD hS hl)
theorem j_irem (C : jC p s m args meth c D cy A nL own cc) {x y : Int32} (hd : decode cc pc = .ok (.irem, 1)) (hne : ¬ y = 0) (k : jW p l e R s m args below meth c D cy A nL cells slots Q h lv (pc + 1) (.int (x - x / y * y) :: st)) : jW p l e R s m args below meth c D cy A nL cells slots Q h lv pc (.int y :: .int x :: st) := fun H locs ls hP hD hS hl => lv_irem C.1 C.2.1 hd hne (k H locs ls hP hD hS hl)
theorem j_idiv (C : jC p s m args meth c D cy A nL own cc) {x y : Int32} (hd : decode cc pc = .ok (.idiv, 1)) (hne : ¬ y = 0) (k : jW p l e R s m args below meth c D cy A nL cells slots Q h lv (pc + 1) (.int (x / y) :: st)) : jW p l e R s m args below meth c D cy A nL cells slots Q h lv pc (.int y :: .int x :: st) := fun H locs ls hP hD hS hl => lv_idiv C.1 C.2.1 hd hne (k H locs ls hP hD hS hl)
theorem j_lrem (C : jC p s m args meth c D cy A nL own cc) {x y : Int64} (hd : decode cc pc = .ok (.lrem, 1)) (hne : ¬ y = 0) (k : jW p l e R s m args below meth c D cy A nL cells slots Q h lv (pc + 1) (.long (x - x / y * y) :: st)) : jW p l e R s m args below meth c D cy A nL cells slots Q h lv pc (.long y :: .long x :: st) := fun H locs ls hP hD hS hl => lv_lrem C.1 C.2.1 hd hne (k H locs ls hP hD hS hl)
theorem j_ishl (C : jC p s m args meth c D cy A nL own cc) {x y : Int32} (hd : decode cc pc = .ok (.ishl, 1)) (k : jW p l e R s m args below meth c D cy A nL cells slots Q h lv (pc + 1) (.int (x <<< (y &&& 31)) :: st)) : jW p l e R s m args below meth c D cy A nL cells slots Q h lv pc (.int y :: .int x :: st) := fun H locs ls hP hD hS hl => lv_ishl C.1 C.2.1 hd (k H locs ls hP hD hS hl)
theorem j_ishr (C : jC p s m args meth c D cy A nL own cc) {x y : Int32} (hd : decode cc pc = .ok (.ishr, 1)) (k : jW p l e R s m args below meth c D cy A nL cells slots Q h lv (pc + 1) (.int (x >>> (y &&& 31)) :: st)) : jW p l e R s m args below meth c D cy A nL cells slots Q h lv pc (.int y :: .int x :: st) := fun H locs ls hP hD hS hl => lv_ishr C.1 C.2.1 hd (k H locs ls hP hD hS hl)
theorem j_i2l (C : jC p s m args meth c D cy A nL own cc) {x : Int32} (hd : decode cc pc = .ok (.i2l, 1)) (k : jW p l e R s m args below meth c D cy A nL cells slots Q h lv (pc + 1) (.long x.toInt64 :: st)) : jW p l e R s m args below meth c D cy A nL cells slots Q h lv pc (.int x :: st) := fun H locs ls hP hD hS hl => lv_i2l C.1 C.2.1 hd rfl (k H locs ls hP hD hS hl)
theorem j_l2i (C : jC p s m args meth c D cy A nL own cc) {x : Int64} (hd : decode cc pc = .ok (.l2i, 1)) (k : jW p l e R s m args below meth c D cy A nL cells slots Q h lv (pc + 1) (.int x.toInt32 :: st)) : jW p l e R s m args below meth c D cy A nL cells slots Q h lv pc (.long x :: st) := fun H locs ls hP hD hS hl => lv_l2i C.1 C.2.1 hd rfl (k H locs ls hP hD hS hl)
theorem j_lushr (C : jC p s m args meth c D cy A nL own cc) {x : Int64} {y : Int32} (hd : decode cc pc = .ok (.lushr, 1)) (k : jW p l e R s m args below meth c D cy A nL cells slots Q h lv (pc + 1) (.long (x.toUInt64 >>> (y.toInt64.toUInt64 &&& Int64.toUInt64 63)).toInt64 :: st)) : jW p l e R s m args below meth c D cy A nL cells slots Q h lv pc (.int y :: .long x :: st) := fun H locs ls hP hD hS hl => lv_lushr C.1 C.2.1 hd rfl (k H locs ls hP hD hS hl)
theorem j_dup (C : jC p s m args meth c D cy A nL own cc) {v : Value} (hd : decode cc pc = .ok (.dup, 1)) (hv : v.category = 1) (k : jW p l e R s m args below meth c D cy A nL cells slots Q h lv (pc + 1) (v :: v :: st)) : jW p l e R s m args below meth c D cy A nL cells slots Q h lv pc (v :: st) := fun H locs ls hP hD hS hl => lv_dup C.1 C.2.1 hd hv (k H locs ls hP hD hS hl)
theorem j_pop (C : jC p s m args meth c D cy A nL own cc) {v : Value} (hd : decode cc pc = .ok (.pop, 1)) (hv : v.category = 1) (k : jW p l e R s m args below meth c D cy A nL cells slots Q h lv (pc + 1) (st)) : jW p l e R s m args below meth c D cy A nL cells slots Q h lv pc (v :: st) := fun H locs ls hP hD hS hl => lv_pop C.1 C.2.1 hd hv (k H locs ls hP hD hS hl)
theorem j_dup2 (C : jC p s m args meth c D cy A nL own cc) {v w : Value} (hd : decode cc pc = .ok (.dup2, 1)) (hv : v.category = 1) (hw : w.category = 1) (k : jW p l e R s m args below meth c D cy A nL cells slots Q h lv (pc + 1) (v :: w :: v :: w :: st)) : jW p l e R s m args below meth c D cy A nL cells slots Q h lv pc (v :: w :: st) := fun H locs ls hP hD hS hl => lv_dup2_11 C.1 C.2.1 hd hv hw (k H locs ls hP hD hS hl)
theorem j_goto (C : jC p s m args meth c D cy A nL own cc) {off : Int} {tgt : Nat} (hd : decode cc pc = .ok (.goto off, 3)) (ht : (pc : Int) + off = (tgt : Int)) (k : jW p l e R s m args below meth c D cy A nL cells slots Q h lv tgt st) : jW p l e R s m args below meth c D cy A nL cells slots Q h lv pc st := fun H locs ls hP hD hS hl => lv_goto C.1 C.2.1 hd ht (k H locs ls hP hD hS hl)
theorem j_if_eq (C : jC p s m args meth c D cy A nL own cc) {x : Int32} {off : Int} {tgt : Nat} (hd : decode cc pc = .ok (.ifCond .eq off, 3)) (ht : (pc : Int) + off = (tgt : Int)) (kt : x = 0 → jW p l e R s m args below meth c D cy A nL cells slots Q h lv tgt st) (kf : ¬ x = 0 → jW p l e R s m args below meth c D cy A nL cells slots Q h lv (pc + 3) st) : jW p l e R s m args below meth c D cy A nL cells slots Q h lv pc (.int x :: st) := fun H locs ls hP hD hS hl => lv_if_eq C.1 C.2.1 hd ht (fun z => kt z H locs ls hP hD hS hl) (fun z => kf z H locs ls hP hD hS hl)
theorem j_icmp_eq (C : jC p s m args meth c D cy A nL own cc) {x y : Int32} {off : Int} {tgt : Nat} (hd : decode cc pc = .ok (.if_icmp .eq off, 3)) (ht : (pc : Int) + off = (tgt : Int)) (kt : x = y → jW p l e R s m args below meth c D cy A nL cells slots Q h lv tgt st) (kf : ¬ x = y → jW p l e R s m args below meth c D cy A nL cells slots Q h lv (pc + 3) st) : jW p l e R s m args below meth c D cy A nL cells slots Q h lv pc (.int y :: .int x :: st) := fun H locs ls hP hD hS hl => lv_icmp_eq C.1 C.2.1 hd ht (fun z => kt z H locs ls hP hD hS hl) (fun z => kf z H locs ls hP hD hS hl)
theorem j_if_ne (C : jC p s m args meth c D cy A nL own cc) {x : Int32} {off : Int} {tgt : Nat} (hd : decode cc pc = .ok (.ifCond .ne off, 3)) (ht : (pc : Int) + off = (tgt : Int)) (kt : ¬ x = 0 → jW p l e R s m args below meth c D cy A nL cells slots Q h lv tgt st) (kf : x = 0 → jW p l e R s m args below meth c D cy A nL cells slots Q h lv (pc + 3) st) : jW p l e R s m args below meth c D cy A nL cells slots Q h lv pc (.int x :: st) := fun H locs ls hP hD hS hl => lv_if_ne C.1 C.2.1 hd ht (fun z => kt z H locs ls hP hD hS hl) (fun z => kf z H locs ls hP hD hS hl)
theorem j_icmp_ne (C : jC p s m args meth c D cy A nL own cc) {x y : Int32} {off : Int} {tgt : Nat} (hd : decode cc pc = .ok (.if_icmp .ne off, 3)) (ht : (pc : Int) + off = (tgt : Int)) (kt : ¬ x = y → jW p l e R s m args below meth c D cy A nL cells slots Q h lv tgt st) (kf : x = y → jW p l e R s m args below meth c D cy A nL cells slots Q h lv (pc + 3) st) : jW p l e R s m args below meth c D cy A nL cells slots Q h lv pc (.int y :: .int x :: st) := fun H locs ls hP hD hS hl => lv_icmp_ne C.1 C.2.1 hd ht (fun z => kt z H locs ls hP hD hS hl) (fun z => kf z H locs ls hP hD hS hl)
theorem j_if_lt (C : jC p s m args meth c D cy A nL own cc) {x : Int32} {off : Int} {tgt : Nat} (hd : decode cc pc = .ok (.ifCond .lt off, 3)) (ht : (pc : Int) + off = (tgt : Int)) (kt : x < 0 → jW p l e R s m args below meth c D cy A nL cells slots Q h lv tgt st) (kf : ¬ x < 0 → jW p l e R s m args below meth c D cy A nL cells slots Q h lv (pc + 3) st) : jW p l e R s m args below meth c D cy A nL cells slots Q h lv pc (.int x :: st) := fun H locs ls hP hD hS hl => lv_if_lt C.1 C.2.1 hd ht (fun z => kt z H locs ls hP hD hS hl) (fun z => kf z H locs ls hP hD hS hl)
theorem j_icmp_lt (C : jC p s m args meth c D cy A nL own cc) {x y : Int32} {off : Int} {tgt : Nat} (hd : decode cc pc = .ok (.if_icmp .lt off, 3)) (ht : (pc : Int) + off = (tgt : Int)) (kt : x < y → jW p l e R s m args below meth c D cy A nL cells slots Q h lv tgt st) (kf : ¬ x < y → jW p l e R s m args below meth c D cy A nL cells slots Q h lv (pc + 3) st) : jW p l e R s m args below meth c D cy A nL cells slots Q h lv pc (.int y :: .int x :: st) := fun H locs ls hP hD hS hl => lv_icmp_lt C.1 C.2.1 hd ht (fun z => kt z H locs ls hP hD hS hl) (fun z => kf z H locs ls hP hD hS hl)
theorem j_if_ge (C : jC p s m args meth c D cy A nL own cc) {x : Int32} {off : Int} {tgt : Nat} (hd : decode cc pc = .ok (.ifCond .ge off, 3)) (ht : (pc : Int) + off = (tgt : Int)) (kt : 0 ≤ x → jW p l e R s m args below meth c D cy A nL cells slots Q h lv tgt st) (kf : ¬ 0 ≤ x → jW p l e R s m args below meth c D cy A nL cells slots Q h lv (pc + 3) st) : jW p l e R s m args below meth c D cy A nL cells slots Q h lv pc (.int x :: st) := fun H locs ls hP hD hS hl => lv_if_ge C.1 C.2.1 hd ht (fun z => kt z H locs ls hP hD hS hl) (fun z => kf z H locs ls hP hD hS hl)
theorem j_icmp_ge (C : jC p s m args meth c D cy A nL own cc) {x y : Int32} {off : Int} {tgt : Nat} (hd : decode cc pc = .ok (.if_icmp .ge off, 3)) (ht : (pc : Int) + off = (tgt : Int)) (kt : y ≤ x → jW p l e R s m args below meth c D cy A nL cells slots Q h lv tgt st) (kf : ¬ y ≤ x → jW p l e R s m args below meth c D cy A nL cells slots Q h lv (pc + 3) st) : jW p l e R s m args below meth c D cy A nL cells slots Q h lv pc (.int y :: .int x :: st) := fun H locs ls hP hD hS hl => lv_icmp_ge C.1 C.2.1 hd ht (fun z => kt z H locs ls hP hD hS hl) (fun z => kf z H locs ls hP hD hS hl)
theorem j_if_gt (C : jC p s m args meth c D cy A nL own cc) {x : Int32} {off : Int} {tgt : Nat} (hd : decode cc pc = .ok (.ifCond .gt off, 3)) (ht : (pc : Int) + off = (tgt : Int)) (kt : 0 < x → jW p l e R s m args below meth c D cy A nL cells slots Q h lv tgt st) (kf : ¬ 0 < x → jW p l e R s m args below meth c D cy A nL cells slots Q h lv (pc + 3) st) : jW p l e R s m args below meth c D cy A nL cells slots Q h lv pc (.int x :: st) := fun H locs ls hP hD hS hl => lv_if_gt C.1 C.2.1 hd ht (fun z => kt z H locs ls hP hD hS hl) (fun z => kf z H locs ls hP hD hS hl)
theorem j_icmp_gt (C : jC p s m args meth c D cy A nL own cc) {x y : Int32} {off : Int} {tgt : Nat} (hd : decode cc pc = .ok (.if_icmp .gt off, 3)) (ht : (pc : Int) + off = (tgt : Int)) (kt : y < x → jW p l e R s m args below meth c D cy A nL cells slots Q h lv tgt st) (kf : ¬ y < x → jW p l e R s m args below meth c D cy A nL cells slots Q h lv (pc + 3) st) : jW p l e R s m args below meth c D cy A nL cells slots Q h lv pc (.int y :: .int x :: st) := fun H locs ls hP hD hS hl => lv_icmp_gt C.1 C.2.1 hd ht (fun z => kt z H locs ls hP hD hS hl) (fun z => kf z H locs ls hP hD hS hl)
theorem j_if_le (C : jC p s m args meth c D cy A nL own cc) {x : Int32} {off : Int} {tgt : Nat} (hd : decode cc pc = .ok (.ifCond .le off, 3)) (ht : (pc : Int) + off = (tgt : Int)) (kt : x ≤ 0 → jW p l e R s m args below meth c D cy A nL cells slots Q h lv tgt st) (kf : ¬ x ≤ 0 → jW p l e R s m args below meth c D cy A nL cells slots Q h lv (pc + 3) st) : jW p l e R s m args below meth c D cy A nL cells slots Q h lv pc (.int x :: st) := fun H locs ls hP hD hS hl => lv_if_le C.1 C.2.1 hd ht (fun z => kt z H locs ls hP hD hS hl) (fun z => kf z H locs ls hP hD hS hl)
theorem j_icmp_le (C : jC p s m args meth c D cy A nL own cc) {x y : Int32} {off : Int} {tgt : Nat} (hd : decode cc pc = .ok (.if_icmp .le off, 3)) (ht : (pc : Int) + off = (tgt : Int)) (kt : x ≤ y → jW p l e R s m args below meth c D cy A nL cells slots Q h lv tgt st) (kf : ¬ x ≤ y → jW p l e R s m args below meth c D cy A nL cells slots Q h lv (pc + 3) st) : jW p l e R s m args below meth c D cy A nL cells slots Q h lv pc (.int y :: .int x :: st) := fun H locs ls hP hD hS hl => lv_icmp_le C.1 C.2.1 hd ht (fun z => kt z H locs ls hP hD hS hl) (fun z => kf z H locs ls hP hD hS hl)
theorem j_acmp_eq (C : jC p s m args meth c D cy A nL own cc) {rx ry : Option Nat} {off : Int} {tgt : Nat} (hd : decode cc pc = .ok (.if_acmp .eq off, 3)) (ht : (pc : Int) + off = (tgt : Int)) (kt : rx = ry → jW p l e R s m args below meth c D cy A nL cells slots Q h lv tgt st) (kf : ¬ rx = ry → jW p l e R s m args below meth c D cy A nL cells slots Q h lv (pc + 3) st) : jW p l e R s m args below meth c D cy A nL cells slots Q h lv pc (va_rf ry :: va_rf rx :: st) := fun H locs ls hP hD hS hl => lv_acmp_eq C.1 C.2.1 hd ht (fun z => kt z H locs ls hP hD hS hl) (fun z => kf z H locs ls hP hD hS hl)
theorem j_acmp_ne (C : jC p s m args meth c D cy A nL own cc) {rx ry : Option Nat} {off : Int} {tgt : Nat} (hd : decode cc pc = .ok (.if_acmp .ne off, 3)) (ht : (pc : Int) + off = (tgt : Int)) (kt : ¬ rx = ry → jW p l e R s m args below meth c D cy A nL cells slots Q h lv tgt st) (kf : rx = ry → jW p l e R s m args below meth c D cy A nL cells slots Q h lv (pc + 3) st) : jW p l e R s m args below meth c D cy A nL cells slots Q h lv pc (va_rf ry :: va_rf rx :: st) := fun H locs ls hP hD hS hl => lv_acmp_ne C.1 C.2.1 hd ht (fun z => kt z H locs ls hP hD hS hl) (fun z => kf z H locs ls hP hD hS hl)
theorem j_ifnull (C : jC p s m args meth c D cy A nL own cc) {x : Nat} {off : Int} (hd : decode cc pc = .ok (.ifnull off, 3)) (k : jW p l e R s m args below meth c D cy A nL cells slots Q h lv (pc + 3) st) : jW p l e R s m args below meth c D cy A nL cells slots Q h lv pc (.ref x :: st) := fun H locs ls hP hD hS hl => lv_ifnull C.1 C.2.1 hd (k H locs ls hP hD hS hl)
theorem j_ifnullN (C : jC p s m args meth c D cy A nL own cc) {off : Int} {tgt : Nat} (hd : decode cc pc = .ok (.ifnull off, 3)) (ht : (pc : Int) + off = (tgt : Int)) (k : jW p l e R s m args below meth c D cy A nL cells slots Q h lv tgt st) : jW p l e R s m args below meth c D cy A nL cells slots Q h lv pc (.null :: st) := fun H locs ls hP hD hS hl => lv_ifnullN C.1 C.2.1 hd ht (k H locs ls hP hD hS hl)
theorem j_ifnonnull (C : jC p s m args meth c D cy A nL own cc) {x : Nat} {off : Int} {tgt : Nat} (hd : decode cc pc = .ok (.ifnonnull off, 3)) (ht : (pc : Int) + off = (tgt : Int)) (k : jW p l e R s m args below meth c D cy A nL cells slots Q h lv tgt st) : jW p l e R s m args below meth c D cy A nL cells slots Q h lv pc (.ref x :: st) := fun H locs ls hP hD hS hl => lv_ifnonnull C.1 C.2.1 hd ht (k H locs ls hP hD hS hl)
theorem j_ifnonnullN (C : jC p s m args meth c D cy A nL own cc) {off : Int} (hd : decode cc pc = .ok (.ifnonnull off, 3)) (k : jW p l e R s m args below meth c D cy A nL cells slots Q h lv (pc + 3) st) : jW p l e R s m args below meth c D cy A nL cells slots Q h lv pc (.null :: st) := fun H locs ls hP hD hS hl => lv_ifnonnullN C.1 C.2.1 hd (k H locs ls hP hD hS hl)
/-- a field link of own: pool number index is field k of class ci -/
def jF (own : String) (index ci k : Nat) (r : Bool) : Prop := ∃ (Cn : String) (T : u_T) (N : Nat), vwCl[ci]? = some (Cn, T, N) ∧ (∀ w ∈ u_ws Cn T N, w ∈ wall) ∧ Cond.fieldLink own index Cn (T k).2.1 (T k).2.2.1 ∈ wall ∧ (T k).1 = Cn ∧ k < N ∧ nf ci = N ∧ rfb ci k = r ∧ ci < 12
/-- .. that may be written -/
def jP (own : String) (index ci k : Nat) (r fin : Bool) (ty : FieldType) : Prop := ∃ (Cn : String) (T : u_T) (N : Nat) (ty0 : Nat → FieldType), vwCl[ci]? = some (Cn, T, N) ∧ (∀ w ∈ u_ws Cn T N, w ∈ wall) ∧ Cond.fieldLink own index Cn (T k).2.1 (T k).2.2.1 ∈ wall ∧ (T k).1 = Cn ∧ k < N ∧ nf ci = N ∧ rfb ci k = r ∧ ci < 12 ∧ (∀ k, k < N → parseFieldDescriptor (T k).2.2.1 = some (ty0 k)) ∧ (∀ a, a < N → ∀ b, b < N → a ≠ b → (T a).2.1 ≠ (T b).2.1) ∧ (T k).2.2.2 = fin ∧ parseFieldDescriptor (T k).2.2.1 = some ty ∧ (fin = true → (T k).1 = own)
theorem j_getI (C : jC p s m args meth c D cy A nL own cc) {index ci k a : Nat} (F : jF own index ci k false) (ok : h_ok h a ci) (hd : decode cc pc = .ok (.getfield index, 3)) (kk : jW p l e R s m args below meth c D cy A nL cells slots Q h lv (pc + 3) (.int (h_I h (64 * ci + k) a) :: st)) : jW p l e R s m args below meth c D cy A nL cells slots Q h lv pc (.ref a :: st) := fun H locs ls hP hD hS hl => by
  obtain ⟨Cn, T, N, h1, h2, h3, h4, h5, h6, h7, h8⟩ := F
  obtain ⟨q, hq⟩ := pool_get (cy := cy) ok.1
  rw [pf_obj ok.2 h8] at hq
  refine va_get C.1 C.2.1 C.2.2.2.2.1 h2 C.2.2.2.1 C.2.2.2.2.2.1 hP q hq h1 k h5 (C.2.2.2.2.1 _ h3) (fun x hx => by rw [h4] at hx; exact hx) (v := .int (h_I h (64 * ci + k) a)) ?_ hd (kk H locs ls hP hD hS hl)
  rw [fl_get h a (by omega)]
  unfold fv; rw [h7]; rfl
theorem j_getR (C : jC p s m args meth c D cy A nL own cc) {index ci k a : Nat} {v : Value} (F : jF own index ci k true) (ok : h_ok h a ci) (hv : va_rf (h_R h (64 * ci + k) a) = v) (hd : decode cc pc = .ok (.getfield index, 3)) (kk : jW p l e R s m args below meth c D cy A nL cells slots Q h lv (pc + 3) (v :: st)) : jW p l e R s m args below meth c D cy A nL cells slots Q h lv pc (.ref a :: st) := fun H locs ls hP hD hS hl => by
  obtain ⟨Cn, T, N, h1, h2, h3, h4, h5, h6, h7, h8⟩ := F
  obtain ⟨q, hq⟩ := pool_get (cy := cy) ok.1
  rw [pf_obj ok.2 h8] at hq
  refine va_get C.1 C.2.1 C.2.2.2.2.1 h2 C.2.2.2.1 C.2.2.2.2.2.1 hP q hq h1 k h5 (C.2.2.2.2.1 _ h3) (fun x hx => by rw [h4] at hx; exact hx) (v := v) ?_ hd (kk H locs ls hP hD hS hl)
  rw [fl_get h a (by omega), ← hv]
  unfold fv; rw [h7]; rfl
theorem j_putI (C : jC p s m args meth c D cy A nL own cc) {index ci k a : Nat} {v : Int32} {ty : FieldType} (F : jP own index ci k false false ty) (ok : h_ok h a ci) (hn : narrow ty (.int v) = .int v) (hfit : fits ty (.int v) = true) (hd : decode cc pc = .ok (.putfield index, 3)) (kk : jW p l e R s m args below meth c D cy A nL cells slots Q (s_I h (64 * ci + k) a v) lv (pc + 3) st) : jW p l e R s m args below meth c D cy A nL cells slots Q h lv pc (.int v :: .ref a :: st) := fun H locs ls hP hD hS hl => by
  obtain ⟨Cn, T, N, ty0, h1, h2, h3, h4, h5, h6, h7, h8, h9, h10, h11, h12, h13⟩ := F
  obtain ⟨q, hq⟩ := pool_get (cy := cy) ok.1
  have hq2 := hq
  rw [pf_obj ok.2 h8] at hq2
  refine va_put C.1 C.2.1 C.2.2.2.2.1 h2 ty0 h9 h10 C.2.2.2.1 C.2.2.2.2.2.1 hP hD hS q hq2 h1 k h5 (C.2.2.2.2.1 _ h3) (fun x hx => by rw [h4] at hx; exact hx) h11 (v := .int v) h12 hn hfit (by rw [fl_len]; omega) hd (fun H1 locs1 hP1 hD1 hS1 => ?_)
  rw [pset_I hD ok h8 (by omega) h7 hq] at hP1 hD1
  exact kk H1 locs1 ls hP1 hD1 hS1 hl
theorem j_putR (C : jC p s m args meth c D cy A nL own cc) {index ci k a : Nat} {v : Option Nat} {w : Value} {ty : FieldType} (F : jP own index ci k true false ty) (ok : h_ok h a ci) (hw : va_rf v = w) (hn : narrow ty w = w) (hfit : fits ty w = true) (hd : decode cc pc = .ok (.putfield index, 3)) (kk : jW p l e R s m args below meth c D cy A nL cells slots Q (s_R h (64 * ci + k) a v) lv (pc + 3) st) : jW p l e R s m args below meth c D cy A nL cells slots Q h lv pc (w :: .ref a :: st) := fun H locs ls hP hD hS hl => by
  obtain ⟨Cn, T, N, ty0, h1, h2, h3, h4, h5, h6, h7, h8, h9, h10, h11, h12, h13⟩ := F
  obtain ⟨q, hq⟩ := pool_get (cy := cy) ok.1
  have hq2 := hq
  rw [pf_obj ok.2 h8] at hq2
  refine va_put C.1 C.2.1 C.2.2.2.2.1 h2 ty0 h9 h10 C.2.2.2.1 C.2.2.2.2.2.1 hP hD hS q hq2 h1 k h5 (C.2.2.2.2.1 _ h3) (fun x hx => by rw [h4] at hx; exact hx) h11 (v := w) h12 hn hfit (by rw [fl_len]; omega) hd (fun H1 locs1 hP1 hD1 hS1 => ?_)
  rw [← hw, pset_R hD ok h8 (by omega) h7 hq] at hP1 hD1
  exact kk H1 locs1 ls hP1 hD1 hS1 hl
theorem j_putFI (C : jC p s m args meth c D cy A nL own cc) (hin : meth.name = "<init>") {index ci k a : Nat} {v : Int32} {ty : FieldType} (F : jP own index ci k false true ty) (ok : h_ok h a ci) (hn : narrow ty (.int v) = .int v) (hfit : fits ty (.int v) = true) (hd : decode cc pc = .ok (.putfield index, 3)) (kk : jW p l e R s m args below meth c D cy A nL cells slots Q (s_I h (64 * ci + k) a v) lv (pc + 3) st) : jW p l e R s m args below meth c D cy A nL cells slots Q h lv pc (.int v :: .ref a :: st) := fun H locs ls hP hD hS hl => by
  obtain ⟨Cn, T, N, ty0, h1, h2, h3, h4, h5, h6, h7, h8, h9, h10, h11, h12, h13⟩ := F
  obtain ⟨q, hq⟩ := pool_get (cy := cy) ok.1
  have hq2 := hq
  rw [pf_obj ok.2 h8] at hq2
  refine va_putF C.1 C.2.1 C.2.2.2.2.1 h2 ty0 h9 h10 C.2.2.2.1 C.2.2.2.2.2.1 hP hD hS q hq2 h1 k h5 (C.2.2.2.2.1 _ h3) (fun x hx => by rw [h4] at hx; exact hx) h11 hin (h13 rfl) (v := .int v) h12 hn hfit (by rw [fl_len]; omega) hd (fun H1 locs1 hP1 hD1 hS1 => ?_)
  rw [pset_I hD ok h8 (by omega) h7 hq] at hP1 hD1
  exact kk H1 locs1 ls hP1 hD1 hS1 hl
theorem j_putFR (C : jC p s m args meth c D cy A nL own cc) (hin : meth.name = "<init>") {index ci k a : Nat} {v : Option Nat} {w : Value} {ty : FieldType} (F : jP own index ci k true true ty) (ok : h_ok h a ci) (hw : va_rf v = w) (hn : narrow ty w = w) (hfit : fits ty w = true) (hd : decode cc pc = .ok (.putfield index, 3)) (kk : jW p l e R s m args below meth c D cy A nL cells slots Q (s_R h (64 * ci + k) a v) lv (pc + 3) st) : jW p l e R s m args below meth c D cy A nL cells slots Q h lv pc (w :: .ref a :: st) := fun H locs ls hP hD hS hl => by
  obtain ⟨Cn, T, N, ty0, h1, h2, h3, h4, h5, h6, h7, h8, h9, h10, h11, h12, h13⟩ := F
  obtain ⟨q, hq⟩ := pool_get (cy := cy) ok.1
  have hq2 := hq
  rw [pf_obj ok.2 h8] at hq2
  refine va_putF C.1 C.2.1 C.2.2.2.2.1 h2 ty0 h9 h10 C.2.2.2.1 C.2.2.2.2.2.1 hP hD hS q hq2 h1 k h5 (C.2.2.2.2.1 _ h3) (fun x hx => by rw [h4] at hx; exact hx) h11 hin (h13 rfl) (v := w) h12 hn hfit (by rw [fl_len]; omega) hd (fun H1 locs1 hP1 hD1 hS1 => ?_)
  rw [← hw, pset_R hD ok h8 (by omega) h7 hq] at hP1 hD1
  exact kk H1 locs1 ls hP1 hD1 hS1 hl
theorem j_iald (C : jC p s m args meth c D cy A nL own cc) {a : Nat} {i : Int32} (ok : h_ok h a 12) (hi : vp_in i (h_N h a)) (hd : decode cc pc = .ok (.iaload, 1)) (kk : jW p l e R s m args below meth c D cy A nL cells slots Q h lv (pc + 1) (.int (h_A h a i.toNatClampNeg) :: st)) : jW p l e R s m args below meth c D cy A nL cells slots Q h lv pc (.int i :: .ref a :: st) := fun H locs ls hP hD hS hl => by
  obtain ⟨q, hq⟩ := pool_get (cy := cy) ok.1
  rw [pf_int ok.2] at hq
  exact va_iald C.1 C.2.1 C.2.2.2.2.2.1 hP q 0 hq rfl hi hd (kk H locs ls hP hD hS hl)
theorem j_iast (C : jC p s m args meth c D cy A nL own cc) {a : Nat} {i x : Int32} (ok : h_ok h a 12) (hi : vp_in i (h_N h a)) (hd : decode cc pc = .ok (.iastore, 1)) (kk : jW p l e R s m args below meth c D cy A nL cells slots Q (s_A h a i.toNatClampNeg x) lv (pc + 1) st) : jW p l e R s m args below meth c D cy A nL cells slots Q h lv pc (.int x :: .int i :: .ref a :: st) := fun H locs ls hP hD hS hl => by
  obtain ⟨q, hq⟩ := pool_get (cy := cy) ok.1
  have hq2 := hq
  rw [pf_int ok.2] at hq2
  refine va_iast C.1 C.2.1 C.2.2.2.2.2.1 hP hD hS q 0 hq2 rfl hi hd (fun H1 locs1 hP1 hD1 hS1 => ?_)
  rw [pset_A hD ok hq] at hP1 hD1
  exact kk H1 locs1 ls hP1 hD1 hS1 hl
theorem j_aald (C : jC p s m args meth c D cy A nL own cc) {a k : Nat} {Cn : String} {i : Int32} {v : Value} (ok : h_ok h a k) (hk : 12 < k) (ht : (jTys cy)[k - 12]? = some (cy k, .object Cn)) (hi : vp_in i (h_N h a)) (hv : va_rf (h_B h a i.toNatClampNeg) = v) (hd : decode cc pc = .ok (.aaload, 1)) (kk : jW p l e R s m args below meth c D cy A nL cells slots Q h lv (pc + 1) (v :: st)) : jW p l e R s m args below meth c D cy A nL cells slots Q h lv pc (.int i :: .ref a :: st) := fun H locs ls hP hD hS hl => by
  obtain ⟨q, hq⟩ := pool_get (cy := cy) ok.1
  rw [pf_ref ok.2 hk] at hq
  refine va_aldq C.1 C.2.1 C.2.2.2.2.2.1 hP q (k - 12) hq ht hi hd ?_
  rw [hv]
  exact kk H locs ls hP hD hS hl
theorem j_aast (C : jC p s m args meth c D cy A nL own cc) {a b k ci : Nat} {r : vw_C} {i : Int32} (ok : h_ok h a k) (hk : 12 < k) (okb : h_ok h b ci) (hci : ci < 12) (hc : vwCl[ci]? = some r) (ht : (jTys cy)[k - 12]? = some (cy k, .object r.1)) (hi : vp_in i (h_N h a)) (hd : decode cc pc = .ok (.aastore, 1)) (kk : jW p l e R s m args below meth c D cy A nL cells slots Q (s_B h a i.toNatClampNeg (some b)) lv (pc + 1) st) : jW p l e R s m args below meth c D cy A nL cells slots Q h lv pc (.ref b :: .int i :: .ref a :: st) := fun H locs ls hP hD hS hl => by
  obtain ⟨q, hq⟩ := pool_get (cy := cy) ok.1
  obtain ⟨q2, hq2⟩ := pool_get (cy := cy) okb.1
  rw [pf_obj okb.2 hci] at hq2
  have hq1 := hq
  rw [pf_ref ok.2 hk] at hq1
  refine va_astq C.1 C.2.1 C.2.2.2.2.2.1 hP hD hS q (k - 12) q2 ci hq1 ht hq2 hc hi hd (fun H1 locs1 hP1 hD1 hS1 => ?_)
  rw [pset_B hD ok hk hq] at hP1 hD1
  exact kk H1 locs1 ls hP1 hD1 hS1 hl
end JROWS
end
section
theorem kC_max : Cond.code Lib.Math.max.name Lib.Math.max.code 2 (some .int) ∈ wall := wl_m 180 (by decide +kernel) rfl
theorem kC_min : Cond.code Lib.Math.min.name Lib.Math.min.code 2 (some .int) ∈ wall := wl_m 177 (by decide +kernel) rfl
/-! contracts: from any state whose heap is h, the method returns, 'post answer h\'' -/
def jPre (D : va_G) (cy : Nat → ClassId) (av : List Value) (h : jH) (sz : Nat) : Array Value → State → Prop := va_Pc av (fun U => U.heap.size = sz ∧ va_P D vwCl (pool cy h) U.heap ∧ va_K D vwCl (jTys cy) U ∧ va_D (fun _ => True) (pool cy h) ∧ jSt (va_A (pool cy h) sz) U U.heap)
def jB (D : va_G) (cy : Nat → ClassId) (h : jH) (sz : Nat) (h' : jH) (t : State) : Prop := va_P D vwCl (pool cy h') t.heap ∧ va_K D vwCl (jTys cy) t ∧ va_D (va_A (pool cy h) sz) (pool cy h')
def jI (l : Launch) (D : va_G) (cy : Nat → ClassId) (y : MethodName) (cd : Cond) (rm : Room) (av : List Value) (h : jH) (post : Int32 → jH → Prop) : Prop := ∀ sz : Nat, Met l y (cd :: wall) rm (jPre D cy av h sz) (va_Qi post (jB D cy h sz) (va_A (pool cy h) sz)) rm.cells rm.slots (va_A (pool cy h) sz)
def jV (l : Launch) (D : va_G) (cy : Nat → ClassId) (y : MethodName) (cd : Cond) (rm : Room) (av : List Value) (h : jH) (post : jH → Prop) : Prop := ∀ sz : Nat, Met l y (cd :: wall) rm (jPre D cy av h sz) (va_Qv post (jB D cy h sz) (va_A (pool cy h) sz)) rm.cells rm.slots (va_A (pool cy h) sz)
def jQ (l : Launch) (D : va_G) (cy : Nat → ClassId) (y : MethodName) (cd : Cond) (rm : Room) (av : List Value) (h : jH) (post : Option Nat → jH → Prop) : Prop := ∀ sz : Nat, Met l y (cd :: wall) rm (jPre D cy av h sz) (va_Qq post (jB D cy h sz) (va_A (pool cy h) sz)) rm.cells rm.slots (va_A (pool cy h) sz)
/-- the room of a method d calls deep -/
def rmd (d mc ms : Nat) : Room := { frames := d, cells := mc, slots := ms, locals := 40 * d }
theorem jPre_blind {D : va_G} {cy : Nat → ClassId} {av : List Value} {h : jH} {sz : Nat} : FrameBlind (jPre D cy av h sz) := fun a U g mk q => by
  obtain ⟨q0, q1, qP, qK, qD, qT⟩ := q
  exact ⟨q0, q1, qP, va_K.moved (u := U) (U := U.calling g mk a) (Vm.Alike.refl U.vm) qK, qD, jSt.moved (u := U) (U := U.calling g mk a) (Vm.Alike.refl U.vm) qT⟩
theorem j_ofI {l : Launch} {D : va_G} {cy : Nat → ClassId} {y : MethodName} {cc : ByteArray} {nL : Nat} {rm : Room} {av : List Value} {h : jH} {post : Int32 → jH → Prop} (hy : plainName y.cls = true) (hlen : (lg_sl av).length ≤ nL)
    (body : ∀ (p : Program) (e : Env) (s : State) (m : MethodId) (args : Array Value) (below : List Frame) (meth : Method) (c : Code) (Q : State → Prop), jC p s m args meth c D cy (va_A (pool cy h) s.heap.size) nL y.cls cc → meth.name = y.name → (∀ (r : Int32) (h' : jH) (cells slots : Nat) (lv : List (Nat × Value)) (pc : Nat), post r h' → cells ≤ rm.cells → slots ≤ rm.slots → decode cc pc = .ok (.ireturn, 1) → jW p l e rm s m args below meth c D cy (va_A (pool cy h) s.heap.size) nL cells slots Q h' lv pc [.int r]) → jW p l e rm s m args below meth c D cy (va_A (pool cy h) s.heap.size) nL 0 0 Q h (lv_args 0 av) 0 []) : jI l D cy y (.code y cc nL (some .int)) rm av h post := by
  intro sz
  refine Met.ofW (cc := cc) (maxL := nL) (ret := (some .int)) hy rfl ?_
  intro p e s m args below meth c s₁ B hml hv
  obtain ⟨rfl, hsz, hP, hK, hD0, hT0⟩ := hv
  subst hsz
  have C : jC p s m av.toArray meth c D cy (va_A (pool cy h) s.heap.size) nL y.cls cc := ⟨B.exec, B.bytes, hml, findClass_of_methodNamed B.named, fun w hw => atoms_spec (ws := .code y cc nL (some .int) :: wall) B.pre w (List.mem_cons_of_mem _ hw), hK, fun q h => Or.inr h, B.notSynchronized, hT0⟩
  have hlocks := B.notSynchronized
  rw [lg_entry_eq]
  refine body p e s m _ below meth c _ C (name_of_methodNamed B.named B.method).1 ?_ s.heap [] _ hP hD0.self va_S.rf (lv_entry av hlen)
  intro r h' cells slots lv pc hp hc hs hd H locs ls hP' hD' hS hl
  refine W.widen hc hs ?_
  exact W.iret C.1 C.2.1 B.returns (fun t ht hW => ⟨⟨r, h', rfl, hp, by rw [ht]; exact hP', va_K.moved hW.alike hK, hD'⟩, hS.F ht⟩) hS.2.2 hd
theorem j_ofZ {l : Launch} {D : va_G} {cy : Nat → ClassId} {y : MethodName} {cc : ByteArray} {nL : Nat} {rm : Room} {av : List Value} {h : jH} {post : Int32 → jH → Prop} (hy : plainName y.cls = true) (hlen : (lg_sl av).length ≤ nL)
    (body : ∀ (p : Program) (e : Env) (s : State) (m : MethodId) (args : Array Value) (below : List Frame) (meth : Method) (c : Code) (Q : State → Prop), jC p s m args meth c D cy (va_A (pool cy h) s.heap.size) nL y.cls cc → meth.name = y.name → (∀ (r : Int32) (h' : jH) (cells slots : Nat) (lv : List (Nat × Value)) (pc : Nat), post r h' → (r = 0 ∨ r = 1) → cells ≤ rm.cells → slots ≤ rm.slots → decode cc pc = .ok (.ireturn, 1) → jW p l e rm s m args below meth c D cy (va_A (pool cy h) s.heap.size) nL cells slots Q h' lv pc [.int r]) → jW p l e rm s m args below meth c D cy (va_A (pool cy h) s.heap.size) nL 0 0 Q h (lv_args 0 av) 0 []) : jI l D cy y (.code y cc nL (some .boolean)) rm av h post := by
  intro sz
  refine Met.ofW (cc := cc) (maxL := nL) (ret := (some .boolean)) hy rfl ?_
  intro p e s m args below meth c s₁ B hml hv
  obtain ⟨rfl, hsz, hP, hK, hD0, hT0⟩ := hv
  subst hsz
  have C : jC p s m av.toArray meth c D cy (va_A (pool cy h) s.heap.size) nL y.cls cc := ⟨B.exec, B.bytes, hml, findClass_of_methodNamed B.named, fun w hw => atoms_spec (ws := .code y cc nL (some .boolean) :: wall) B.pre w (List.mem_cons_of_mem _ hw), hK, fun q h => Or.inr h, B.notSynchronized, hT0⟩
  have hlocks := B.notSynchronized
  rw [lg_entry_eq]
  refine body p e s m _ below meth c _ C (name_of_methodNamed B.named B.method).1 ?_ s.heap [] _ hP hD0.self va_S.rf (lv_entry av hlen)
  intro r h' cells slots lv pc hp hz hc hs hd H locs ls hP' hD' hS hl
  refine W.widen hc hs ?_
  exact W.zret C.1 C.2.1 B.returns (by rcases hz with rfl | rfl <;> decide) (fun t ht hW => ⟨⟨r, h', rfl, hp, by rw [ht]; exact hP', va_K.moved hW.alike hK, hD'⟩, hS.F ht⟩) hS.2.2 hd
theorem j_ofV {l : Launch} {D : va_G} {cy : Nat → ClassId} {y : MethodName} {cc : ByteArray} {nL : Nat} {rm : Room} {av : List Value} {h : jH} {post : jH → Prop} (hy : plainName y.cls = true) (hlen : (lg_sl av).length ≤ nL)
    (body : ∀ (p : Program) (e : Env) (s : State) (m : MethodId) (args : Array Value) (below : List Frame) (meth : Method) (c : Code) (Q : State → Prop), jC p s m args meth c D cy (va_A (pool cy h) s.heap.size) nL y.cls cc → meth.name = y.name → (∀ (h' : jH) (cells slots : Nat) (lv : List (Nat × Value)) (pc : Nat), post h' → cells ≤ rm.cells → slots ≤ rm.slots → decode cc pc = .ok (.return_, 1) → jW p l e rm s m args below meth c D cy (va_A (pool cy h) s.heap.size) nL cells slots Q h' lv pc []) → jW p l e rm s m args below meth c D cy (va_A (pool cy h) s.heap.size) nL 0 0 Q h (lv_args 0 av) 0 []) : jV l D cy y (.code y cc nL none) rm av h post := by
  intro sz
  refine Met.ofW (cc := cc) (maxL := nL) (ret := none) hy rfl ?_
  intro p e s m args below meth c s₁ B hml hv
  obtain ⟨rfl, hsz, hP, hK, hD0, hT0⟩ := hv
  subst hsz
  have C : jC p s m av.toArray meth c D cy (va_A (pool cy h) s.heap.size) nL y.cls cc := ⟨B.exec, B.bytes, hml, findClass_of_methodNamed B.named, fun w hw => atoms_spec (ws := .code y cc nL none :: wall) B.pre w (List.mem_cons_of_mem _ hw), hK, fun q h => Or.inr h, B.notSynchronized, hT0⟩
  have hlocks := B.notSynchronized
  rw [lg_entry_eq]
  refine body p e s m _ below meth c _ C (name_of_methodNamed B.named B.method).1 ?_ s.heap [] _ hP hD0.self va_S.rf (lv_entry av hlen)
  intro h' cells slots lv pc hp hc hs hd H locs ls hP' hD' hS hl
  refine W.widen hc hs ?_
  exact W.vret C.1 C.2.1 B.returns (fun t ht hW => ⟨⟨h', rfl, hp, by rw [ht]; exact hP', va_K.moved hW.alike hK, hD'⟩, hS.F ht⟩) hS.2.2 hd
theorem j_ofQ {l : Launch} {D : va_G} {cy : Nat → ClassId} {y : MethodName} {cc : ByteArray} {nL : Nat} {rm : Room} {av : List Value} {h : jH} {post : Option Nat → jH → Prop} {Cn : String} (hy : plainName y.cls = true) (hlen : (lg_sl av).length ≤ nL)
    (body : ∀ (p : Program) (e : Env) (s : State) (m : MethodId) (args : Array Value) (below : List Frame) (meth : Method) (c : Code) (Q : State → Prop), jC p s m args meth c D cy (va_A (pool cy h) s.heap.size) nL y.cls cc → meth.name = y.name → (∀ (r : Option Nat) (h' : jH) (cells slots : Nat) (lv : List (Nat × Value)) (pc : Nat), post r h' → cells ≤ rm.cells → slots ≤ rm.slots → decode cc pc = .ok (.areturn, 1) → jW p l e rm s m args below meth c D cy (va_A (pool cy h) s.heap.size) nL cells slots Q h' lv pc [va_rf r]) → jW p l e rm s m args below meth c D cy (va_A (pool cy h) s.heap.size) nL 0 0 Q h (lv_args 0 av) 0 []) : jQ l D cy y (.code y cc nL (some (.object Cn))) rm av h post := by
  intro sz
  refine Met.ofW (cc := cc) (maxL := nL) (ret := (some (.object Cn))) hy rfl ?_
  intro p e s m args below meth c s₁ B hml hv
  obtain ⟨rfl, hsz, hP, hK, hD0, hT0⟩ := hv
  subst hsz
  have C : jC p s m av.toArray meth c D cy (va_A (pool cy h) s.heap.size) nL y.cls cc := ⟨B.exec, B.bytes, hml, findClass_of_methodNamed B.named, fun w hw => atoms_spec (ws := .code y cc nL (some (.object Cn)) :: wall) B.pre w (List.mem_cons_of_mem _ hw), hK, fun q h => Or.inr h, B.notSynchronized, hT0⟩
  have hlocks := B.notSynchronized
  rw [lg_entry_eq]
  refine body p e s m _ below meth c _ C (name_of_methodNamed B.named B.method).1 ?_ s.heap [] _ hP hD0.self va_S.rf (lv_entry av hlen)
  intro r h' cells slots lv pc hp hc hs hd H locs ls hP' hD' hS hl
  refine W.widen hc hs ?_
  exact W.aret C.1 C.2.1 B.returns (Or.inl ⟨_, rfl⟩) (va_rf_or r) (fun t ht hW => ⟨⟨r, h', rfl, hp, by rw [ht]; exact hP', va_K.moved hW.alike hK, hD'⟩, hS.F ht⟩) hS.2.2 hd
/-- a call's words: pool number index of own is the method y, with these bytes, n parameters -/
def jG (own : String) (index : Nat) (y : MethodName) (bytes : ByteArray) (nLc : Nat) (ret : Option FieldType) (n : Nat) : Prop := Cond.methodLink own index y ∈ wall ∧ Cond.initialized y.cls ∈ wall ∧ Cond.code y bytes nLc ret ∈ wall ∧ (y.cls ≠ "java/lang/invoke/MethodHandle" ∧ y.cls ≠ "java/lang/invoke/VarHandle" ∧ (parseMethodDescriptor y.desc).map (fun d => d.parameters.length) = some n)
def jGv (own : String) (index : Nat) (y : MethodName) (bytes : ByteArray) (nLc : Nat) (ret : Option FieldType) (n ci : Nat) : Prop := jG own index y bytes nLc ret n ∧ Cond.instanceMethod y ∈ wall ∧ Cond.selects y.cls y y ∈ wall ∧ ci < 12 ∧ ∃ r : vw_C, vwCl[ci]? = some r ∧ r.1 = y.cls
def jGs (own : String) (index : Nat) (y : MethodName) (bytes : ByteArray) (nLc : Nat) (ret : Option FieldType) (n : Nat) : Prop := jG own index y bytes nLc ret n ∧ Cond.static y ∈ wall
def jGi (own : String) (index : Nat) (y : MethodName) (bytes : ByteArray) (nLc : Nat) (n : Nat) : Prop := jG own index y bytes nLc none n ∧ Cond.instanceMethod y ∈ wall ∧ y.name = "<init>"
theorem wl_self : GoodIn wall wall := fun w hw => ⟨hw, wl_good hw⟩
theorem wl_cons {d : Cond} (h : d ∈ wall) : GoodIn wall (d :: wall) := fun w hw => by
  rcases List.mem_cons.mp hw with rfl | h2
  · exact ⟨h, wl_good h⟩
  · exact ⟨h2, wl_good h2⟩
section JCALLS
variable {p : Program} {l : Launch} {e : Env} {R : Room} {s : State} {m : MethodId} {args : Array Value} {below : List Frame} {meth : Method} {c : Code} {D : va_G} {cy : Nat → ClassId} {A : Nat → Prop} {nL cells slots : Nat} {Q : State → Prop} {own : String} {cc : ByteArray} {h : jH} {lv lv' : List (Nat × Value)} {pc : Nat} {st : List Value}
theorem jG_B (C : jC p s m args meth c D cy A nL own cc) {index : Nat} {y : MethodName} {bytes : ByteArray} {nLc n : Nat} {ret : Option FieldType} {rmc : Room} (G : jG own index y bytes nLc ret n) (hR : rmc.frames + 1 ≤ R.frames ∧ 8 + (nLc + 11) + rmc.locals ≤ R.locals) : CallB R s args own index y bytes nLc ret (.code y bytes nLc ret :: wall) rmc rmc.cells rmc.slots n :=
  callB_of (Ts := wall) n C.2.2.2.2.1 (wl_cons G.2.2.1) rfl rfl rfl (C.2.2.2.2.1 _ G.2.1) (C.2.2.2.2.1 _ G.1) G.2.2.2 hR
theorem j_in (C : jC p s m args meth c D cy A nL own cc) {H : Heap} {locs : List Loc} (hD : va_D A (pool cy h)) (hS : va_S A s.heap H locs) : ∀ q, va_A (pool cy h) H.size q → A q := fun q hq => by
  rcases hq with ⟨k, x, hk⟩ | hq
  · exact hD.2 k _ hk
  · exact C.2.2.2.2.2.2.1 q (Nat.le_trans hS.1 hq)
theorem j_pre (C : jC p s m args meth c D cy A nL own cc) {H : Heap} {locs : List Loc} {av : List Value} (hP : va_P D vwCl (pool cy h) H) (hD : va_D A (pool cy h)) (hS : va_S A s.heap H locs) : PreS s H (jPre D cy av h H.size) av := ⟨jPre_blind, fun U hU hW => ⟨rfl, by rw [hU], by rw [hU]; exact hP, va_K.moved hW.alike C.2.2.2.2.2.1, hD.weaken (fun _ _ _ _ => trivial), by rw [hU]; exact (((C.2.2.2.2.2.2.2.2).kept hS.2.1).narrow (j_in C hD hS)).moved hW.alike⟩⟩
theorem j_callVi (C : jC p s m args meth c D cy A nL own cc) {index b ci n nLc : Nat} {y : MethodName} {bytes : ByteArray} {ret : Option FieldType} {rmc : Room} {As rest : List Value} {post : Int32 → jH → Prop} (G : jGv own index y bytes nLc ret n ci) (M : jI l D cy y (.code y bytes nLc ret) rmc (.ref b :: As) h post) (ok : h_ok h b ci) (hn : As.length = n) (hst : st = As.reverse ++ .ref b :: rest) (hW : (rest.map fun v => v.category).sum ≤ 8) (hR : rmc.frames + 1 ≤ R.frames ∧ 8 + (nLc + 11) + rmc.locals ≤ R.locals) (hf : cells + rmc.cells ≤ R.cells ∧ slots + rmc.slots ≤ R.slots) (hd : decode cc pc = .ok (.invokevirtual index, 3)) (kk : ∀ (r : Int32) (h' : jH), post r h' → jW p l e R s m args below meth c D cy A nL (cells + rmc.cells) (slots + rmc.slots) Q h' lv (pc + 3) (.int r :: rest)) : jW p l e R s m args below meth c D cy A nL cells slots Q h lv pc st := fun H locs ls hP hD hS hl => by
  have hFc := j_in C hD hS
  obtain ⟨vr, hvr, hvn⟩ := G.2.2.2.2
  have hrecv : ∃ cellB : Cell, H[b]? = some cellB ∧ cellB.vm.isStatics = false ∧ s.vm.findClass y.cls = some cellB.cls := by
    obtain ⟨q, hq⟩ := pool_get (cy := cy) ok.1
    rw [pf_obj ok.2 G.2.2.2.1] at hq
    rw [← hvn]
    exact va_recv C.2.2.2.2.2.1 hP hvr hq
  refine va_calli (va_runV (As := As) (rest := rest) ⟨C.1, C.2.1, C.2.2.1, C.2.2.2.1, C.2.2.2.2.1⟩ (M H.size) ⟨jG_B C G.1 hR, C.2.2.2.2.1 _ G.2.1, C.2.2.2.2.1 _ G.2.2.1⟩ ⟨(j_pre C (av := .ref b :: As) hP hD hS).1, hrecv, (j_pre C hP hD hS).2⟩ rfl hn hl.1 hst (lv_room hW) hd hf) hS (fun q _ hq => hFc q hq) hFc (fun r u t H1 locs1 ht hvm hw hB hz1 hk1 hS1 => ?_)
  obtain ⟨hP1, hK1, hD1⟩ := hB
  rw [ht] at hP1
  exact kk r u hw H1 locs1 ls hP1 (hD1.weaken (fun _ q _ hq => hFc q.1 hq)) hS1 hl
theorem j_callVv (C : jC p s m args meth c D cy A nL own cc) {index b ci n nLc : Nat} {y : MethodName} {bytes : ByteArray} {ret : Option FieldType} {rmc : Room} {As rest : List Value} {post : jH → Prop} (G : jGv own index y bytes nLc ret n ci) (M : jV l D cy y (.code y bytes nLc ret) rmc (.ref b :: As) h post) (ok : h_ok h b ci) (hn : As.length = n) (hst : st = As.reverse ++ .ref b :: rest) (hW : (rest.map fun v => v.category).sum ≤ 8) (hR : rmc.frames + 1 ≤ R.frames ∧ 8 + (nLc + 11) + rmc.locals ≤ R.locals) (hf : cells + rmc.cells ≤ R.cells ∧ slots + rmc.slots ≤ R.slots) (hd : decode cc pc = .ok (.invokevirtual index, 3)) (kk : ∀ (h' : jH), post h' → jW p l e R s m args below meth c D cy A nL (cells + rmc.cells) (slots + rmc.slots) Q h' lv (pc + 3) (rest)) : jW p l e R s m args below meth c D cy A nL cells slots Q h lv pc st := fun H locs ls hP hD hS hl => by
  have hFc := j_in C hD hS
  obtain ⟨vr, hvr, hvn⟩ := G.2.2.2.2
  have hrecv : ∃ cellB : Cell, H[b]? = some cellB ∧ cellB.vm.isStatics = false ∧ s.vm.findClass y.cls = some cellB.cls := by
    obtain ⟨q, hq⟩ := pool_get (cy := cy) ok.1
    rw [pf_obj ok.2 G.2.2.2.1] at hq
    rw [← hvn]
    exact va_recv C.2.2.2.2.2.1 hP hvr hq
  refine va_callv (va_runV (As := As) (rest := rest) ⟨C.1, C.2.1, C.2.2.1, C.2.2.2.1, C.2.2.2.2.1⟩ (M H.size) ⟨jG_B C G.1 hR, C.2.2.2.2.1 _ G.2.1, C.2.2.2.2.1 _ G.2.2.1⟩ ⟨(j_pre C (av := .ref b :: As) hP hD hS).1, hrecv, (j_pre C hP hD hS).2⟩ rfl hn hl.1 hst (lv_room hW) hd hf) hS (fun q _ hq => hFc q hq) hFc (fun u t H1 locs1 ht hvm hw hB hz1 hk1 hS1 => ?_)
  obtain ⟨hP1, hK1, hD1⟩ := hB
  rw [ht] at hP1
  exact kk u hw H1 locs1 ls hP1 (hD1.weaken (fun _ q _ hq => hFc q.1 hq)) hS1 hl
theorem j_callVq (C : jC p s m args meth c D cy A nL own cc) {index b ci n nLc : Nat} {y : MethodName} {bytes : ByteArray} {ret : Option FieldType} {rmc : Room} {As rest : List Value} {post : Option Nat → jH → Prop} (G : jGv own index y bytes nLc ret n ci) (M : jQ l D cy y (.code y bytes nLc ret) rmc (.ref b :: As) h post) (ok : h_ok h b ci) (hn : As.length = n) (hst : st = As.reverse ++ .ref b :: rest) (hW : (rest.map fun v => v.category).sum ≤ 8) (hR : rmc.frames + 1 ≤ R.frames ∧ 8 + (nLc + 11) + rmc.locals ≤ R.locals) (hf : cells + rmc.cells ≤ R.cells ∧ slots + rmc.slots ≤ R.slots) (hd : decode cc pc = .ok (.invokevirtual index, 3)) (kk : ∀ (r : Option Nat) (h' : jH), post r h' → jW p l e R s m args below meth c D cy A nL (cells + rmc.cells) (slots + rmc.slots) Q h' lv (pc + 3) (va_rf r :: rest)) : jW p l e R s m args below meth c D cy A nL cells slots Q h lv pc st := fun H locs ls hP hD hS hl => by
  have hFc := j_in C hD hS
  obtain ⟨vr, hvr, hvn⟩ := G.2.2.2.2
  have hrecv : ∃ cellB : Cell, H[b]? = some cellB ∧ cellB.vm.isStatics = false ∧ s.vm.findClass y.cls = some cellB.cls := by
    obtain ⟨q, hq⟩ := pool_get (cy := cy) ok.1
    rw [pf_obj ok.2 G.2.2.2.1] at hq
    rw [← hvn]
    exact va_recv C.2.2.2.2.2.1 hP hvr hq
  refine va_callq (va_runV (As := As) (rest := rest) ⟨C.1, C.2.1, C.2.2.1, C.2.2.2.1, C.2.2.2.2.1⟩ (M H.size) ⟨jG_B C G.1 hR, C.2.2.2.2.1 _ G.2.1, C.2.2.2.2.1 _ G.2.2.1⟩ ⟨(j_pre C (av := .ref b :: As) hP hD hS).1, hrecv, (j_pre C hP hD hS).2⟩ rfl hn hl.1 hst (lv_room hW) hd hf) hS (fun q _ hq => hFc q hq) hFc (fun r u t H1 locs1 ht hvm hw hB hz1 hk1 hS1 => ?_)
  obtain ⟨hP1, hK1, hD1⟩ := hB
  rw [ht] at hP1
  exact kk r u hw H1 locs1 ls hP1 (hD1.weaken (fun _ q _ hq => hFc q.1 hq)) hS1 hl
theorem j_callSi (C : jC p s m args meth c D cy A nL own cc) {index n nLc : Nat} {y : MethodName} {bytes : ByteArray} {ret : Option FieldType} {rmc : Room} {As rest : List Value} {post : Int32 → jH → Prop} (G : jGs own index y bytes nLc ret n) (M : jI l D cy y (.code y bytes nLc ret) rmc As h post) (hn : As.length = n) (hst : st = As.reverse ++ rest) (hW : (rest.map fun v => v.category).sum ≤ 8) (hR : rmc.frames + 1 ≤ R.frames ∧ 8 + (nLc + 11) + rmc.locals ≤ R.locals) (hf : cells + rmc.cells ≤ R.cells ∧ slots + rmc.slots ≤ R.slots) (hd : decode cc pc = .ok (.invokestatic index, 3)) (kk : ∀ (r : Int32) (h' : jH), post r h' → jW p l e R s m args below meth c D cy A nL (cells + rmc.cells) (slots + rmc.slots) Q h' lv (pc + 3) (.int r :: rest)) : jW p l e R s m args below meth c D cy A nL cells slots Q h lv pc st := fun H locs ls hP hD hS hl => by
  have hFc := j_in C hD hS
  refine va_calli (va_runS (As := As) (rest := rest) ⟨C.1, C.2.1, C.2.2.1, C.2.2.2.1, C.2.2.2.2.1⟩ (M H.size) ⟨jG_B C G.1 hR, C.2.2.2.2.1 _ G.2⟩ (j_pre C hP hD hS) rfl hn hl.1 hst (lv_room hW) hd hf) hS (fun q _ hq => hFc q hq) hFc (fun r u t H1 locs1 ht hvm hw hB hz1 hk1 hS1 => ?_)
  obtain ⟨hP1, hK1, hD1⟩ := hB
  rw [ht] at hP1
  exact kk r u hw H1 locs1 ls hP1 (hD1.weaken (fun _ q _ hq => hFc q.1 hq)) hS1 hl
theorem j_callSv (C : jC p s m args meth c D cy A nL own cc) {index n nLc : Nat} {y : MethodName} {bytes : ByteArray} {ret : Option FieldType} {rmc : Room} {As rest : List Value} {post : jH → Prop} (G : jGs own index y bytes nLc ret n) (M : jV l D cy y (.code y bytes nLc ret) rmc As h post) (hn : As.length = n) (hst : st = As.reverse ++ rest) (hW : (rest.map fun v => v.category).sum ≤ 8) (hR : rmc.frames + 1 ≤ R.frames ∧ 8 + (nLc + 11) + rmc.locals ≤ R.locals) (hf : cells + rmc.cells ≤ R.cells ∧ slots + rmc.slots ≤ R.slots) (hd : decode cc pc = .ok (.invokestatic index, 3)) (kk : ∀ (h' : jH), post h' → jW p l e R s m args below meth c D cy A nL (cells + rmc.cells) (slots + rmc.slots) Q h' lv (pc + 3) (rest)) : jW p l e R s m args below meth c D cy A nL cells slots Q h lv pc st := fun H locs ls hP hD hS hl => by
  have hFc := j_in C hD hS
  refine va_callv (va_runS (As := As) (rest := rest) ⟨C.1, C.2.1, C.2.2.1, C.2.2.2.1, C.2.2.2.2.1⟩ (M H.size) ⟨jG_B C G.1 hR, C.2.2.2.2.1 _ G.2⟩ (j_pre C hP hD hS) rfl hn hl.1 hst (lv_room hW) hd hf) hS (fun q _ hq => hFc q hq) hFc (fun u t H1 locs1 ht hvm hw hB hz1 hk1 hS1 => ?_)
  obtain ⟨hP1, hK1, hD1⟩ := hB
  rw [ht] at hP1
  exact kk u hw H1 locs1 ls hP1 (hD1.weaken (fun _ q _ hq => hFc q.1 hq)) hS1 hl
theorem j_callSq (C : jC p s m args meth c D cy A nL own cc) {index n nLc : Nat} {y : MethodName} {bytes : ByteArray} {ret : Option FieldType} {rmc : Room} {As rest : List Value} {post : Option Nat → jH → Prop} (G : jGs own index y bytes nLc ret n) (M : jQ l D cy y (.code y bytes nLc ret) rmc As h post) (hn : As.length = n) (hst : st = As.reverse ++ rest) (hW : (rest.map fun v => v.category).sum ≤ 8) (hR : rmc.frames + 1 ≤ R.frames ∧ 8 + (nLc + 11) + rmc.locals ≤ R.locals) (hf : cells + rmc.cells ≤ R.cells ∧ slots + rmc.slots ≤ R.slots) (hd : decode cc pc = .ok (.invokestatic index, 3)) (kk : ∀ (r : Option Nat) (h' : jH), post r h' → jW p l e R s m args below meth c D cy A nL (cells + rmc.cells) (slots + rmc.slots) Q h' lv (pc + 3) (va_rf r :: rest)) : jW p l e R s m args below meth c D cy A nL cells slots Q h lv pc st := fun H locs ls hP hD hS hl => by
  have hFc := j_in C hD hS
  refine va_callq (va_runS (As := As) (rest := rest) ⟨C.1, C.2.1, C.2.2.1, C.2.2.2.1, C.2.2.2.2.1⟩ (M H.size) ⟨jG_B C G.1 hR, C.2.2.2.2.1 _ G.2⟩ (j_pre C hP hD hS) rfl hn hl.1 hst (lv_room hW) hd hf) hS (fun q _ hq => hFc q hq) hFc (fun r u t H1 locs1 ht hvm hw hB hz1 hk1 hS1 => ?_)
  obtain ⟨hP1, hK1, hD1⟩ := hB
  rw [ht] at hP1
  exact kk r u hw H1 locs1 ls hP1 (hD1.weaken (fun _ q _ hq => hFc q.1 hq)) hS1 hl
theorem j_callIv (C : jC p s m args meth c D cy A nL own cc) {index b n nLc : Nat} {y : MethodName} {bytes : ByteArray} {ret : Option FieldType} {rmc : Room} {As rest : List Value} {post : jH → Prop} (G : jGi own index y bytes nLc n) (M : jV l D cy y (.code y bytes nLc none) rmc (.ref b :: As) h post) (hn : As.length = n) (hst : st = As.reverse ++ .ref b :: rest) (hW : (rest.map fun v => v.category).sum ≤ 8) (hR : rmc.frames + 1 ≤ R.frames ∧ 8 + (nLc + 11) + rmc.locals ≤ R.locals) (hf : cells + rmc.cells ≤ R.cells ∧ slots + rmc.slots ≤ R.slots) (hd : decode cc pc = .ok (.invokespecial index, 3)) (kk : ∀ (h' : jH), post h' → jW p l e R s m args below meth c D cy A nL (cells + rmc.cells) (slots + rmc.slots) Q h' lv (pc + 3) (rest)) : jW p l e R s m args below meth c D cy A nL cells slots Q h lv pc st := fun H locs ls hP hD hS hl => by
  have hFc := j_in C hD hS
  refine va_callv (va_runI (As := As) (rest := rest) ⟨C.1, C.2.1, C.2.2.1, C.2.2.2.1, C.2.2.2.2.1⟩ (M H.size) ⟨jG_B C G.1 hR, G.2.2, C.2.2.2.2.1 _ G.2.1⟩ (j_pre C hP hD hS) rfl hn hl.1 hst (lv_room hW) hd hf) hS (fun q _ hq => hFc q hq) hFc (fun u t H1 locs1 ht hvm hw hB hz1 hk1 hS1 => ?_)
  obtain ⟨hP1, hK1, hD1⟩ := hB
  rw [ht] at hP1
  exact kk u hw H1 locs1 ls hP1 (hD1.weaken (fun _ q _ hq => hFc q.1 hq)) hS1 hl
theorem j_max (C : jC p s m args meth c D cy A nL own cc) {index : Nat} {x y : Int32} (hk : Cond.methodLink own index Lib.Math.max.name ∈ wall) (hd : decode cc pc = .ok (.invokestatic index, 3)) (h1 : 1 ≤ R.frames) (h2 : (st.map fun v => v.category).sum + 13 ≤ R.locals) (hc : cells ≤ R.cells) (hs : slots ≤ R.slots) (k : jW p l e R s m args below meth c D cy A nL cells slots Q h lv (pc + 3) (.int (if x < y then y else x) :: st)) : jW p l e R s m args below meth c D cy A nL cells slots Q h lv pc (.int y :: .int x :: st) := fun H locs ls hP hD hS hl => va_mmax C.1 C.2.1 (C.2.2.1.trans hl.1.symm) C.2.2.2.1 (C.2.2.2.2.1 _ hk) (C.2.2.2.2.1 _ kS_Lib_Math_max_name) (C.2.2.2.2.1 _ kN_Math) (C.2.2.2.2.1 _ kC_max) h1 h2 hc hs hd (k H locs ls hP hD hS hl)
theorem j_min (C : jC p s m args meth c D cy A nL own cc) {index : Nat} {x y : Int32} (hk : Cond.methodLink own index Lib.Math.min.name ∈ wall) (hd : decode cc pc = .ok (.invokestatic index, 3)) (h1 : 1 ≤ R.frames) (h2 : (st.map fun v => v.category).sum + 13 ≤ R.locals) (hc : cells ≤ R.cells) (hs : slots ≤ R.slots) (k : jW p l e R s m args below meth c D cy A nL cells slots Q h lv (pc + 3) (.int (if y < x then y else x) :: st)) : jW p l e R s m args below meth c D cy A nL cells slots Q h lv pc (.int y :: .int x :: st) := fun H locs ls hP hD hS hl => va_mmin C.1 C.2.1 (C.2.2.1.trans hl.1.symm) C.2.2.2.1 (C.2.2.2.2.1 _ hk) (C.2.2.2.2.1 _ kS_Lib_Math_min_name) (C.2.2.2.2.1 _ kN_Math) (C.2.2.2.2.1 _ kC_min) h1 h2 hc hs hd (k H locs ls hP hD hS hl)
end JCALLS
end
section
theorem fF_X2_9 : jF RX2 9 2 0 false := ⟨_, _, _, rfl, i_X2, kF_X2_9, rfl, by decide, rfl, rfl, by decide⟩
theorem fP_X2_9 : jP RX2 9 2 0 false false (.int) := ⟨_, _, _, tyX2, rfl, i_X2, kF_X2_9, rfl, by decide, rfl, rfl, by decide, tyX2_ok, nmX2, rfl, by decide +kernel, fun h => by cases h⟩
theorem fF_X10_67 : jF RX10 67 2 0 false := ⟨_, _, _, rfl, i_X2, kF_X10_67, rfl, by decide, rfl, rfl, by decide⟩
theorem fP_X10_67 : jP RX10 67 2 0 false false (.int) := ⟨_, _, _, tyX2, rfl, i_X2, kF_X10_67, rfl, by decide, rfl, rfl, by decide, tyX2_ok, nmX2, rfl, by decide +kernel, fun h => by cases h⟩
theorem fF_X7_41 : jF RX7 41 2 0 false := ⟨_, _, _, rfl, i_X2, kF_X7_41, rfl, by decide, rfl, rfl, by decide⟩
theorem fF_X2_17 : jF RX2 17 2 1 true := ⟨_, _, _, rfl, i_X2, kF_X2_17, rfl, by decide, rfl, rfl, by decide⟩
theorem fP_X2_17 : jP RX2 17 2 1 true true (.array (.object "CleanSeed$Field")) := ⟨_, _, _, tyX2, rfl, i_X2, kF_X2_17, rfl, by decide, rfl, rfl, by decide, tyX2_ok, nmX2, rfl, by decide +kernel, fun _ => rfl⟩
theorem fF_X2_21 : jF RX2 21 2 2 false := ⟨_, _, _, rfl, i_X2, kF_X2_21, rfl, by decide, rfl, rfl, by decide⟩
theorem fP_X2_21 : jP RX2 21 2 2 false false (.int) := ⟨_, _, _, tyX2, rfl, i_X2, kF_X2_21, rfl, by decide, rfl, rfl, by decide, tyX2_ok, nmX2, rfl, by decide +kernel, fun h => by cases h⟩
theorem fF_X10_47 : jF RX10 47 2 2 false := ⟨_, _, _, rfl, i_X2, kF_X10_47, rfl, by decide, rfl, rfl, by decide⟩
theorem fF_X0_100 : jF RX0 100 2 2 false := ⟨_, _, _, rfl, i_X2, kF_X0_100, rfl, by decide, rfl, rfl, by decide⟩
theorem fF_X2_26 : jF RX2 26 2 3 true := ⟨_, _, _, rfl, i_X2, kF_X2_26, rfl, by decide, rfl, rfl, by decide⟩
theorem fP_X2_26 : jP RX2 26 2 3 true true (.array (.object "CleanSeed$Lot")) := ⟨_, _, _, tyX2, rfl, i_X2, kF_X2_26, rfl, by decide, rfl, rfl, by decide, tyX2_ok, nmX2, rfl, by decide +kernel, fun _ => rfl⟩
theorem fF_X2_30 : jF RX2 30 2 4 false := ⟨_, _, _, rfl, i_X2, kF_X2_30, rfl, by decide, rfl, rfl, by decide⟩
theorem fP_X2_30 : jP RX2 30 2 4 false false (.int) := ⟨_, _, _, tyX2, rfl, i_X2, kF_X2_30, rfl, by decide, rfl, rfl, by decide, tyX2_ok, nmX2, rfl, by decide +kernel, fun h => by cases h⟩
theorem fF_X0_15 : jF RX0 15 2 4 false := ⟨_, _, _, rfl, i_X2, kF_X0_15, rfl, by decide, rfl, rfl, by decide⟩
theorem fF_X4_15 : jF RX4 15 2 4 false := ⟨_, _, _, rfl, i_X2, kF_X4_15, rfl, by decide, rfl, rfl, by decide⟩
theorem fF_X10_91 : jF RX10 91 2 4 false := ⟨_, _, _, rfl, i_X2, kF_X10_91, rfl, by decide, rfl, rfl, by decide⟩
theorem fF_X2_35 : jF RX2 35 2 5 true := ⟨_, _, _, rfl, i_X2, kF_X2_35, rfl, by decide, rfl, rfl, by decide⟩
theorem fP_X2_35 : jP RX2 35 2 5 true true (.array (.object "CleanSeed$Bag")) := ⟨_, _, _, tyX2, rfl, i_X2, kF_X2_35, rfl, by decide, rfl, rfl, by decide, tyX2_ok, nmX2, rfl, by decide +kernel, fun _ => rfl⟩
theorem fF_X2_39 : jF RX2 39 2 6 false := ⟨_, _, _, rfl, i_X2, kF_X2_39, rfl, by decide, rfl, rfl, by decide⟩
theorem fP_X2_39 : jP RX2 39 2 6 false false (.int) := ⟨_, _, _, tyX2, rfl, i_X2, kF_X2_39, rfl, by decide, rfl, rfl, by decide, tyX2_ok, nmX2, rfl, by decide +kernel, fun h => by cases h⟩
theorem fF_X4_52 : jF RX4 52 2 6 false := ⟨_, _, _, rfl, i_X2, kF_X4_52, rfl, by decide, rfl, rfl, by decide⟩
theorem fF_X10_155 : jF RX10 155 2 6 false := ⟨_, _, _, rfl, i_X2, kF_X10_155, rfl, by decide, rfl, rfl, by decide⟩
theorem fF_X2_42 : jF RX2 42 2 7 false := ⟨_, _, _, rfl, i_X2, kF_X2_42, rfl, by decide, rfl, rfl, by decide⟩
theorem fP_X2_42 : jP RX2 42 2 7 false false (.int) := ⟨_, _, _, tyX2, rfl, i_X2, kF_X2_42, rfl, by decide, rfl, rfl, by decide, tyX2_ok, nmX2, rfl, by decide +kernel, fun h => by cases h⟩
theorem fF_X10_275 : jF RX10 275 2 7 false := ⟨_, _, _, rfl, i_X2, kF_X10_275, rfl, by decide, rfl, rfl, by decide⟩
theorem fF_X2_51 : jF RX2 51 2 8 true := ⟨_, _, _, rfl, i_X2, kF_X2_51, rfl, by decide, rfl, rfl, by decide⟩
theorem fP_X2_51 : jP RX2 51 2 8 true true (.array (.object "CleanSeed$Statute")) := ⟨_, _, _, tyX2, rfl, i_X2, kF_X2_51, rfl, by decide, rfl, rfl, by decide, tyX2_ok, nmX2, rfl, by decide +kernel, fun _ => rfl⟩
theorem fF_X2_55 : jF RX2 55 2 9 false := ⟨_, _, _, rfl, i_X2, kF_X2_55, rfl, by decide, rfl, rfl, by decide⟩
theorem fP_X2_55 : jP RX2 55 2 9 false false (.int) := ⟨_, _, _, tyX2, rfl, i_X2, kF_X2_55, rfl, by decide, rfl, rfl, by decide, tyX2_ok, nmX2, rfl, by decide +kernel, fun h => by cases h⟩
theorem fF_X10_278 : jF RX10 278 2 9 false := ⟨_, _, _, rfl, i_X2, kF_X10_278, rfl, by decide, rfl, rfl, by decide⟩
theorem fF_X2_58 : jF RX2 58 2 10 false := ⟨_, _, _, rfl, i_X2, kF_X2_58, rfl, by decide, rfl, rfl, by decide⟩
theorem fP_X2_58 : jP RX2 58 2 10 false false (.int) := ⟨_, _, _, tyX2, rfl, i_X2, kF_X2_58, rfl, by decide, rfl, rfl, by decide, tyX2_ok, nmX2, rfl, by decide +kernel, fun h => by cases h⟩
theorem fF_X10_70 : jF RX10 70 2 10 false := ⟨_, _, _, rfl, i_X2, kF_X10_70, rfl, by decide, rfl, rfl, by decide⟩
theorem fP_X10_70 : jP RX10 70 2 10 false false (.int) := ⟨_, _, _, tyX2, rfl, i_X2, kF_X10_70, rfl, by decide, rfl, rfl, by decide, tyX2_ok, nmX2, rfl, by decide +kernel, fun h => by cases h⟩
theorem fF_X2_61 : jF RX2 61 2 11 false := ⟨_, _, _, rfl, i_X2, kF_X2_61, rfl, by decide, rfl, rfl, by decide⟩
theorem fP_X2_61 : jP RX2 61 2 11 false false (.int) := ⟨_, _, _, tyX2, rfl, i_X2, kF_X2_61, rfl, by decide, rfl, rfl, by decide, tyX2_ok, nmX2, rfl, by decide +kernel, fun h => by cases h⟩
theorem fF_X10_201 : jF RX10 201 2 11 false := ⟨_, _, _, rfl, i_X2, kF_X10_201, rfl, by decide, rfl, rfl, by decide⟩
theorem fP_X10_201 : jP RX10 201 2 11 false false (.int) := ⟨_, _, _, tyX2, rfl, i_X2, kF_X10_201, rfl, by decide, rfl, rfl, by decide, tyX2_ok, nmX2, rfl, by decide +kernel, fun h => by cases h⟩
theorem fF_X0_9 : jF RX0 9 0 0 true := ⟨_, _, _, rfl, i_X0, kF_X0_9, rfl, by decide, rfl, rfl, by decide⟩
theorem fP_X0_9 : jP RX0 9 0 0 true true (.object "CleanSeed$Book") := ⟨_, _, _, tyX0, rfl, i_X0, kF_X0_9, rfl, by decide, rfl, rfl, by decide, tyX0_ok, nmX0, rfl, by decide +kernel, fun _ => rfl⟩
theorem fF_X4_9 : jF RX4 9 4 0 true := ⟨_, _, _, rfl, i_X4, kF_X4_9, rfl, by decide, rfl, rfl, by decide⟩
theorem fP_X4_9 : jP RX4 9 4 0 true true (.object "CleanSeed$Book") := ⟨_, _, _, tyX4, rfl, i_X4, kF_X4_9, rfl, by decide, rfl, rfl, by decide, tyX4_ok, nmX4, rfl, by decide +kernel, fun _ => rfl⟩
theorem fF_X7_37 : jF RX7 37 7 0 true := ⟨_, _, _, rfl, i_X7, kF_X7_37, rfl, by decide, rfl, rfl, by decide⟩
theorem fP_X7_37 : jP RX7 37 7 0 true true (.object "CleanSeed$Book") := ⟨_, _, _, tyX7, rfl, i_X7, kF_X7_37, rfl, by decide, rfl, rfl, by decide, tyX7_ok, nmX7, rfl, by decide +kernel, fun _ => rfl⟩
theorem fF_X7_11 : jF RX7 11 7 1 true := ⟨_, _, _, rfl, i_X7, kF_X7_11, rfl, by decide, rfl, rfl, by decide⟩
theorem fP_X7_11 : jP RX7 11 7 1 true true (.array (.object "CleanSeed$Lot")) := ⟨_, _, _, tyX7, rfl, i_X7, kF_X7_11, rfl, by decide, rfl, rfl, by decide, tyX7_ok, nmX7, rfl, by decide +kernel, fun _ => rfl⟩
theorem fF_X7_17 : jF RX7 17 7 2 true := ⟨_, _, _, rfl, i_X7, kF_X7_17, rfl, by decide, rfl, rfl, by decide⟩
theorem fP_X7_17 : jP RX7 17 7 2 true true (.array .int) := ⟨_, _, _, tyX7, rfl, i_X7, kF_X7_17, rfl, by decide, rfl, rfl, by decide, tyX7_ok, nmX7, rfl, by decide +kernel, fun _ => rfl⟩
theorem fF_X7_21 : jF RX7 21 7 3 true := ⟨_, _, _, rfl, i_X7, kF_X7_21, rfl, by decide, rfl, rfl, by decide⟩
theorem fP_X7_21 : jP RX7 21 7 3 true true (.array .int) := ⟨_, _, _, tyX7, rfl, i_X7, kF_X7_21, rfl, by decide, rfl, rfl, by decide, tyX7_ok, nmX7, rfl, by decide +kernel, fun _ => rfl⟩
theorem fF_X7_24 : jF RX7 24 7 4 true := ⟨_, _, _, rfl, i_X7, kF_X7_24, rfl, by decide, rfl, rfl, by decide⟩
theorem fP_X7_24 : jP RX7 24 7 4 true true (.array .int) := ⟨_, _, _, tyX7, rfl, i_X7, kF_X7_24, rfl, by decide, rfl, rfl, by decide, tyX7_ok, nmX7, rfl, by decide +kernel, fun _ => rfl⟩
theorem fF_X7_27 : jF RX7 27 7 5 true := ⟨_, _, _, rfl, i_X7, kF_X7_27, rfl, by decide, rfl, rfl, by decide⟩
theorem fP_X7_27 : jP RX7 27 7 5 true true (.array .int) := ⟨_, _, _, tyX7, rfl, i_X7, kF_X7_27, rfl, by decide, rfl, rfl, by decide, tyX7_ok, nmX7, rfl, by decide +kernel, fun _ => rfl⟩
theorem fF_X7_30 : jF RX7 30 7 6 false := ⟨_, _, _, rfl, i_X7, kF_X7_30, rfl, by decide, rfl, rfl, by decide⟩
theorem fP_X7_30 : jP RX7 30 7 6 false false (.int) := ⟨_, _, _, tyX7, rfl, i_X7, kF_X7_30, rfl, by decide, rfl, rfl, by decide, tyX7_ok, nmX7, rfl, by decide +kernel, fun h => by cases h⟩
theorem fF_X7_34 : jF RX7 34 7 7 false := ⟨_, _, _, rfl, i_X7, kF_X7_34, rfl, by decide, rfl, rfl, by decide⟩
theorem fP_X7_34 : jP RX7 34 7 7 false false (.int) := ⟨_, _, _, tyX7, rfl, i_X7, kF_X7_34, rfl, by decide, rfl, rfl, by decide, tyX7_ok, nmX7, rfl, by decide +kernel, fun h => by cases h⟩
theorem fF_X10_264 : jF RX10 264 7 7 false := ⟨_, _, _, rfl, i_X7, kF_X10_264, rfl, by decide, rfl, rfl, by decide⟩
theorem fF_X10_10 : jF RX10 10 10 0 true := ⟨_, _, _, rfl, i_X10, kF_X10_10, rfl, by decide, rfl, rfl, by decide⟩
theorem fP_X10_10 : jP RX10 10 10 0 true true (.object "CleanSeed$Book") := ⟨_, _, _, tyX10, rfl, i_X10, kF_X10_10, rfl, by decide, rfl, rfl, by decide, tyX10_ok, nmX10, rfl, by decide +kernel, fun _ => rfl⟩
theorem fF_X10_21 : jF RX10 21 10 1 true := ⟨_, _, _, rfl, i_X10, kF_X10_21, rfl, by decide, rfl, rfl, by decide⟩
theorem fP_X10_21 : jP RX10 21 10 1 true true (.object "CleanSeed$Assessor") := ⟨_, _, _, tyX10, rfl, i_X10, kF_X10_21, rfl, by decide, rfl, rfl, by decide, tyX10_ok, nmX10, rfl, by decide +kernel, fun _ => rfl⟩
theorem fF_X10_28 : jF RX10 28 10 2 true := ⟨_, _, _, rfl, i_X10, kF_X10_28, rfl, by decide, rfl, rfl, by decide⟩
theorem fP_X10_28 : jP RX10 28 10 2 true true (.object "CleanSeed$Kin") := ⟨_, _, _, tyX10, rfl, i_X10, kF_X10_28, rfl, by decide, rfl, rfl, by decide, tyX10_ok, nmX10, rfl, by decide +kernel, fun _ => rfl⟩
theorem fF_X10_35 : jF RX10 35 10 3 true := ⟨_, _, _, rfl, i_X10, kF_X10_35, rfl, by decide, rfl, rfl, by decide⟩
theorem fP_X10_35 : jP RX10 35 10 3 true true (.object "CleanSeed$Planner") := ⟨_, _, _, tyX10, rfl, i_X10, kF_X10_35, rfl, by decide, rfl, rfl, by decide, tyX10_ok, nmX10, rfl, by decide +kernel, fun _ => rfl⟩
theorem fF_X10_39 : jF RX10 39 10 4 true := ⟨_, _, _, rfl, i_X10, kF_X10_39, rfl, by decide, rfl, rfl, by decide⟩
theorem fP_X10_39 : jP RX10 39 10 4 true true (.array .int) := ⟨_, _, _, tyX10, rfl, i_X10, kF_X10_39, rfl, by decide, rfl, rfl, by decide, tyX10_ok, nmX10, rfl, by decide +kernel, fun _ => rfl⟩
theorem fF_X3_23 : jF RX3 23 3 0 false := ⟨_, _, _, rfl, i_X3, kF_X3_23, rfl, by decide, rfl, rfl, by decide⟩
theorem fP_X3_23 : jP RX3 23 3 0 false true (.int) := ⟨_, _, _, tyX3, rfl, i_X3, kF_X3_23, rfl, by decide, rfl, rfl, by decide, tyX3_ok, nmX3, rfl, by decide +kernel, fun _ => rfl⟩
theorem fF_X6_85 : jF RX6 85 3 0 false := ⟨_, _, _, rfl, i_X3, kF_X6_85, rfl, by decide, rfl, rfl, by decide⟩
theorem fF_X3_33 : jF RX3 33 3 1 false := ⟨_, _, _, rfl, i_X3, kF_X3_33, rfl, by decide, rfl, rfl, by decide⟩
theorem fP_X3_33 : jP RX3 33 3 1 false true (.int) := ⟨_, _, _, tyX3, rfl, i_X3, kF_X3_33, rfl, by decide, rfl, rfl, by decide, tyX3_ok, nmX3, rfl, by decide +kernel, fun _ => rfl⟩
theorem fF_X3_39 : jF RX3 39 3 2 false := ⟨_, _, _, rfl, i_X3, kF_X3_39, rfl, by decide, rfl, rfl, by decide⟩
theorem fP_X3_39 : jP RX3 39 3 2 false true (.int) := ⟨_, _, _, tyX3, rfl, i_X3, kF_X3_39, rfl, by decide, rfl, rfl, by decide, tyX3_ok, nmX3, rfl, by decide +kernel, fun _ => rfl⟩
theorem fF_X3_42 : jF RX3 42 3 3 false := ⟨_, _, _, rfl, i_X3, kF_X3_42, rfl, by decide, rfl, rfl, by decide⟩
theorem fP_X3_42 : jP RX3 42 3 3 false true (.int) := ⟨_, _, _, tyX3, rfl, i_X3, kF_X3_42, rfl, by decide, rfl, rfl, by decide, tyX3_ok, nmX3, rfl, by decide +kernel, fun _ => rfl⟩
theorem fF_X3_45 : jF RX3 45 3 4 false := ⟨_, _, _, rfl, i_X3, kF_X3_45, rfl, by decide, rfl, rfl, by decide⟩
theorem fP_X3_45 : jP RX3 45 3 4 false true (.int) := ⟨_, _, _, tyX3, rfl, i_X3, kF_X3_45, rfl, by decide, rfl, rfl, by decide, tyX3_ok, nmX3, rfl, by decide +kernel, fun _ => rfl⟩
theorem fF_X3_11 : jF RX3 11 3 5 true := ⟨_, _, _, rfl, i_X3, kF_X3_11, rfl, by decide, rfl, rfl, by decide⟩
theorem fP_X3_11 : jP RX3 11 3 5 true true (.array (.object "CleanSeed$Lot")) := ⟨_, _, _, tyX3, rfl, i_X3, kF_X3_11, rfl, by decide, rfl, rfl, by decide, tyX3_ok, nmX3, rfl, by decide +kernel, fun _ => rfl⟩
theorem fF_X3_19 : jF RX3 19 3 6 true := ⟨_, _, _, rfl, i_X3, kF_X3_19, rfl, by decide, rfl, rfl, by decide⟩
theorem fP_X3_19 : jP RX3 19 3 6 true true (.array (.object "CleanSeed$Telling")) := ⟨_, _, _, tyX3, rfl, i_X3, kF_X3_19, rfl, by decide, rfl, rfl, by decide, tyX3_ok, nmX3, rfl, by decide +kernel, fun _ => rfl⟩
theorem fF_X9_7 : jF RX9 7 9 0 true := ⟨_, _, _, rfl, i_X9, kF_X9_7, rfl, by decide, rfl, rfl, by decide⟩
theorem fP_X9_7 : jP RX9 7 9 0 true true (.object "CleanSeed$Telling") := ⟨_, _, _, tyX9, rfl, i_X9, kF_X9_7, rfl, by decide, rfl, rfl, by decide, tyX9_ok, nmX9, rfl, by decide +kernel, fun _ => rfl⟩
theorem fF_X3_65 : jF RX3 65 9 0 true := ⟨_, _, _, rfl, i_X9, kF_X3_65, rfl, by decide, rfl, rfl, by decide⟩
theorem fF_X9_13 : jF RX9 13 9 1 false := ⟨_, _, _, rfl, i_X9, kF_X9_13, rfl, by decide, rfl, rfl, by decide⟩
theorem fP_X9_13 : jP RX9 13 9 1 false true (.int) := ⟨_, _, _, tyX9, rfl, i_X9, kF_X9_13, rfl, by decide, rfl, rfl, by decide, tyX9_ok, nmX9, rfl, by decide +kernel, fun _ => rfl⟩
theorem fF_X3_61 : jF RX3 61 9 1 false := ⟨_, _, _, rfl, i_X9, kF_X3_61, rfl, by decide, rfl, rfl, by decide⟩
theorem fF_X9_17 : jF RX9 17 9 2 false := ⟨_, _, _, rfl, i_X9, kF_X9_17, rfl, by decide, rfl, rfl, by decide⟩
theorem fP_X9_17 : jP RX9 17 9 2 false true (.int) := ⟨_, _, _, tyX9, rfl, i_X9, kF_X9_17, rfl, by decide, rfl, rfl, by decide, tyX9_ok, nmX9, rfl, by decide +kernel, fun _ => rfl⟩
theorem fF_X3_64 : jF RX3 64 9 2 false := ⟨_, _, _, rfl, i_X9, kF_X3_64, rfl, by decide, rfl, rfl, by decide⟩
theorem fF_X8_7 : jF RX8 7 8 0 true := ⟨_, _, _, rfl, i_X8, kF_X8_7, rfl, by decide, rfl, rfl, by decide⟩
theorem fP_X8_7 : jP RX8 7 8 0 true true (.object "CleanSeed$Statute") := ⟨_, _, _, tyX8, rfl, i_X8, kF_X8_7, rfl, by decide, rfl, rfl, by decide, tyX8_ok, nmX8, rfl, by decide +kernel, fun _ => rfl⟩
theorem fF_X2_76 : jF RX2 76 8 0 true := ⟨_, _, _, rfl, i_X8, kF_X2_76, rfl, by decide, rfl, rfl, by decide⟩
theorem fF_X8_13 : jF RX8 13 8 1 false := ⟨_, _, _, rfl, i_X8, kF_X8_13, rfl, by decide, rfl, rfl, by decide⟩
theorem fP_X8_13 : jP RX8 13 8 1 false true (.int) := ⟨_, _, _, tyX8, rfl, i_X8, kF_X8_13, rfl, by decide, rfl, rfl, by decide, tyX8_ok, nmX8, rfl, by decide +kernel, fun _ => rfl⟩
theorem fF_X2_70 : jF RX2 70 8 1 false := ⟨_, _, _, rfl, i_X8, kF_X2_70, rfl, by decide, rfl, rfl, by decide⟩
theorem fF_X8_17 : jF RX8 17 8 2 false := ⟨_, _, _, rfl, i_X8, kF_X8_17, rfl, by decide, rfl, rfl, by decide⟩
theorem fP_X8_17 : jP RX8 17 8 2 false true (.int) := ⟨_, _, _, tyX8, rfl, i_X8, kF_X8_17, rfl, by decide, rfl, rfl, by decide, tyX8_ok, nmX8, rfl, by decide +kernel, fun _ => rfl⟩
theorem fF_X2_73 : jF RX2 73 8 2 false := ⟨_, _, _, rfl, i_X8, kF_X2_73, rfl, by decide, rfl, rfl, by decide⟩
theorem fF_X8_20 : jF RX8 20 8 3 false := ⟨_, _, _, rfl, i_X8, kF_X8_20, rfl, by decide, rfl, rfl, by decide⟩
theorem fP_X8_20 : jP RX8 20 8 3 false true (.int) := ⟨_, _, _, tyX8, rfl, i_X8, kF_X8_20, rfl, by decide, rfl, rfl, by decide, tyX8_ok, nmX8, rfl, by decide +kernel, fun _ => rfl⟩
theorem fF_X2_80 : jF RX2 80 8 3 false := ⟨_, _, _, rfl, i_X8, kF_X2_80, rfl, by decide, rfl, rfl, by decide⟩
theorem fF_X6_64 : jF RX6 64 6 0 false := ⟨_, _, _, rfl, i_X6, kF_X6_64, rfl, by decide, rfl, rfl, by decide⟩
theorem fP_X6_64 : jP RX6 64 6 0 false true (.int) := ⟨_, _, _, tyX6, rfl, i_X6, kF_X6_64, rfl, by decide, rfl, rfl, by decide, tyX6_ok, nmX6, rfl, by decide +kernel, fun _ => rfl⟩
theorem fF_X1_25 : jF RX1 25 6 0 false := ⟨_, _, _, rfl, i_X6, kF_X1_25, rfl, by decide, rfl, rfl, by decide⟩
theorem fF_X4_84 : jF RX4 84 6 0 false := ⟨_, _, _, rfl, i_X6, kF_X4_84, rfl, by decide, rfl, rfl, by decide⟩
theorem fF_X10_232 : jF RX10 232 6 0 false := ⟨_, _, _, rfl, i_X6, kF_X10_232, rfl, by decide, rfl, rfl, by decide⟩
theorem fF_X6_67 : jF RX6 67 6 1 false := ⟨_, _, _, rfl, i_X6, kF_X6_67, rfl, by decide, rfl, rfl, by decide⟩
theorem fP_X6_67 : jP RX6 67 6 1 false true (.int) := ⟨_, _, _, tyX6, rfl, i_X6, kF_X6_67, rfl, by decide, rfl, rfl, by decide, tyX6_ok, nmX6, rfl, by decide +kernel, fun _ => rfl⟩
theorem fF_X0_25 : jF RX0 25 6 1 false := ⟨_, _, _, rfl, i_X6, kF_X0_25, rfl, by decide, rfl, rfl, by decide⟩
theorem fF_X10_115 : jF RX10 115 6 1 false := ⟨_, _, _, rfl, i_X6, kF_X10_115, rfl, by decide, rfl, rfl, by decide⟩
theorem fF_X6_70 : jF RX6 70 6 2 false := ⟨_, _, _, rfl, i_X6, kF_X6_70, rfl, by decide, rfl, rfl, by decide⟩
theorem fP_X6_70 : jP RX6 70 6 2 false true (.int) := ⟨_, _, _, tyX6, rfl, i_X6, kF_X6_70, rfl, by decide, rfl, rfl, by decide, tyX6_ok, nmX6, rfl, by decide +kernel, fun _ => rfl⟩
theorem fF_X7_65 : jF RX7 65 6 2 false := ⟨_, _, _, rfl, i_X6, kF_X7_65, rfl, by decide, rfl, rfl, by decide⟩
theorem fF_X3_58 : jF RX3 58 6 2 false := ⟨_, _, _, rfl, i_X6, kF_X3_58, rfl, by decide, rfl, rfl, by decide⟩
theorem fF_X0_74 : jF RX0 74 6 2 false := ⟨_, _, _, rfl, i_X6, kF_X0_74, rfl, by decide, rfl, rfl, by decide⟩
theorem fF_X10_124 : jF RX10 124 6 2 false := ⟨_, _, _, rfl, i_X6, kF_X10_124, rfl, by decide, rfl, rfl, by decide⟩
theorem fF_X6_73 : jF RX6 73 6 3 false := ⟨_, _, _, rfl, i_X6, kF_X6_73, rfl, by decide, rfl, rfl, by decide⟩
theorem fP_X6_73 : jP RX6 73 6 3 false true (.int) := ⟨_, _, _, tyX6, rfl, i_X6, kF_X6_73, rfl, by decide, rfl, rfl, by decide, tyX6_ok, nmX6, rfl, by decide +kernel, fun _ => rfl⟩
theorem fF_X3_48 : jF RX3 48 6 3 false := ⟨_, _, _, rfl, i_X6, kF_X3_48, rfl, by decide, rfl, rfl, by decide⟩
theorem fF_X0_67 : jF RX0 67 6 3 false := ⟨_, _, _, rfl, i_X6, kF_X0_67, rfl, by decide, rfl, rfl, by decide⟩
theorem fF_X10_118 : jF RX10 118 6 3 false := ⟨_, _, _, rfl, i_X6, kF_X10_118, rfl, by decide, rfl, rfl, by decide⟩
theorem fF_X6_9 : jF RX6 9 6 4 true := ⟨_, _, _, rfl, i_X6, kF_X6_9, rfl, by decide, rfl, rfl, by decide⟩
theorem fP_X6_9 : jP RX6 9 6 4 true false (.object "CleanSeed$Field") := ⟨_, _, _, tyX6, rfl, i_X6, kF_X6_9, rfl, by decide, rfl, rfl, by decide, tyX6_ok, nmX6, rfl, by decide +kernel, fun h => by cases h⟩
theorem fF_X0_59 : jF RX0 59 6 4 true := ⟨_, _, _, rfl, i_X6, kF_X0_59, rfl, by decide, rfl, rfl, by decide⟩
theorem fF_X10_131 : jF RX10 131 6 4 true := ⟨_, _, _, rfl, i_X6, kF_X10_131, rfl, by decide, rfl, rfl, by decide⟩
theorem fP_X10_131 : jP RX10 131 6 4 true false (.object "CleanSeed$Field") := ⟨_, _, _, tyX6, rfl, i_X6, kF_X10_131, rfl, by decide, rfl, rfl, by decide, tyX6_ok, nmX6, rfl, by decide +kernel, fun h => by cases h⟩
theorem fF_X6_15 : jF RX6 15 6 5 true := ⟨_, _, _, rfl, i_X6, kF_X6_15, rfl, by decide, rfl, rfl, by decide⟩
theorem fP_X6_15 : jP RX6 15 6 5 true false (.object "CleanSeed$Lot") := ⟨_, _, _, tyX6, rfl, i_X6, kF_X6_15, rfl, by decide, rfl, rfl, by decide, tyX6_ok, nmX6, rfl, by decide +kernel, fun h => by cases h⟩
theorem fF_X4_25 : jF RX4 25 6 5 true := ⟨_, _, _, rfl, i_X6, kF_X4_25, rfl, by decide, rfl, rfl, by decide⟩
theorem fF_X10_127 : jF RX10 127 6 5 true := ⟨_, _, _, rfl, i_X6, kF_X10_127, rfl, by decide, rfl, rfl, by decide⟩
theorem fP_X10_127 : jP RX10 127 6 5 true false (.object "CleanSeed$Lot") := ⟨_, _, _, tyX6, rfl, i_X6, kF_X10_127, rfl, by decide, rfl, rfl, by decide, tyX6_ok, nmX6, rfl, by decide +kernel, fun h => by cases h⟩
theorem fF_X6_19 : jF RX6 19 6 6 true := ⟨_, _, _, rfl, i_X6, kF_X6_19, rfl, by decide, rfl, rfl, by decide⟩
theorem fP_X6_19 : jP RX6 19 6 6 true false (.object "CleanSeed$Lot") := ⟨_, _, _, tyX6, rfl, i_X6, kF_X6_19, rfl, by decide, rfl, rfl, by decide, tyX6_ok, nmX6, rfl, by decide +kernel, fun h => by cases h⟩
theorem fF_X4_35 : jF RX4 35 6 6 true := ⟨_, _, _, rfl, i_X6, kF_X4_35, rfl, by decide, rfl, rfl, by decide⟩
theorem fF_X10_149 : jF RX10 149 6 6 true := ⟨_, _, _, rfl, i_X6, kF_X10_149, rfl, by decide, rfl, rfl, by decide⟩
theorem fP_X10_149 : jP RX10 149 6 6 true false (.object "CleanSeed$Lot") := ⟨_, _, _, tyX6, rfl, i_X6, kF_X10_149, rfl, by decide, rfl, rfl, by decide, tyX6_ok, nmX6, rfl, by decide +kernel, fun h => by cases h⟩
theorem fF_X6_22 : jF RX6 22 6 7 false := ⟨_, _, _, rfl, i_X6, kF_X6_22, rfl, by decide, rfl, rfl, by decide⟩
theorem fP_X6_22 : jP RX6 22 6 7 false false (.int) := ⟨_, _, _, tyX6, rfl, i_X6, kF_X6_22, rfl, by decide, rfl, rfl, by decide, tyX6_ok, nmX6, rfl, by decide +kernel, fun h => by cases h⟩
theorem fF_X10_139 : jF RX10 139 6 7 false := ⟨_, _, _, rfl, i_X6, kF_X10_139, rfl, by decide, rfl, rfl, by decide⟩
theorem fP_X10_139 : jP RX10 139 6 7 false false (.int) := ⟨_, _, _, tyX6, rfl, i_X6, kF_X10_139, rfl, by decide, rfl, rfl, by decide, tyX6_ok, nmX6, rfl, by decide +kernel, fun h => by cases h⟩
theorem fF_X6_26 : jF RX6 26 6 8 false := ⟨_, _, _, rfl, i_X6, kF_X6_26, rfl, by decide, rfl, rfl, by decide⟩
theorem fP_X6_26 : jP RX6 26 6 8 false false (.int) := ⟨_, _, _, tyX6, rfl, i_X6, kF_X6_26, rfl, by decide, rfl, rfl, by decide, tyX6_ok, nmX6, rfl, by decide +kernel, fun h => by cases h⟩
theorem fF_X10_145 : jF RX10 145 6 8 false := ⟨_, _, _, rfl, i_X6, kF_X10_145, rfl, by decide, rfl, rfl, by decide⟩
theorem fF_X6_29 : jF RX6 29 6 9 false := ⟨_, _, _, rfl, i_X6, kF_X6_29, rfl, by decide, rfl, rfl, by decide⟩
theorem fP_X6_29 : jP RX6 29 6 9 false false (.int) := ⟨_, _, _, tyX6, rfl, i_X6, kF_X6_29, rfl, by decide, rfl, rfl, by decide, tyX6_ok, nmX6, rfl, by decide +kernel, fun h => by cases h⟩
theorem fF_X10_142 : jF RX10 142 6 9 false := ⟨_, _, _, rfl, i_X6, kF_X10_142, rfl, by decide, rfl, rfl, by decide⟩
theorem fP_X10_142 : jP RX10 142 6 9 false false (.int) := ⟨_, _, _, tyX6, rfl, i_X6, kF_X10_142, rfl, by decide, rfl, rfl, by decide, tyX6_ok, nmX6, rfl, by decide +kernel, fun h => by cases h⟩
theorem fF_X6_32 : jF RX6 32 6 10 false := ⟨_, _, _, rfl, i_X6, kF_X6_32, rfl, by decide, rfl, rfl, by decide⟩
theorem fP_X6_32 : jP RX6 32 6 10 false false (.int) := ⟨_, _, _, tyX6, rfl, i_X6, kF_X6_32, rfl, by decide, rfl, rfl, by decide, tyX6_ok, nmX6, rfl, by decide +kernel, fun h => by cases h⟩
theorem fF_X10_152 : jF RX10 152 6 10 false := ⟨_, _, _, rfl, i_X6, kF_X10_152, rfl, by decide, rfl, rfl, by decide⟩
theorem fP_X10_152 : jP RX10 152 6 10 false false (.int) := ⟨_, _, _, tyX6, rfl, i_X6, kF_X10_152, rfl, by decide, rfl, rfl, by decide, tyX6_ok, nmX6, rfl, by decide +kernel, fun h => by cases h⟩
theorem fF_X6_35 : jF RX6 35 6 11 false := ⟨_, _, _, rfl, i_X6, kF_X6_35, rfl, by decide, rfl, rfl, by decide⟩
theorem fP_X6_35 : jP RX6 35 6 11 false false (.int) := ⟨_, _, _, tyX6, rfl, i_X6, kF_X6_35, rfl, by decide, rfl, rfl, by decide, tyX6_ok, nmX6, rfl, by decide +kernel, fun h => by cases h⟩
theorem fF_X10_162 : jF RX10 162 6 11 false := ⟨_, _, _, rfl, i_X6, kF_X10_162, rfl, by decide, rfl, rfl, by decide⟩
theorem fP_X10_162 : jP RX10 162 6 11 false false (.int) := ⟨_, _, _, tyX6, rfl, i_X6, kF_X10_162, rfl, by decide, rfl, rfl, by decide, tyX6_ok, nmX6, rfl, by decide +kernel, fun h => by cases h⟩
theorem fF_X6_38 : jF RX6 38 6 12 false := ⟨_, _, _, rfl, i_X6, kF_X6_38, rfl, by decide, rfl, rfl, by decide⟩
theorem fP_X6_38 : jP RX6 38 6 12 false false (.int) := ⟨_, _, _, tyX6, rfl, i_X6, kF_X6_38, rfl, by decide, rfl, rfl, by decide, tyX6_ok, nmX6, rfl, by decide +kernel, fun h => by cases h⟩
theorem fF_X10_198 : jF RX10 198 6 12 false := ⟨_, _, _, rfl, i_X6, kF_X10_198, rfl, by decide, rfl, rfl, by decide⟩
theorem fP_X10_198 : jP RX10 198 6 12 false false (.int) := ⟨_, _, _, tyX6, rfl, i_X6, kF_X10_198, rfl, by decide, rfl, rfl, by decide, tyX6_ok, nmX6, rfl, by decide +kernel, fun h => by cases h⟩
theorem fF_X6_41 : jF RX6 41 6 13 true := ⟨_, _, _, rfl, i_X6, kF_X6_41, rfl, by decide, rfl, rfl, by decide⟩
theorem fP_X6_41 : jP RX6 41 6 13 true false (.object "CleanSeed$Look") := ⟨_, _, _, tyX6, rfl, i_X6, kF_X6_41, rfl, by decide, rfl, rfl, by decide, tyX6_ok, nmX6, rfl, by decide +kernel, fun h => by cases h⟩
theorem fF_X10_206 : jF RX10 206 6 13 true := ⟨_, _, _, rfl, i_X6, kF_X10_206, rfl, by decide, rfl, rfl, by decide⟩
theorem fP_X10_206 : jP RX10 206 6 13 true false (.object "CleanSeed$Look") := ⟨_, _, _, tyX6, rfl, i_X6, kF_X10_206, rfl, by decide, rfl, rfl, by decide, tyX6_ok, nmX6, rfl, by decide +kernel, fun h => by cases h⟩
theorem fF_X6_45 : jF RX6 45 6 14 false := ⟨_, _, _, rfl, i_X6, kF_X6_45, rfl, by decide, rfl, rfl, by decide⟩
theorem fP_X6_45 : jP RX6 45 6 14 false false (.int) := ⟨_, _, _, tyX6, rfl, i_X6, kF_X6_45, rfl, by decide, rfl, rfl, by decide, tyX6_ok, nmX6, rfl, by decide +kernel, fun h => by cases h⟩
theorem fF_X10_225 : jF RX10 225 6 14 false := ⟨_, _, _, rfl, i_X6, kF_X10_225, rfl, by decide, rfl, rfl, by decide⟩
theorem fP_X10_225 : jP RX10 225 6 14 false false (.int) := ⟨_, _, _, tyX6, rfl, i_X6, kF_X10_225, rfl, by decide, rfl, rfl, by decide, tyX6_ok, nmX6, rfl, by decide +kernel, fun h => by cases h⟩
theorem fF_X6_48 : jF RX6 48 6 15 false := ⟨_, _, _, rfl, i_X6, kF_X6_48, rfl, by decide, rfl, rfl, by decide⟩
theorem fP_X6_48 : jP RX6 48 6 15 false false (.int) := ⟨_, _, _, tyX6, rfl, i_X6, kF_X6_48, rfl, by decide, rfl, rfl, by decide, tyX6_ok, nmX6, rfl, by decide +kernel, fun h => by cases h⟩
theorem fF_X0_38 : jF RX0 38 6 15 false := ⟨_, _, _, rfl, i_X6, kF_X0_38, rfl, by decide, rfl, rfl, by decide⟩
theorem fP_X0_38 : jP RX0 38 6 15 false false (.int) := ⟨_, _, _, tyX6, rfl, i_X6, kF_X0_38, rfl, by decide, rfl, rfl, by decide, tyX6_ok, nmX6, rfl, by decide +kernel, fun h => by cases h⟩
theorem fF_X10_239 : jF RX10 239 6 15 false := ⟨_, _, _, rfl, i_X6, kF_X10_239, rfl, by decide, rfl, rfl, by decide⟩
theorem fF_X6_51 : jF RX6 51 6 16 false := ⟨_, _, _, rfl, i_X6, kF_X6_51, rfl, by decide, rfl, rfl, by decide⟩
theorem fP_X6_51 : jP RX6 51 6 16 false false (.int) := ⟨_, _, _, tyX6, rfl, i_X6, kF_X6_51, rfl, by decide, rfl, rfl, by decide, tyX6_ok, nmX6, rfl, by decide +kernel, fun h => by cases h⟩
theorem fF_X0_45 : jF RX0 45 6 16 false := ⟨_, _, _, rfl, i_X6, kF_X0_45, rfl, by decide, rfl, rfl, by decide⟩
theorem fP_X0_45 : jP RX0 45 6 16 false false (.int) := ⟨_, _, _, tyX6, rfl, i_X6, kF_X0_45, rfl, by decide, rfl, rfl, by decide, tyX6_ok, nmX6, rfl, by decide +kernel, fun h => by cases h⟩
theorem fF_X10_242 : jF RX10 242 6 16 false := ⟨_, _, _, rfl, i_X6, kF_X10_242, rfl, by decide, rfl, rfl, by decide⟩
theorem fF_X6_54 : jF RX6 54 6 17 false := ⟨_, _, _, rfl, i_X6, kF_X6_54, rfl, by decide, rfl, rfl, by decide⟩
theorem fP_X6_54 : jP RX6 54 6 17 false false (.int) := ⟨_, _, _, tyX6, rfl, i_X6, kF_X6_54, rfl, by decide, rfl, rfl, by decide, tyX6_ok, nmX6, rfl, by decide +kernel, fun h => by cases h⟩
theorem fF_X4_45 : jF RX4 45 6 17 false := ⟨_, _, _, rfl, i_X6, kF_X4_45, rfl, by decide, rfl, rfl, by decide⟩
theorem fP_X4_45 : jP RX4 45 6 17 false false (.int) := ⟨_, _, _, tyX6, rfl, i_X6, kF_X4_45, rfl, by decide, rfl, rfl, by decide, tyX6_ok, nmX6, rfl, by decide +kernel, fun h => by cases h⟩
theorem fF_X10_248 : jF RX10 248 6 17 false := ⟨_, _, _, rfl, i_X6, kF_X10_248, rfl, by decide, rfl, rfl, by decide⟩
theorem fF_X6_57 : jF RX6 57 6 18 false := ⟨_, _, _, rfl, i_X6, kF_X6_57, rfl, by decide, rfl, rfl, by decide⟩
theorem fP_X6_57 : jP RX6 57 6 18 false false (.boolean) := ⟨_, _, _, tyX6, rfl, i_X6, kF_X6_57, rfl, by decide, rfl, rfl, by decide, tyX6_ok, nmX6, rfl, by decide +kernel, fun h => by cases h⟩
theorem fF_X4_80 : jF RX4 80 6 18 false := ⟨_, _, _, rfl, i_X6, kF_X4_80, rfl, by decide, rfl, rfl, by decide⟩
theorem fP_X4_80 : jP RX4 80 6 18 false false (.boolean) := ⟨_, _, _, tyX6, rfl, i_X6, kF_X4_80, rfl, by decide, rfl, rfl, by decide, tyX6_ok, nmX6, rfl, by decide +kernel, fun h => by cases h⟩
theorem fF_X6_61 : jF RX6 61 6 19 false := ⟨_, _, _, rfl, i_X6, kF_X6_61, rfl, by decide, rfl, rfl, by decide⟩
theorem fP_X6_61 : jP RX6 61 6 19 false false (.boolean) := ⟨_, _, _, tyX6, rfl, i_X6, kF_X6_61, rfl, by decide, rfl, rfl, by decide, tyX6_ok, nmX6, rfl, by decide +kernel, fun h => by cases h⟩
theorem fF_X4_94 : jF RX4 94 6 19 false := ⟨_, _, _, rfl, i_X6, kF_X4_94, rfl, by decide, rfl, rfl, by decide⟩
theorem fP_X4_94 : jP RX4 94 6 19 false false (.boolean) := ⟨_, _, _, tyX6, rfl, i_X6, kF_X4_94, rfl, by decide, rfl, rfl, by decide, tyX6_ok, nmX6, rfl, by decide +kernel, fun h => by cases h⟩
theorem fF_X1_15 : jF RX1 15 1 0 true := ⟨_, _, _, rfl, i_X1, kF_X1_15, rfl, by decide, rfl, rfl, by decide⟩
theorem fP_X1_15 : jP RX1 15 1 0 true true (.object "CleanSeed$Lot") := ⟨_, _, _, tyX1, rfl, i_X1, kF_X1_15, rfl, by decide, rfl, rfl, by decide, tyX1_ok, nmX1, rfl, by decide +kernel, fun _ => rfl⟩
theorem fF_X4_65 : jF RX4 65 1 0 true := ⟨_, _, _, rfl, i_X1, kF_X4_65, rfl, by decide, rfl, rfl, by decide⟩
theorem fF_X10_192 : jF RX10 192 1 0 true := ⟨_, _, _, rfl, i_X1, kF_X10_192, rfl, by decide, rfl, rfl, by decide⟩
theorem fF_X1_19 : jF RX1 19 1 1 false := ⟨_, _, _, rfl, i_X1, kF_X1_19, rfl, by decide, rfl, rfl, by decide⟩
theorem fP_X1_19 : jP RX1 19 1 1 false true (.int) := ⟨_, _, _, tyX1, rfl, i_X1, kF_X1_19, rfl, by decide, rfl, rfl, by decide, tyX1_ok, nmX1, rfl, by decide +kernel, fun _ => rfl⟩
theorem fF_X1_22 : jF RX1 22 1 2 false := ⟨_, _, _, rfl, i_X1, kF_X1_22, rfl, by decide, rfl, rfl, by decide⟩
theorem fP_X1_22 : jP RX1 22 1 2 false false (.int) := ⟨_, _, _, tyX1, rfl, i_X1, kF_X1_22, rfl, by decide, rfl, rfl, by decide, tyX1_ok, nmX1, rfl, by decide +kernel, fun h => by cases h⟩
theorem fF_X10_186 : jF RX10 186 1 2 false := ⟨_, _, _, rfl, i_X1, kF_X10_186, rfl, by decide, rfl, rfl, by decide⟩
theorem fP_X10_186 : jP RX10 186 1 2 false false (.int) := ⟨_, _, _, tyX1, rfl, i_X1, kF_X10_186, rfl, by decide, rfl, rfl, by decide, tyX1_ok, nmX1, rfl, by decide +kernel, fun h => by cases h⟩
theorem fF_X1_9 : jF RX1 9 1 3 false := ⟨_, _, _, rfl, i_X1, kF_X1_9, rfl, by decide, rfl, rfl, by decide⟩
theorem fP_X1_9 : jP RX1 9 1 3 false false (.int) := ⟨_, _, _, tyX1, rfl, i_X1, kF_X1_9, rfl, by decide, rfl, rfl, by decide, tyX1_ok, nmX1, rfl, by decide +kernel, fun h => by cases h⟩
theorem fF_X4_68 : jF RX4 68 1 3 false := ⟨_, _, _, rfl, i_X1, kF_X4_68, rfl, by decide, rfl, rfl, by decide⟩
theorem fF_X10_195 : jF RX10 195 1 3 false := ⟨_, _, _, rfl, i_X1, kF_X10_195, rfl, by decide, rfl, rfl, by decide⟩
theorem fP_X10_195 : jP RX10 195 1 3 false false (.int) := ⟨_, _, _, tyX1, rfl, i_X1, kF_X10_195, rfl, by decide, rfl, rfl, by decide, tyX1_ok, nmX1, rfl, by decide +kernel, fun h => by cases h⟩
theorem fF_X5_7 : jF RX5 7 5 0 true := ⟨_, _, _, rfl, i_X5, kF_X5_7, rfl, by decide, rfl, rfl, by decide⟩
theorem fP_X5_7 : jP RX5 7 5 0 true true (.object "CleanSeed$Look") := ⟨_, _, _, tyX5, rfl, i_X5, kF_X5_7, rfl, by decide, rfl, rfl, by decide, tyX5_ok, nmX5, rfl, by decide +kernel, fun _ => rfl⟩
theorem fF_X6_82 : jF RX6 82 5 0 true := ⟨_, _, _, rfl, i_X5, kF_X6_82, rfl, by decide, rfl, rfl, by decide⟩
theorem fF_X5_13 : jF RX5 13 5 1 false := ⟨_, _, _, rfl, i_X5, kF_X5_13, rfl, by decide, rfl, rfl, by decide⟩
theorem fP_X5_13 : jP RX5 13 5 1 false true (.int) := ⟨_, _, _, tyX5, rfl, i_X5, kF_X5_13, rfl, by decide, rfl, rfl, by decide, tyX5_ok, nmX5, rfl, by decide +kernel, fun _ => rfl⟩
theorem fF_X6_79 : jF RX6 79 5 1 false := ⟨_, _, _, rfl, i_X5, kF_X6_79, rfl, by decide, rfl, rfl, by decide⟩
theorem fF_X5_17 : jF RX5 17 5 2 false := ⟨_, _, _, rfl, i_X5, kF_X5_17, rfl, by decide, rfl, rfl, by decide⟩
theorem fP_X5_17 : jP RX5 17 5 2 false true (.int) := ⟨_, _, _, tyX5, rfl, i_X5, kF_X5_17, rfl, by decide, rfl, rfl, by decide, tyX5_ok, nmX5, rfl, by decide +kernel, fun _ => rfl⟩
theorem fF_X6_76 : jF RX6 76 5 2 false := ⟨_, _, _, rfl, i_X5, kF_X6_76, rfl, by decide, rfl, rfl, by decide⟩
theorem fF_X0_87 : jF RX0 87 5 2 false := ⟨_, _, _, rfl, i_X5, kF_X0_87, rfl, by decide, rfl, rfl, by decide⟩
theorem fF_X5_20 : jF RX5 20 5 3 false := ⟨_, _, _, rfl, i_X5, kF_X5_20, rfl, by decide, rfl, rfl, by decide⟩
theorem fP_X5_20 : jP RX5 20 5 3 false true (.int) := ⟨_, _, _, tyX5, rfl, i_X5, kF_X5_20, rfl, by decide, rfl, rfl, by decide, tyX5_ok, nmX5, rfl, by decide +kernel, fun _ => rfl⟩
theorem fF_X0_97 : jF RX0 97 5 3 false := ⟨_, _, _, rfl, i_X5, kF_X0_97, rfl, by decide, rfl, rfl, by decide⟩
theorem fF_X5_23 : jF RX5 23 5 4 false := ⟨_, _, _, rfl, i_X5, kF_X5_23, rfl, by decide, rfl, rfl, by decide⟩
theorem fP_X5_23 : jP RX5 23 5 4 false true (.int) := ⟨_, _, _, tyX5, rfl, i_X5, kF_X5_23, rfl, by decide, rfl, rfl, by decide, tyX5_ok, nmX5, rfl, by decide +kernel, fun _ => rfl⟩
theorem fF_X0_94 : jF RX0 94 5 4 false := ⟨_, _, _, rfl, i_X5, kF_X0_94, rfl, by decide, rfl, rfl, by decide⟩
theorem fF_X11_141 : jF RX11 141 11 0 false := ⟨_, _, _, rfl, i_X11, kF_X11_141, rfl, by decide, rfl, rfl, by decide⟩
theorem fP_X11_141 : jP RX11 141 11 0 false false (.int) := ⟨_, _, _, tyX11, rfl, i_X11, kF_X11_141, rfl, by decide, rfl, rfl, by decide, tyX11_ok, nmX11, rfl, by decide +kernel, fun h => by cases h⟩
theorem fF_X11_130 : jF RX11 130 11 1 false := ⟨_, _, _, rfl, i_X11, kF_X11_130, rfl, by decide, rfl, rfl, by decide⟩
theorem fP_X11_130 : jP RX11 130 11 1 false false (.int) := ⟨_, _, _, tyX11, rfl, i_X11, kF_X11_130, rfl, by decide, rfl, rfl, by decide, tyX11_ok, nmX11, rfl, by decide +kernel, fun h => by cases h⟩
theorem fF_X11_138 : jF RX11 138 11 2 false := ⟨_, _, _, rfl, i_X11, kF_X11_138, rfl, by decide, rfl, rfl, by decide⟩
theorem fP_X11_138 : jP RX11 138 11 2 false false (.int) := ⟨_, _, _, tyX11, rfl, i_X11, kF_X11_138, rfl, by decide, rfl, rfl, by decide, tyX11_ok, nmX11, rfl, by decide +kernel, fun h => by cases h⟩
theorem fF_X11_190 : jF RX11 190 11 3 false := ⟨_, _, _, rfl, i_X11, kF_X11_190, rfl, by decide, rfl, rfl, by decide⟩
theorem fP_X11_190 : jP RX11 190 11 3 false false (.int) := ⟨_, _, _, tyX11, rfl, i_X11, kF_X11_190, rfl, by decide, rfl, rfl, by decide, tyX11_ok, nmX11, rfl, by decide +kernel, fun h => by cases h⟩
theorem fF_X11_196 : jF RX11 196 11 4 false := ⟨_, _, _, rfl, i_X11, kF_X11_196, rfl, by decide, rfl, rfl, by decide⟩
theorem fP_X11_196 : jP RX11 196 11 4 false false (.int) := ⟨_, _, _, tyX11, rfl, i_X11, kF_X11_196, rfl, by decide, rfl, rfl, by decide, tyX11_ok, nmX11, rfl, by decide +kernel, fun h => by cases h⟩
theorem fF_X11_163 : jF RX11 163 11 5 false := ⟨_, _, _, rfl, i_X11, kF_X11_163, rfl, by decide, rfl, rfl, by decide⟩
theorem fP_X11_163 : jP RX11 163 11 5 false false (.int) := ⟨_, _, _, tyX11, rfl, i_X11, kF_X11_163, rfl, by decide, rfl, rfl, by decide, tyX11_ok, nmX11, rfl, by decide +kernel, fun h => by cases h⟩
theorem fF_X11_177 : jF RX11 177 11 6 false := ⟨_, _, _, rfl, i_X11, kF_X11_177, rfl, by decide, rfl, rfl, by decide⟩
theorem fP_X11_177 : jP RX11 177 11 6 false false (.int) := ⟨_, _, _, tyX11, rfl, i_X11, kF_X11_177, rfl, by decide, rfl, rfl, by decide, tyX11_ok, nmX11, rfl, by decide +kernel, fun h => by cases h⟩
theorem fF_X11_202 : jF RX11 202 11 7 false := ⟨_, _, _, rfl, i_X11, kF_X11_202, rfl, by decide, rfl, rfl, by decide⟩
theorem fP_X11_202 : jP RX11 202 11 7 false false (.int) := ⟨_, _, _, tyX11, rfl, i_X11, kF_X11_202, rfl, by decide, rfl, rfl, by decide, tyX11_ok, nmX11, rfl, by decide +kernel, fun h => by cases h⟩
theorem fF_X11_235 : jF RX11 235 11 8 false := ⟨_, _, _, rfl, i_X11, kF_X11_235, rfl, by decide, rfl, rfl, by decide⟩
theorem fP_X11_235 : jP RX11 235 11 8 false false (.int) := ⟨_, _, _, tyX11, rfl, i_X11, kF_X11_235, rfl, by decide, rfl, rfl, by decide, tyX11_ok, nmX11, rfl, by decide +kernel, fun h => by cases h⟩
theorem fF_X11_9 : jF RX11 9 11 9 true := ⟨_, _, _, rfl, i_X11, kF_X11_9, rfl, by decide, rfl, rfl, by decide⟩
theorem fP_X11_9 : jP RX11 9 11 9 true true (.array .int) := ⟨_, _, _, tyX11, rfl, i_X11, kF_X11_9, rfl, by decide, rfl, rfl, by decide, tyX11_ok, nmX11, rfl, by decide +kernel, fun _ => rfl⟩
theorem fF_X11_13 : jF RX11 13 11 10 true := ⟨_, _, _, rfl, i_X11, kF_X11_13, rfl, by decide, rfl, rfl, by decide⟩
theorem fP_X11_13 : jP RX11 13 11 10 true true (.array .int) := ⟨_, _, _, tyX11, rfl, i_X11, kF_X11_13, rfl, by decide, rfl, rfl, by decide, tyX11_ok, nmX11, rfl, by decide +kernel, fun _ => rfl⟩
theorem fF_X11_16 : jF RX11 16 11 11 true := ⟨_, _, _, rfl, i_X11, kF_X11_16, rfl, by decide, rfl, rfl, by decide⟩
theorem fP_X11_16 : jP RX11 16 11 11 true true (.array .int) := ⟨_, _, _, tyX11, rfl, i_X11, kF_X11_16, rfl, by decide, rfl, rfl, by decide, tyX11_ok, nmX11, rfl, by decide +kernel, fun _ => rfl⟩
theorem fF_X11_19 : jF RX11 19 11 12 true := ⟨_, _, _, rfl, i_X11, kF_X11_19, rfl, by decide, rfl, rfl, by decide⟩
theorem fP_X11_19 : jP RX11 19 11 12 true true (.array .int) := ⟨_, _, _, tyX11, rfl, i_X11, kF_X11_19, rfl, by decide, rfl, rfl, by decide, tyX11_ok, nmX11, rfl, by decide +kernel, fun _ => rfl⟩
theorem fF_X11_22 : jF RX11 22 11 13 true := ⟨_, _, _, rfl, i_X11, kF_X11_22, rfl, by decide, rfl, rfl, by decide⟩
theorem fP_X11_22 : jP RX11 22 11 13 true true (.array .int) := ⟨_, _, _, tyX11, rfl, i_X11, kF_X11_22, rfl, by decide, rfl, rfl, by decide, tyX11_ok, nmX11, rfl, by decide +kernel, fun _ => rfl⟩
theorem fF_X11_25 : jF RX11 25 11 14 true := ⟨_, _, _, rfl, i_X11, kF_X11_25, rfl, by decide, rfl, rfl, by decide⟩
theorem fP_X11_25 : jP RX11 25 11 14 true true (.array .int) := ⟨_, _, _, tyX11, rfl, i_X11, kF_X11_25, rfl, by decide, rfl, rfl, by decide, tyX11_ok, nmX11, rfl, by decide +kernel, fun _ => rfl⟩
theorem fF_X11_28 : jF RX11 28 11 15 true := ⟨_, _, _, rfl, i_X11, kF_X11_28, rfl, by decide, rfl, rfl, by decide⟩
theorem fP_X11_28 : jP RX11 28 11 15 true true (.array .int) := ⟨_, _, _, tyX11, rfl, i_X11, kF_X11_28, rfl, by decide, rfl, rfl, by decide, tyX11_ok, nmX11, rfl, by decide +kernel, fun _ => rfl⟩
theorem fF_X11_31 : jF RX11 31 11 16 true := ⟨_, _, _, rfl, i_X11, kF_X11_31, rfl, by decide, rfl, rfl, by decide⟩
theorem fP_X11_31 : jP RX11 31 11 16 true true (.array .int) := ⟨_, _, _, tyX11, rfl, i_X11, kF_X11_31, rfl, by decide, rfl, rfl, by decide, tyX11_ok, nmX11, rfl, by decide +kernel, fun _ => rfl⟩
theorem fF_X11_34 : jF RX11 34 11 17 true := ⟨_, _, _, rfl, i_X11, kF_X11_34, rfl, by decide, rfl, rfl, by decide⟩
theorem fP_X11_34 : jP RX11 34 11 17 true true (.array .int) := ⟨_, _, _, tyX11, rfl, i_X11, kF_X11_34, rfl, by decide, rfl, rfl, by decide, tyX11_ok, nmX11, rfl, by decide +kernel, fun _ => rfl⟩
theorem fF_X11_37 : jF RX11 37 11 18 true := ⟨_, _, _, rfl, i_X11, kF_X11_37, rfl, by decide, rfl, rfl, by decide⟩
theorem fP_X11_37 : jP RX11 37 11 18 true true (.array .int) := ⟨_, _, _, tyX11, rfl, i_X11, kF_X11_37, rfl, by decide, rfl, rfl, by decide, tyX11_ok, nmX11, rfl, by decide +kernel, fun _ => rfl⟩
theorem fF_X11_40 : jF RX11 40 11 19 true := ⟨_, _, _, rfl, i_X11, kF_X11_40, rfl, by decide, rfl, rfl, by decide⟩
theorem fP_X11_40 : jP RX11 40 11 19 true true (.array .int) := ⟨_, _, _, tyX11, rfl, i_X11, kF_X11_40, rfl, by decide, rfl, rfl, by decide, tyX11_ok, nmX11, rfl, by decide +kernel, fun _ => rfl⟩
theorem fF_X11_43 : jF RX11 43 11 20 true := ⟨_, _, _, rfl, i_X11, kF_X11_43, rfl, by decide, rfl, rfl, by decide⟩
theorem fP_X11_43 : jP RX11 43 11 20 true true (.array .int) := ⟨_, _, _, tyX11, rfl, i_X11, kF_X11_43, rfl, by decide, rfl, rfl, by decide, tyX11_ok, nmX11, rfl, by decide +kernel, fun _ => rfl⟩
theorem fF_X11_46 : jF RX11 46 11 21 true := ⟨_, _, _, rfl, i_X11, kF_X11_46, rfl, by decide, rfl, rfl, by decide⟩
theorem fP_X11_46 : jP RX11 46 11 21 true true (.array .int) := ⟨_, _, _, tyX11, rfl, i_X11, kF_X11_46, rfl, by decide, rfl, rfl, by decide, tyX11_ok, nmX11, rfl, by decide +kernel, fun _ => rfl⟩
theorem fF_X11_49 : jF RX11 49 11 22 true := ⟨_, _, _, rfl, i_X11, kF_X11_49, rfl, by decide, rfl, rfl, by decide⟩
theorem fP_X11_49 : jP RX11 49 11 22 true true (.array .int) := ⟨_, _, _, tyX11, rfl, i_X11, kF_X11_49, rfl, by decide, rfl, rfl, by decide, tyX11_ok, nmX11, rfl, by decide +kernel, fun _ => rfl⟩
theorem fF_X11_52 : jF RX11 52 11 23 true := ⟨_, _, _, rfl, i_X11, kF_X11_52, rfl, by decide, rfl, rfl, by decide⟩
theorem fP_X11_52 : jP RX11 52 11 23 true true (.array .int) := ⟨_, _, _, tyX11, rfl, i_X11, kF_X11_52, rfl, by decide, rfl, rfl, by decide, tyX11_ok, nmX11, rfl, by decide +kernel, fun _ => rfl⟩
theorem fF_X11_55 : jF RX11 55 11 24 true := ⟨_, _, _, rfl, i_X11, kF_X11_55, rfl, by decide, rfl, rfl, by decide⟩
theorem fP_X11_55 : jP RX11 55 11 24 true true (.array .int) := ⟨_, _, _, tyX11, rfl, i_X11, kF_X11_55, rfl, by decide, rfl, rfl, by decide, tyX11_ok, nmX11, rfl, by decide +kernel, fun _ => rfl⟩
theorem fF_X11_58 : jF RX11 58 11 25 true := ⟨_, _, _, rfl, i_X11, kF_X11_58, rfl, by decide, rfl, rfl, by decide⟩
theorem fP_X11_58 : jP RX11 58 11 25 true true (.array .int) := ⟨_, _, _, tyX11, rfl, i_X11, kF_X11_58, rfl, by decide, rfl, rfl, by decide, tyX11_ok, nmX11, rfl, by decide +kernel, fun _ => rfl⟩
theorem fF_X11_61 : jF RX11 61 11 26 true := ⟨_, _, _, rfl, i_X11, kF_X11_61, rfl, by decide, rfl, rfl, by decide⟩
theorem fP_X11_61 : jP RX11 61 11 26 true true (.array .int) := ⟨_, _, _, tyX11, rfl, i_X11, kF_X11_61, rfl, by decide, rfl, rfl, by decide, tyX11_ok, nmX11, rfl, by decide +kernel, fun _ => rfl⟩
theorem fF_X11_64 : jF RX11 64 11 27 true := ⟨_, _, _, rfl, i_X11, kF_X11_64, rfl, by decide, rfl, rfl, by decide⟩
theorem fP_X11_64 : jP RX11 64 11 27 true true (.array .int) := ⟨_, _, _, tyX11, rfl, i_X11, kF_X11_64, rfl, by decide, rfl, rfl, by decide, tyX11_ok, nmX11, rfl, by decide +kernel, fun _ => rfl⟩
theorem fF_X11_67 : jF RX11 67 11 28 true := ⟨_, _, _, rfl, i_X11, kF_X11_67, rfl, by decide, rfl, rfl, by decide⟩
theorem fP_X11_67 : jP RX11 67 11 28 true true (.array .int) := ⟨_, _, _, tyX11, rfl, i_X11, kF_X11_67, rfl, by decide, rfl, rfl, by decide, tyX11_ok, nmX11, rfl, by decide +kernel, fun _ => rfl⟩
theorem fF_X11_70 : jF RX11 70 11 29 true := ⟨_, _, _, rfl, i_X11, kF_X11_70, rfl, by decide, rfl, rfl, by decide⟩
theorem fP_X11_70 : jP RX11 70 11 29 true true (.array .int) := ⟨_, _, _, tyX11, rfl, i_X11, kF_X11_70, rfl, by decide, rfl, rfl, by decide, tyX11_ok, nmX11, rfl, by decide +kernel, fun _ => rfl⟩
theorem fF_X11_73 : jF RX11 73 11 30 true := ⟨_, _, _, rfl, i_X11, kF_X11_73, rfl, by decide, rfl, rfl, by decide⟩
theorem fP_X11_73 : jP RX11 73 11 30 true true (.array .int) := ⟨_, _, _, tyX11, rfl, i_X11, kF_X11_73, rfl, by decide, rfl, rfl, by decide, tyX11_ok, nmX11, rfl, by decide +kernel, fun _ => rfl⟩
theorem fF_X11_76 : jF RX11 76 11 31 true := ⟨_, _, _, rfl, i_X11, kF_X11_76, rfl, by decide, rfl, rfl, by decide⟩
theorem fP_X11_76 : jP RX11 76 11 31 true true (.array .int) := ⟨_, _, _, tyX11, rfl, i_X11, kF_X11_76, rfl, by decide, rfl, rfl, by decide, tyX11_ok, nmX11, rfl, by decide +kernel, fun _ => rfl⟩
theorem fF_X11_79 : jF RX11 79 11 32 true := ⟨_, _, _, rfl, i_X11, kF_X11_79, rfl, by decide, rfl, rfl, by decide⟩
theorem fP_X11_79 : jP RX11 79 11 32 true true (.array .int) := ⟨_, _, _, tyX11, rfl, i_X11, kF_X11_79, rfl, by decide, rfl, rfl, by decide, tyX11_ok, nmX11, rfl, by decide +kernel, fun _ => rfl⟩
theorem fF_X11_82 : jF RX11 82 11 33 true := ⟨_, _, _, rfl, i_X11, kF_X11_82, rfl, by decide, rfl, rfl, by decide⟩
theorem fP_X11_82 : jP RX11 82 11 33 true true (.array .int) := ⟨_, _, _, tyX11, rfl, i_X11, kF_X11_82, rfl, by decide, rfl, rfl, by decide, tyX11_ok, nmX11, rfl, by decide +kernel, fun _ => rfl⟩
theorem fF_X11_85 : jF RX11 85 11 34 true := ⟨_, _, _, rfl, i_X11, kF_X11_85, rfl, by decide, rfl, rfl, by decide⟩
theorem fP_X11_85 : jP RX11 85 11 34 true true (.array .int) := ⟨_, _, _, tyX11, rfl, i_X11, kF_X11_85, rfl, by decide, rfl, rfl, by decide, tyX11_ok, nmX11, rfl, by decide +kernel, fun _ => rfl⟩
theorem fF_X11_88 : jF RX11 88 11 35 true := ⟨_, _, _, rfl, i_X11, kF_X11_88, rfl, by decide, rfl, rfl, by decide⟩
theorem fP_X11_88 : jP RX11 88 11 35 true true (.array .int) := ⟨_, _, _, tyX11, rfl, i_X11, kF_X11_88, rfl, by decide, rfl, rfl, by decide, tyX11_ok, nmX11, rfl, by decide +kernel, fun _ => rfl⟩
theorem fF_X11_91 : jF RX11 91 11 36 true := ⟨_, _, _, rfl, i_X11, kF_X11_91, rfl, by decide, rfl, rfl, by decide⟩
theorem fP_X11_91 : jP RX11 91 11 36 true true (.array .int) := ⟨_, _, _, tyX11, rfl, i_X11, kF_X11_91, rfl, by decide, rfl, rfl, by decide, tyX11_ok, nmX11, rfl, by decide +kernel, fun _ => rfl⟩
theorem fF_X11_94 : jF RX11 94 11 37 true := ⟨_, _, _, rfl, i_X11, kF_X11_94, rfl, by decide, rfl, rfl, by decide⟩
theorem fP_X11_94 : jP RX11 94 11 37 true true (.array .int) := ⟨_, _, _, tyX11, rfl, i_X11, kF_X11_94, rfl, by decide, rfl, rfl, by decide, tyX11_ok, nmX11, rfl, by decide +kernel, fun _ => rfl⟩
theorem fF_X11_97 : jF RX11 97 11 38 true := ⟨_, _, _, rfl, i_X11, kF_X11_97, rfl, by decide, rfl, rfl, by decide⟩
theorem fP_X11_97 : jP RX11 97 11 38 true true (.array .int) := ⟨_, _, _, tyX11, rfl, i_X11, kF_X11_97, rfl, by decide, rfl, rfl, by decide, tyX11_ok, nmX11, rfl, by decide +kernel, fun _ => rfl⟩
theorem fF_X11_100 : jF RX11 100 11 39 true := ⟨_, _, _, rfl, i_X11, kF_X11_100, rfl, by decide, rfl, rfl, by decide⟩
theorem fP_X11_100 : jP RX11 100 11 39 true true (.array .int) := ⟨_, _, _, tyX11, rfl, i_X11, kF_X11_100, rfl, by decide, rfl, rfl, by decide, tyX11_ok, nmX11, rfl, by decide +kernel, fun _ => rfl⟩
theorem fF_X11_103 : jF RX11 103 11 40 true := ⟨_, _, _, rfl, i_X11, kF_X11_103, rfl, by decide, rfl, rfl, by decide⟩
theorem fP_X11_103 : jP RX11 103 11 40 true true (.array .int) := ⟨_, _, _, tyX11, rfl, i_X11, kF_X11_103, rfl, by decide, rfl, rfl, by decide, tyX11_ok, nmX11, rfl, by decide +kernel, fun _ => rfl⟩
theorem fF_X11_106 : jF RX11 106 11 41 true := ⟨_, _, _, rfl, i_X11, kF_X11_106, rfl, by decide, rfl, rfl, by decide⟩
theorem fP_X11_106 : jP RX11 106 11 41 true true (.array .int) := ⟨_, _, _, tyX11, rfl, i_X11, kF_X11_106, rfl, by decide, rfl, rfl, by decide, tyX11_ok, nmX11, rfl, by decide +kernel, fun _ => rfl⟩
theorem fF_X11_109 : jF RX11 109 11 42 true := ⟨_, _, _, rfl, i_X11, kF_X11_109, rfl, by decide, rfl, rfl, by decide⟩
theorem fP_X11_109 : jP RX11 109 11 42 true true (.array .int) := ⟨_, _, _, tyX11, rfl, i_X11, kF_X11_109, rfl, by decide, rfl, rfl, by decide, tyX11_ok, nmX11, rfl, by decide +kernel, fun _ => rfl⟩
theorem fF_X11_112 : jF RX11 112 11 43 true := ⟨_, _, _, rfl, i_X11, kF_X11_112, rfl, by decide, rfl, rfl, by decide⟩
theorem fP_X11_112 : jP RX11 112 11 43 true true (.array .int) := ⟨_, _, _, tyX11, rfl, i_X11, kF_X11_112, rfl, by decide, rfl, rfl, by decide, tyX11_ok, nmX11, rfl, by decide +kernel, fun _ => rfl⟩
theorem fF_X11_115 : jF RX11 115 11 44 true := ⟨_, _, _, rfl, i_X11, kF_X11_115, rfl, by decide, rfl, rfl, by decide⟩
theorem fP_X11_115 : jP RX11 115 11 44 true true (.array .int) := ⟨_, _, _, tyX11, rfl, i_X11, kF_X11_115, rfl, by decide, rfl, rfl, by decide, tyX11_ok, nmX11, rfl, by decide +kernel, fun _ => rfl⟩
theorem fF_X11_118 : jF RX11 118 11 45 true := ⟨_, _, _, rfl, i_X11, kF_X11_118, rfl, by decide, rfl, rfl, by decide⟩
theorem fP_X11_118 : jP RX11 118 11 45 true true (.array .int) := ⟨_, _, _, tyX11, rfl, i_X11, kF_X11_118, rfl, by decide, rfl, rfl, by decide, tyX11_ok, nmX11, rfl, by decide +kernel, fun _ => rfl⟩
theorem fF_X11_121 : jF RX11 121 11 46 true := ⟨_, _, _, rfl, i_X11, kF_X11_121, rfl, by decide, rfl, rfl, by decide⟩
theorem fP_X11_121 : jP RX11 121 11 46 true true (.array .int) := ⟨_, _, _, tyX11, rfl, i_X11, kF_X11_121, rfl, by decide, rfl, rfl, by decide, tyX11_ok, nmX11, rfl, by decide +kernel, fun _ => rfl⟩
theorem fF_X11_124 : jF RX11 124 11 47 true := ⟨_, _, _, rfl, i_X11, kF_X11_124, rfl, by decide, rfl, rfl, by decide⟩
theorem fP_X11_124 : jP RX11 124 11 47 true true (.array .int) := ⟨_, _, _, tyX11, rfl, i_X11, kF_X11_124, rfl, by decide, rfl, rfl, by decide, tyX11_ok, nmX11, rfl, by decide +kernel, fun _ => rfl⟩
theorem fF_X11_127 : jF RX11 127 11 48 true := ⟨_, _, _, rfl, i_X11, kF_X11_127, rfl, by decide, rfl, rfl, by decide⟩
theorem fP_X11_127 : jP RX11 127 11 48 true true (.array .int) := ⟨_, _, _, tyX11, rfl, i_X11, kF_X11_127, rfl, by decide, rfl, rfl, by decide, tyX11_ok, nmX11, rfl, by decide +kernel, fun _ => rfl⟩
theorem fG_L_100 : jGv RL 100 yX10_judge cX10_judge 4 ((Option.some FieldType.int)) 2 10 := ⟨⟨kM_L_100, kN_X10, kC_yX10_judge, by decide +kernel⟩, kI_yX10_judge, kV_yX10_judge, by decide, _, rfl, rfl⟩
theorem fG_L_103 : jGv RL 103 yX11_judge cX11_judge 3 ((Option.some FieldType.int)) 2 11 := ⟨⟨kM_L_103, kN_X11, kC_yX11_judge, by decide +kernel⟩, kI_yX11_judge, kV_yX11_judge, by decide, _, rfl, rfl⟩
theorem fG_L_104 : jGv RL 104 yX10_why cX10_why 4 ((Option.some FieldType.int)) 2 10 := ⟨⟨kM_L_104, kN_X10, kC_yX10_why, by decide +kernel⟩, kI_yX10_why, kV_yX10_why, by decide, _, rfl, rfl⟩
theorem fG_L_107 : jGv RL 107 yX11_why cX11_why 3 ((Option.some FieldType.int)) 2 11 := ⟨⟨kM_L_107, kN_X11, kC_yX11_why, by decide +kernel⟩, kI_yX11_why, kV_yX11_why, by decide, _, rfl, rfl⟩
theorem fG_L_108 : jGv RL 108 yX10_ways cX10_ways 5 ((Option.some FieldType.int)) 2 10 := ⟨⟨kM_L_108, kN_X10, kC_yX10_ways, by decide +kernel⟩, kI_yX10_ways, kV_yX10_ways, by decide, _, rfl, rfl⟩
theorem fG_L_111 : jGv RL 111 yX11_ways cX11_ways 3 ((Option.some FieldType.int)) 2 11 := ⟨⟨kM_L_111, kN_X11, kC_yX11_ways, by decide +kernel⟩, kI_yX11_ways, kV_yX11_ways, by decide, _, rfl, rfl⟩
theorem fG_L_112 : jGv RL 112 yX10_touched cX10_touched 5 ((Option.some FieldType.int)) 3 10 := ⟨⟨kM_L_112, kN_X10, kC_yX10_touched, by decide +kernel⟩, kI_yX10_touched, kV_yX10_touched, by decide, _, rfl, rfl⟩
theorem fG_L_115 : jGv RL 115 yX11_touched cX11_touched 6 ((Option.some FieldType.int)) 3 11 := ⟨⟨kM_L_115, kN_X11, kC_yX11_touched, by decide +kernel⟩, kI_yX11_touched, kV_yX11_touched, by decide, _, rfl, rfl⟩
theorem fG_L_116 : jGv RL 116 yX10_buyers cX10_buyers 3 ((Option.some FieldType.int)) 1 10 := ⟨⟨kM_L_116, kN_X10, kC_yX10_buyers, by decide +kernel⟩, kI_yX10_buyers, kV_yX10_buyers, by decide, _, rfl, rfl⟩
theorem fG_L_119 : jGv RL 119 yX11_buyers cX11_buyers 4 ((Option.some FieldType.int)) 1 11 := ⟨⟨kM_L_119, kN_X11, kC_yX11_buyers, by decide +kernel⟩, kI_yX11_buyers, kV_yX11_buyers, by decide, _, rfl, rfl⟩
theorem fG_L_12 : jGi RL 12 yX11_init cX11_init 1 0 := ⟨⟨kM_L_12, kN_X11, kC_yX11_init, by decide +kernel⟩, kI_yX11_init, rfl⟩
theorem fG_L_120 : jGv RL 120 yX10_want cX10_want 3 ((Option.some FieldType.int)) 1 10 := ⟨⟨kM_L_120, kN_X10, kC_yX10_want, by decide +kernel⟩, kI_yX10_want, kV_yX10_want, by decide, _, rfl, rfl⟩
theorem fG_L_123 : jGv RL 123 yX11_want cX11_want 3 ((Option.some FieldType.int)) 1 11 := ⟨⟨kM_L_123, kN_X11, kC_yX11_want, by decide +kernel⟩, kI_yX11_want, kV_yX11_want, by decide, _, rfl, rfl⟩
theorem fG_L_124 : jGv RL 124 yX10_plan cX10_plan 2 ((Option.some FieldType.int)) 1 10 := ⟨⟨kM_L_124, kN_X10, kC_yX10_plan, by decide +kernel⟩, kI_yX10_plan, kV_yX10_plan, by decide, _, rfl, rfl⟩
theorem fG_L_127 : jGv RL 127 yX11_plan cX11_plan 2 ((Option.some FieldType.int)) 1 11 := ⟨⟨kM_L_127, kN_X11, kC_yX11_plan, by decide +kernel⟩, kI_yX11_plan, kV_yX11_plan, by decide, _, rfl, rfl⟩
theorem fG_L_128 : jGv RL 128 yX10_told cX10_told 4 ((Option.some FieldType.int)) 2 10 := ⟨⟨kM_L_128, kN_X10, kC_yX10_told, by decide +kernel⟩, kI_yX10_told, kV_yX10_told, by decide, _, rfl, rfl⟩
theorem fG_L_13 : jGv RL 13 yX10_field cX10_field 6 ((Option.some FieldType.int)) 4 10 := ⟨⟨kM_L_13, kN_X10, kC_yX10_field, by decide +kernel⟩, kI_yX10_field, kV_yX10_field, by decide, _, rfl, rfl⟩
theorem fG_L_131 : jGv RL 131 yX11_told cX11_told 3 ((Option.some FieldType.int)) 2 11 := ⟨⟨kM_L_131, kN_X11, kC_yX11_told, by decide +kernel⟩, kI_yX11_told, kV_yX11_told, by decide, _, rfl, rfl⟩
theorem fG_L_132 : jGv RL 132 yX10_sack cX10_sack 4 ((Option.some FieldType.int)) 2 10 := ⟨⟨kM_L_132, kN_X10, kC_yX10_sack, by decide +kernel⟩, kI_yX10_sack, kV_yX10_sack, by decide, _, rfl, rfl⟩
theorem fG_L_135 : jGv RL 135 yX11_sack cX11_sack 3 ((Option.some FieldType.int)) 2 11 := ⟨⟨kM_L_135, kN_X11, kC_yX11_sack, by decide +kernel⟩, kI_yX11_sack, kV_yX11_sack, by decide, _, rfl, rfl⟩
theorem fG_L_136 : jGv RL 136 yX10_count cX10_count 2 ((Option.some FieldType.int)) 1 10 := ⟨⟨kM_L_136, kN_X10, kC_yX10_count, by decide +kernel⟩, kI_yX10_count, kV_yX10_count, by decide, _, rfl, rfl⟩
theorem fG_L_139 : jGv RL 139 yX11_count cX11_count 2 ((Option.some FieldType.int)) 1 11 := ⟨⟨kM_L_139, kN_X11, kC_yX11_count, by decide +kernel⟩, kI_yX11_count, kV_yX11_count, by decide, _, rfl, rfl⟩
theorem fG_L_17 : jGv RL 17 yX11_field cX11_field 5 ((Option.some FieldType.int)) 4 11 := ⟨⟨kM_L_17, kN_X11, kC_yX11_field, by decide +kernel⟩, kI_yX11_field, kV_yX11_field, by decide, _, rfl, rfl⟩
theorem fG_L_18 : jGv RL 18 yX10_near cX10_near 5 ((Option.some FieldType.int)) 2 10 := ⟨⟨kM_L_18, kN_X10, kC_yX10_near, by decide +kernel⟩, kI_yX10_near, kV_yX10_near, by decide, _, rfl, rfl⟩
theorem fG_L_22 : jGv RL 22 yX11_near cX11_near 3 ((Option.some FieldType.int)) 2 11 := ⟨⟨kM_L_22, kN_X11, kC_yX11_near, by decide +kernel⟩, kI_yX11_near, kV_yX11_near, by decide, _, rfl, rfl⟩
theorem fG_L_23 : jGv RL 23 yX10_stand cX10_stand 5 ((Option.some FieldType.boolean)) 3 10 := ⟨⟨kM_L_23, kN_X10, kC_yX10_stand, by decide +kernel⟩, kI_yX10_stand, kV_yX10_stand, by decide, _, rfl, rfl⟩
theorem fG_L_27 : jGv RL 27 yX11_stand cX11_stand 4 ((Option.some FieldType.boolean)) 3 11 := ⟨⟨kM_L_27, kN_X11, kC_yX11_stand, by decide +kernel⟩, kI_yX11_stand, kV_yX11_stand, by decide, _, rfl, rfl⟩
theorem fG_L_28 : jGv RL 28 yX10_stands cX10_stands 5 ((Option.some FieldType.int)) 3 10 := ⟨⟨kM_L_28, kN_X10, kC_yX10_stands, by decide +kernel⟩, kI_yX10_stands, kV_yX10_stands, by decide, _, rfl, rfl⟩
theorem fG_L_32 : jGv RL 32 yX11_stands cX11_stands 4 ((Option.some FieldType.int)) 3 11 := ⟨⟨kM_L_32, kN_X11, kC_yX11_stands, by decide +kernel⟩, kI_yX11_stands, kV_yX11_stands, by decide, _, rfl, rfl⟩
theorem fG_L_33 : jGv RL 33 yX10_statute cX10_statute 4 ((Option.some FieldType.int)) 3 10 := ⟨⟨kM_L_33, kN_X10, kC_yX10_statute, by decide +kernel⟩, kI_yX10_statute, kV_yX10_statute, by decide, _, rfl, rfl⟩
theorem fG_L_36 : jGv RL 36 yX11_statute cX11_statute 4 ((Option.some FieldType.int)) 3 11 := ⟨⟨kM_L_36, kN_X11, kC_yX11_statute, by decide +kernel⟩, kI_yX11_statute, kV_yX11_statute, by decide, _, rfl, rfl⟩
theorem fG_L_37 : jGv RL 37 yX10_force cX10_force 4 ((Option.some FieldType.int)) 3 10 := ⟨⟨kM_L_37, kN_X10, kC_yX10_force, by decide +kernel⟩, kI_yX10_force, kV_yX10_force, by decide, _, rfl, rfl⟩
theorem fG_L_40 : jGv RL 40 yX11_force cX11_force 4 ((Option.some FieldType.int)) 3 11 := ⟨⟨kM_L_40, kN_X11, kC_yX11_force, by decide +kernel⟩, kI_yX11_force, kV_yX11_force, by decide, _, rfl, rfl⟩
theorem fG_L_41 : jGv RL 41 yX10_tube cX10_tube 3 ((Option.some FieldType.int)) 1 10 := ⟨⟨kM_L_41, kN_X10, kC_yX10_tube, by decide +kernel⟩, kI_yX10_tube, kV_yX10_tube, by decide, _, rfl, rfl⟩
theorem fG_L_45 : jGv RL 45 yX11_tube cX11_tube 3 ((Option.some FieldType.int)) 1 11 := ⟨⟨kM_L_45, kN_X11, kC_yX11_tube, by decide +kernel⟩, kI_yX11_tube, kV_yX11_tube, by decide, _, rfl, rfl⟩
theorem fG_L_46 : jGv RL 46 yX10_sow cX10_sow 8 ((Option.some FieldType.int)) 3 10 := ⟨⟨kM_L_46, kN_X10, kC_yX10_sow, by decide +kernel⟩, kI_yX10_sow, kV_yX10_sow, by decide, _, rfl, rfl⟩
theorem fG_L_49 : jGv RL 49 yX11_sow cX11_sow 6 ((Option.some FieldType.int)) 3 11 := ⟨⟨kM_L_49, kN_X11, kC_yX11_sow, by decide +kernel⟩, kI_yX11_sow, kV_yX11_sow, by decide, _, rfl, rfl⟩
theorem fG_L_50 : jGv RL 50 yX10_harvest cX10_harvest 4 ((Option.some FieldType.boolean)) 2 10 := ⟨⟨kM_L_50, kN_X10, kC_yX10_harvest, by decide +kernel⟩, kI_yX10_harvest, kV_yX10_harvest, by decide, _, rfl, rfl⟩
theorem fG_L_54 : jGv RL 54 yX11_harvest cX11_harvest 3 ((Option.some FieldType.boolean)) 2 11 := ⟨⟨kM_L_54, kN_X11, kC_yX11_harvest, by decide +kernel⟩, kI_yX11_harvest, kV_yX11_harvest, by decide, _, rfl, rfl⟩
theorem fG_L_55 : jGv RL 55 yX10_mix cX10_mix 8 ((Option.some FieldType.int)) 4 10 := ⟨⟨kM_L_55, kN_X10, kC_yX10_mix, by decide +kernel⟩, kI_yX10_mix, kV_yX10_mix, by decide, _, rfl, rfl⟩
theorem fG_L_58 : jGv RL 58 yX11_mix cX11_mix 7 ((Option.some FieldType.int)) 4 11 := ⟨⟨kM_L_58, kN_X11, kC_yX11_mix, by decide +kernel⟩, kI_yX11_mix, kV_yX11_mix, by decide, _, rfl, rfl⟩
theorem fG_L_59 : jGv RL 59 yX10_bag cX10_bag 4 ((Option.some FieldType.int)) 2 10 := ⟨⟨kM_L_59, kN_X10, kC_yX10_bag, by decide +kernel⟩, kI_yX10_bag, kV_yX10_bag, by decide, _, rfl, rfl⟩
theorem fG_L_62 : jGv RL 62 yX11_bag cX11_bag 3 ((Option.some FieldType.int)) 2 11 := ⟨⟨kM_L_62, kN_X11, kC_yX11_bag, by decide +kernel⟩, kI_yX11_bag, kV_yX11_bag, by decide, _, rfl, rfl⟩
theorem fG_L_63 : jGv RL 63 yX10_open cX10_open 3 ((Option.some FieldType.boolean)) 1 10 := ⟨⟨kM_L_63, kN_X10, kC_yX10_open, by decide +kernel⟩, kI_yX10_open, kV_yX10_open, by decide, _, rfl, rfl⟩
theorem fG_L_67 : jGv RL 67 yX11_open cX11_open 2 ((Option.some FieldType.boolean)) 1 11 := ⟨⟨kM_L_67, kN_X11, kC_yX11_open, by decide +kernel⟩, kI_yX11_open, kV_yX11_open, by decide, _, rfl, rfl⟩
theorem fG_L_68 : jGv RL 68 yX10_seal cX10_seal 3 ((Option.some FieldType.int)) 1 10 := ⟨⟨kM_L_68, kN_X10, kC_yX10_seal, by decide +kernel⟩, kI_yX10_seal, kV_yX10_seal, by decide, _, rfl, rfl⟩
theorem fG_L_71 : jGv RL 71 yX11_seal cX11_seal 2 ((Option.some FieldType.int)) 1 11 := ⟨⟨kM_L_71, kN_X11, kC_yX11_seal, by decide +kernel⟩, kI_yX11_seal, kV_yX11_seal, by decide, _, rfl, rfl⟩
theorem fG_L_72 : jGv RL 72 yX10_sell cX10_sell 4 ((Option.some FieldType.boolean)) 2 10 := ⟨⟨kM_L_72, kN_X10, kC_yX10_sell, by decide +kernel⟩, kI_yX10_sell, kV_yX10_sell, by decide, _, rfl, rfl⟩
theorem fG_L_75 : jGv RL 75 yX11_sell cX11_sell 3 ((Option.some FieldType.boolean)) 2 11 := ⟨⟨kM_L_75, kN_X11, kC_yX11_sell, by decide +kernel⟩, kI_yX11_sell, kV_yX11_sell, by decide, _, rfl, rfl⟩
theorem fG_L_76 : jGv RL 76 yX10_toss cX10_toss 4 ((Option.some FieldType.boolean)) 2 10 := ⟨⟨kM_L_76, kN_X10, kC_yX10_toss, by decide +kernel⟩, kI_yX10_toss, kV_yX10_toss, by decide, _, rfl, rfl⟩
theorem fG_L_79 : jGv RL 79 yX11_toss cX11_toss 3 ((Option.some FieldType.boolean)) 2 11 := ⟨⟨kM_L_79, kN_X11, kC_yX11_toss, by decide +kernel⟩, kI_yX11_toss, kV_yX11_toss, by decide, _, rfl, rfl⟩
theorem fG_L_80 : jGv RL 80 yX10_look cX10_look 5 ((Option.some FieldType.int)) 3 10 := ⟨⟨kM_L_80, kN_X10, kC_yX10_look, by decide +kernel⟩, kI_yX10_look, kV_yX10_look, by decide, _, rfl, rfl⟩
theorem fG_L_83 : jGv RL 83 yX11_look cX11_look 4 ((Option.some FieldType.int)) 3 11 := ⟨⟨kM_L_83, kN_X11, kC_yX11_look, by decide +kernel⟩, kI_yX11_look, kV_yX11_look, by decide, _, rfl, rfl⟩
theorem fG_L_86 : jGv RL 86 yX10_drawn cX10_drawn 11 ((Option.some FieldType.int)) 4 10 := ⟨⟨kM_L_86, kN_X10, kC_yX10_drawn, by decide +kernel⟩, kI_yX10_drawn, kV_yX10_drawn, by decide, _, rfl, rfl⟩
theorem fG_L_9 : jGi RL 9 yX10_init cX10_init 1 0 := ⟨⟨kM_L_9, kN_X10, kC_yX10_init, by decide +kernel⟩, kI_yX10_init, rfl⟩
theorem fG_L_90 : jGv RL 90 yX11_drawn cX11_drawn 11 ((Option.some FieldType.int)) 4 11 := ⟨⟨kM_L_90, kN_X11, kC_yX11_drawn, by decide +kernel⟩, kI_yX11_drawn, kV_yX11_drawn, by decide, _, rfl, rfl⟩
theorem fG_L_91 : jGv RL 91 yX10_prove cX10_prove 3 ((Option.some FieldType.boolean)) 1 10 := ⟨⟨kM_L_91, kN_X10, kC_yX10_prove, by decide +kernel⟩, kI_yX10_prove, kV_yX10_prove, by decide, _, rfl, rfl⟩
theorem fG_L_94 : jGv RL 94 yX11_prove cX11_prove 2 ((Option.some FieldType.boolean)) 1 11 := ⟨⟨kM_L_94, kN_X11, kC_yX11_prove, by decide +kernel⟩, kI_yX11_prove, kV_yX11_prove, by decide, _, rfl, rfl⟩
theorem fG_L_95 : jGv RL 95 yX10_year cX10_year 1 ((Option.some FieldType.int)) 0 10 := ⟨⟨kM_L_95, kN_X10, kC_yX10_year, by decide +kernel⟩, kI_yX10_year, kV_yX10_year, by decide, _, rfl, rfl⟩
theorem fG_L_99 : jGv RL 99 yX11_year cX11_year 1 ((Option.some FieldType.int)) 0 11 := ⟨⟨kM_L_99, kN_X11, kC_yX11_year, by decide +kernel⟩, kI_yX11_year, kV_yX11_year, by decide, _, rfl, rfl⟩
theorem fG_X0_103 : jGv RX0 103 yX2_fieldAt cX2_fieldAt 2 ((Option.some (FieldType.object "CleanSeed$Field"))) 1 2 := ⟨⟨kM_X0_103, kN_X2, kC_yX2_fieldAt, by decide +kernel⟩, kI_yX2_fieldAt, kV_yX2_fieldAt, by decide, _, rfl, rfl⟩
theorem fG_X0_107 : jGv RX0 107 yX3_cropIn cX3_cropIn 5 ((Option.some FieldType.int)) 2 3 := ⟨⟨kM_X0_107, kN_X3, kC_yX3_cropIn, by decide +kernel⟩, kI_yX3_cropIn, kV_yX3_cropIn, by decide, _, rfl, rfl⟩
theorem fG_X0_111 : jGv RX0 111 yX3_squareTo cX3_squareTo 4 ((Option.some FieldType.int)) 1 3 := ⟨⟨kM_X0_111, kN_X3, kC_yX3_squareTo, by decide +kernel⟩, kI_yX3_squareTo, kV_yX3_squareTo, by decide, _, rfl, rfl⟩
theorem fG_X0_115 : jGv RX0 115 yX3_grownIn cX3_grownIn 2 ((Option.some (FieldType.object "CleanSeed$Lot"))) 1 3 := ⟨⟨kM_X0_115, kN_X3, kC_yX3_grownIn, by decide +kernel⟩, kI_yX3_grownIn, kV_yX3_grownIn, by decide, _, rfl, rfl⟩
theorem fG_X0_118 : jGv RX0 118 yX0_isAsGood cX0_isAsGood 3 ((Option.some FieldType.boolean)) 2 0 := ⟨⟨kM_X0_118, kN_X0, kC_yX0_isAsGood, by decide +kernel⟩, kI_yX0_isAsGood, kV_yX0_isAsGood, by decide, _, rfl, rfl⟩
theorem fG_X0_21 : jGv RX0 21 yX2_lotAt cX2_lotAt 2 ((Option.some (FieldType.object "CleanSeed$Lot"))) 1 2 := ⟨⟨kM_X0_21, kN_X2, kC_yX2_lotAt, by decide +kernel⟩, kI_yX2_lotAt, kV_yX2_lotAt, by decide, _, rfl, rfl⟩
theorem fG_X0_30 : jGv RX0 30 yX0_assess cX0_assess 3 (none) 2 0 := ⟨⟨kM_X0_30, kN_X0, kC_yX0_assess, by decide +kernel⟩, kI_yX0_assess, kV_yX0_assess, by decide, _, rfl, rfl⟩
theorem fG_X0_34 : jGv RX0 34 yX0_assessUpTo cX0_assessUpTo 5 (none) 2 0 := ⟨⟨kM_X0_34, kN_X0, kC_yX0_assessUpTo, by decide +kernel⟩, kI_yX0_assessUpTo, kV_yX0_assessUpTo, by decide, _, rfl, rfl⟩
theorem fG_X0_41 : jGv RX0 41 yX0_reasonToRefuse cX0_reasonToRefuse 3 ((Option.some FieldType.int)) 2 0 := ⟨⟨kM_X0_41, kN_X0, kC_yX0_reasonToRefuse, by decide +kernel⟩, kI_yX0_reasonToRefuse, kV_yX0_reasonToRefuse, by decide, _, rfl, rfl⟩
theorem fG_X0_48 : jGv RX0 48 yX6_rankOfMothers cX6_rankOfMothers 3 ((Option.some FieldType.int)) 0 6 := ⟨⟨kM_X0_48, kN_X6, kC_yX6_rankOfMothers, by decide +kernel⟩, kI_yX6_rankOfMothers, kV_yX6_rankOfMothers, by decide, _, rfl, rfl⟩
theorem fG_X0_52 : jGv RX0 52 yX6_isFalseAsKnownIn cX6_isFalseAsKnownIn 2 ((Option.some FieldType.boolean)) 1 6 := ⟨⟨kM_X0_52, kN_X6, kC_yX6_isFalseAsKnownIn, by decide +kernel⟩, kI_yX6_isFalseAsKnownIn, kV_yX6_isFalseAsKnownIn, by decide, _, rfl, rfl⟩
theorem fG_X0_56 : jGv RX0 56 yX0_reasonInField cX0_reasonInField 7 ((Option.some FieldType.int)) 2 0 := ⟨⟨kM_X0_56, kN_X0, kC_yX0_reasonInField, by decide +kernel⟩, kI_yX0_reasonInField, kV_yX0_reasonInField, by decide, _, rfl, rfl⟩
theorem fG_X0_63 : jGv RX0 63 yX0_isCrowded cX0_isCrowded 6 ((Option.some FieldType.boolean)) 2 0 := ⟨⟨kM_X0_63, kN_X0, kC_yX0_isCrowded, by decide +kernel⟩, kI_yX0_isCrowded, kV_yX0_isCrowded, by decide, _, rfl, rfl⟩
theorem fG_X0_70 : jGv RX0 70 yX2_inForce cX2_inForce 7 ((Option.some FieldType.int)) 3 2 := ⟨⟨kM_X0_70, kN_X2, kC_yX2_inForce, by decide +kernel⟩, kI_yX2_inForce, kV_yX2_inForce, by decide, _, rfl, rfl⟩
theorem fG_X0_77 : jGv RX0 77 yX3_stoodAheadOf cX3_stoodAheadOf 7 ((Option.some FieldType.boolean)) 4 3 := ⟨⟨kM_X0_77, kN_X3, kC_yX3_stoodAheadOf, by decide +kernel⟩, kI_yX3_stoodAheadOf, kV_yX3_stoodAheadOf, by decide, _, rfl, rfl⟩
theorem fG_X0_83 : jGv RX0 83 yX6_lastLookAsKnownIn cX6_lastLookAsKnownIn 3 ((Option.some (FieldType.object "CleanSeed$Look"))) 1 6 := ⟨⟨kM_X0_83, kN_X6, kC_yX6_lastLookAsKnownIn, by decide +kernel⟩, kI_yX6_lastLookAsKnownIn, kV_yX6_lastLookAsKnownIn, by decide, _, rfl, rfl⟩
theorem fG_X10_103 : jGv RX10 103 yX2_addLot cX2_addLot 2 ((Option.some FieldType.int)) 1 2 := ⟨⟨kM_X10_103, kN_X2, kC_yX2_addLot, by decide +kernel⟩, kI_yX2_addLot, kV_yX2_addLot, by decide, _, rfl, rfl⟩
theorem fG_X10_107 : jGv RX10 107 yX2_lotAt cX2_lotAt 2 ((Option.some (FieldType.object "CleanSeed$Lot"))) 1 2 := ⟨⟨kM_X10_107, kN_X2, kC_yX2_lotAt, by decide +kernel⟩, kI_yX2_lotAt, kV_yX2_lotAt, by decide, _, rfl, rfl⟩
theorem fG_X10_111 : jGv RX10 111 yX6_has cX6_has 2 ((Option.some FieldType.boolean)) 1 6 := ⟨⟨kM_X10_111, kN_X6, kC_yX6_has, by decide +kernel⟩, kI_yX6_has, kV_yX6_has, by decide, _, rfl, rfl⟩
theorem fG_X10_121 : jGv RX10 121 yX3_grownIn cX3_grownIn 2 ((Option.some (FieldType.object "CleanSeed$Lot"))) 1 3 := ⟨⟨kM_X10_121, kN_X3, kC_yX3_grownIn, by decide +kernel⟩, kI_yX3_grownIn, kV_yX3_grownIn, by decide, _, rfl, rfl⟩
theorem fG_X10_135 : jGv RX10 135 yX3_grow cX3_grow 2 (none) 1 3 := ⟨⟨kM_X10_135, kN_X3, kC_yX3_grow, by decide +kernel⟩, kI_yX3_grow, kV_yX3_grow, by decide, _, rfl, rfl⟩
theorem fG_X10_158 : jGv RX10 158 yX10_isOutNow cX10_isOutNow 2 ((Option.some FieldType.boolean)) 1 10 := ⟨⟨kM_X10_158, kN_X10, kC_yX10_isOutNow, by decide +kernel⟩, kI_yX10_isOutNow, kV_yX10_isOutNow, by decide, _, rfl, rfl⟩
theorem fG_X10_167 : jGv RX10 167 yX2_nextSeal cX2_nextSeal 1 ((Option.some FieldType.int)) 0 2 := ⟨⟨kM_X10_167, kN_X2, kC_yX2_nextSeal, by decide +kernel⟩, kI_yX2_nextSeal, kV_yX2_nextSeal, by decide, _, rfl, rfl⟩
theorem fG_X10_171 : jGi RX10 171 yX1_init cX1_init 4 3 := ⟨⟨kM_X10_171, kN_X1, kC_yX1_init, by decide +kernel⟩, kI_yX1_init, rfl⟩
theorem fG_X10_174 : jGv RX10 174 yX2_addBag cX2_addBag 2 ((Option.some FieldType.int)) 1 2 := ⟨⟨kM_X10_174, kN_X2, kC_yX2_addBag, by decide +kernel⟩, kI_yX2_addBag, kV_yX2_addBag, by decide, _, rfl, rfl⟩
theorem fG_X10_178 : jGv RX10 178 yX2_bagAt cX2_bagAt 2 ((Option.some (FieldType.object "CleanSeed$Bag"))) 1 2 := ⟨⟨kM_X10_178, kN_X2, kC_yX2_bagAt, by decide +kernel⟩, kI_yX2_bagAt, kV_yX2_bagAt, by decide, _, rfl, rfl⟩
theorem fG_X10_18 : jGi RX10 18 yX0_init cX0_init 2 1 := ⟨⟨kM_X10_18, kN_X0, kC_yX0_init, by decide +kernel⟩, kI_yX0_init, rfl⟩
theorem fG_X10_182 : jGv RX10 182 yX1_isOpened cX1_isOpened 1 ((Option.some FieldType.boolean)) 0 1 := ⟨⟨kM_X10_182, kN_X1, kC_yX1_isOpened, by decide +kernel⟩, kI_yX1_isOpened, kV_yX1_isOpened, by decide, _, rfl, rfl⟩
theorem fG_X10_189 : jGv RX10 189 yX1_isSold cX1_isSold 1 ((Option.some FieldType.boolean)) 0 1 := ⟨⟨kM_X10_189, kN_X1, kC_yX1_isSold, by decide +kernel⟩, kI_yX1_isSold, kV_yX1_isSold, by decide, _, rfl, rfl⟩
theorem fG_X10_210 : jGi RX10 210 yX5_init cX5_init 5 4 := ⟨⟨kM_X10_210, kN_X5, kC_yX5_init, by decide +kernel⟩, kI_yX5_init, rfl⟩
theorem fG_X10_213 : jGv RX10 213 yX6_lookCount cX6_lookCount 1 ((Option.some FieldType.int)) 0 6 := ⟨⟨kM_X10_213, kN_X6, kC_yX6_lookCount, by decide +kernel⟩, kI_yX6_lookCount, kV_yX6_lookCount, by decide, _, rfl, rfl⟩
theorem fG_X10_228 : jGv RX10 228 yX10_lotKnownIn cX10_lotKnownIn 4 ((Option.some (FieldType.object "CleanSeed$Lot"))) 2 10 := ⟨⟨kM_X10_228, kN_X10, kC_yX10_lotKnownIn, by decide +kernel⟩, kI_yX10_lotKnownIn, kV_yX10_lotKnownIn, by decide, _, rfl, rfl⟩
theorem fG_X10_235 : jGv RX10 235 yX0_assessUpTo cX0_assessUpTo 5 (none) 2 0 := ⟨⟨kM_X10_235, kN_X0, kC_yX0_assessUpTo, by decide +kernel⟩, kI_yX0_assessUpTo, kV_yX0_assessUpTo, by decide, _, rfl, rfl⟩
theorem fG_X10_245 : jGv RX10 245 yX4_traceBelow cX4_traceBelow 5 (none) 1 4 := ⟨⟨kM_X10_245, kN_X4, kC_yX4_traceBelow, by decide +kernel⟩, kI_yX4_traceBelow, kV_yX4_traceBelow, by decide, _, rfl, rfl⟩
theorem fG_X10_251 : jGv RX10 251 yX4_touchedBy cX4_touchedBy 7 ((Option.some FieldType.int)) 3 4 := ⟨⟨kM_X10_251, kN_X4, kC_yX4_touchedBy, by decide +kernel⟩, kI_yX4_touchedBy, kV_yX4_touchedBy, by decide, _, rfl, rfl⟩
theorem fG_X10_255 : jGv RX10 255 yX4_buyersBelow cX4_buyersBelow 5 ((Option.some FieldType.int)) 1 4 := ⟨⟨kM_X10_255, kN_X4, kC_yX4_buyersBelow, by decide +kernel⟩, kI_yX4_buyersBelow, kV_yX4_buyersBelow, by decide, _, rfl, rfl⟩
theorem fG_X10_258 : jGv RX10 258 yX7_forgetAll cX7_forgetAll 1 (none) 0 7 := ⟨⟨kM_X10_258, kN_X7, kC_yX7_forgetAll, by decide +kernel⟩, kI_yX7_forgetAll, kV_yX7_forgetAll, by decide, _, rfl, rfl⟩
theorem fG_X10_261 : jGv RX10 261 yX7_add cX7_add 3 ((Option.some FieldType.int)) 1 7 := ⟨⟨kM_X10_261, kN_X7, kC_yX7_add, by decide +kernel⟩, kI_yX7_add, kV_yX7_add, by decide, _, rfl, rfl⟩
theorem fG_X10_267 : jGv RX10 267 yX7_placeOf cX7_placeOf 3 ((Option.some FieldType.int)) 1 7 := ⟨⟨kM_X10_267, kN_X7, kC_yX7_placeOf, by decide +kernel⟩, kI_yX7_placeOf, kV_yX7_placeOf, by decide, _, rfl, rfl⟩
theorem fG_X10_27 : jGi RX10 27 yX4_init cX4_init 2 1 := ⟨⟨kM_X10_27, kN_X4, kC_yX4_init, by decide +kernel⟩, kI_yX4_init, rfl⟩
theorem fG_X10_271 : jGv RX10 271 yX6_about cX6_about 2 ((Option.some FieldType.int)) 1 6 := ⟨⟨kM_X10_271, kN_X6, kC_yX6_about, by decide +kernel⟩, kI_yX6_about, kV_yX6_about, by decide, _, rfl, rfl⟩
theorem fG_X10_274 : jGv RX10 274 yX1_about cX1_about 2 ((Option.some FieldType.int)) 1 1 := ⟨⟨kM_X10_274, kN_X1, kC_yX1_about, by decide +kernel⟩, kI_yX1_about, kV_yX1_about, by decide, _, rfl, rfl⟩
theorem fG_X10_281 : jGv RX10 281 yX0_countOut cX0_countOut 5 ((Option.some FieldType.int)) 1 0 := ⟨⟨kM_X10_281, kN_X0, kC_yX0_countOut, by decide +kernel⟩, kI_yX0_countOut, kV_yX0_countOut, by decide, _, rfl, rfl⟩
theorem fG_X10_34 : jGi RX10 34 yX7_init cX7_init 2 1 := ⟨⟨kM_X10_34, kN_X7, kC_yX7_init, by decide +kernel⟩, kI_yX7_init, rfl⟩
theorem fG_X10_43 : jGs RX10 43 yX10_within cX10_within 3 ((Option.some FieldType.boolean)) 3 := ⟨⟨kM_X10_43, kN_X10, kC_yX10_within, by decide +kernel⟩, kS_yX10_within⟩
theorem fG_X10_53 : jGi RX10 53 yX3_init cX3_init 6 5 := ⟨⟨kM_X10_53, kN_X3, kC_yX3_init, by decide +kernel⟩, kI_yX3_init, rfl⟩
theorem fG_X10_56 : jGv RX10 56 yX2_addField cX2_addField 2 ((Option.some FieldType.int)) 1 2 := ⟨⟨kM_X10_56, kN_X2, kC_yX2_addField, by decide +kernel⟩, kI_yX2_addField, kV_yX2_addField, by decide, _, rfl, rfl⟩
theorem fG_X10_60 : jGv RX10 60 yX2_fieldAt cX2_fieldAt 2 ((Option.some (FieldType.object "CleanSeed$Field"))) 1 2 := ⟨⟨kM_X10_60, kN_X2, kC_yX2_fieldAt, by decide +kernel⟩, kI_yX2_fieldAt, kV_yX2_fieldAt, by decide, _, rfl, rfl⟩
theorem fG_X10_64 : jGv RX10 64 yX3_squareTo cX3_squareTo 4 ((Option.some FieldType.int)) 1 3 := ⟨⟨kM_X10_64, kN_X3, kC_yX3_squareTo, by decide +kernel⟩, kI_yX3_squareTo, kV_yX3_squareTo, by decide, _, rfl, rfl⟩
theorem fG_X10_73 : jGv RX10 73 yX3_tell cX3_tell 4 (none) 3 3 := ⟨⟨kM_X10_73, kN_X3, kC_yX3_tell, by decide +kernel⟩, kI_yX3_tell, kV_yX3_tell, by decide, _, rfl, rfl⟩
theorem fG_X10_77 : jGv RX10 77 yX3_cropIn cX3_cropIn 5 ((Option.some FieldType.int)) 2 3 := ⟨⟨kM_X10_77, kN_X3, kC_yX3_cropIn, by decide +kernel⟩, kI_yX3_cropIn, kV_yX3_cropIn, by decide, _, rfl, rfl⟩
theorem fG_X10_84 : jGv RX10 84 yX2_addStatute cX2_addStatute 4 ((Option.some FieldType.int)) 3 2 := ⟨⟨kM_X10_84, kN_X2, kC_yX2_addStatute, by decide +kernel⟩, kI_yX2_addStatute, kV_yX2_addStatute, by decide, _, rfl, rfl⟩
theorem fG_X10_88 : jGv RX10 88 yX2_inForce cX2_inForce 7 ((Option.some FieldType.int)) 3 2 := ⟨⟨kM_X10_88, kN_X2, kC_yX2_inForce, by decide +kernel⟩, kI_yX2_inForce, kV_yX2_inForce, by decide, _, rfl, rfl⟩
theorem fG_X10_96 : jGi RX10 96 yX6_init cX6_init 5 4 := ⟨⟨kM_X10_96, kN_X6, kC_yX6_init, by decide +kernel⟩, kI_yX6_init, rfl⟩
theorem fG_X10_99 : jGv RX10 99 yX6_gain cX6_gain 2 (none) 1 6 := ⟨⟨kM_X10_99, kN_X6, kC_yX6_gain, by decide +kernel⟩, kI_yX6_gain, kV_yX6_gain, by decide, _, rfl, rfl⟩
theorem fG_X11_134 : jGs RX11 134 yX11_in cX11_in 3 ((Option.some FieldType.boolean)) 3 := ⟨⟨kM_X11_134, kN_X11, kC_yX11_in, by decide +kernel⟩, kS_yX11_in⟩
theorem fG_X11_153 : jGv RX11 153 yX11_isField cX11_isField 2 ((Option.some FieldType.boolean)) 1 11 := ⟨⟨kM_X11_153, kN_X11, kC_yX11_isField, by decide +kernel⟩, kI_yX11_isField, kV_yX11_isField, by decide, _, rfl, rfl⟩
theorem fG_X11_157 : jGv RX11 157 yX11_nearness cX11_nearness 5 ((Option.some FieldType.int)) 2 11 := ⟨⟨kM_X11_157, kN_X11, kC_yX11_nearness, by decide +kernel⟩, kI_yX11_nearness, kV_yX11_nearness, by decide, _, rfl, rfl⟩
theorem fG_X11_160 : jGv RX11 160 yX11_isYear cX11_isYear 2 ((Option.some FieldType.boolean)) 1 11 := ⟨⟨kM_X11_160, kN_X11, kC_yX11_isYear, by decide +kernel⟩, kI_yX11_isYear, kV_yX11_isYear, by decide, _, rfl, rfl⟩
theorem fG_X11_166 : jGv RX11 166 yX11_lotIn cX11_lotIn 4 ((Option.some FieldType.int)) 2 11 := ⟨⟨kM_X11_166, kN_X11, kC_yX11_lotIn, by decide +kernel⟩, kI_yX11_lotIn, kV_yX11_lotIn, by decide, _, rfl, rfl⟩
theorem fG_X11_169 : jGv RX11 169 yX11_standing cX11_standing 7 ((Option.some FieldType.int)) 3 11 := ⟨⟨kM_X11_169, kN_X11, kC_yX11_standing, by decide +kernel⟩, kI_yX11_standing, kV_yX11_standing, by decide, _, rfl, rfl⟩
theorem fG_X11_173 : jGs RX11 173 yX11_isValue cX11_isValue 2 ((Option.some FieldType.boolean)) 2 := ⟨⟨kM_X11_173, kN_X11, kC_yX11_isValue, by decide +kernel⟩, kS_yX11_isValue⟩
theorem fG_X11_180 : jGv RX11 180 yX11_inForce cX11_inForce 7 ((Option.some FieldType.int)) 3 11 := ⟨⟨kM_X11_180, kN_X11, kC_yX11_inForce, by decide +kernel⟩, kI_yX11_inForce, kV_yX11_inForce, by decide, _, rfl, rfl⟩
theorem fG_X11_183 : jGv RX11 183 yX11_lot cX11_lot 4 ((Option.some FieldType.int)) 2 11 := ⟨⟨kM_X11_183, kN_X11, kC_yX11_lot, by decide +kernel⟩, kI_yX11_lot, kV_yX11_lot, by decide, _, rfl, rfl⟩
theorem fG_X11_186 : jGv RX11 186 yX11_isLot cX11_isLot 2 ((Option.some FieldType.boolean)) 1 11 := ⟨⟨kM_X11_186, kN_X11, kC_yX11_isLot, by decide +kernel⟩, kI_yX11_isLot, kV_yX11_isLot, by decide, _, rfl, rfl⟩
theorem fG_X11_193 : jGv RX11 193 yX11_classOf cX11_classOf 5 ((Option.some FieldType.int)) 2 11 := ⟨⟨kM_X11_193, kN_X11, kC_yX11_classOf, by decide +kernel⟩, kI_yX11_classOf, kV_yX11_classOf, by decide, _, rfl, rfl⟩
theorem fG_X11_199 : jGv RX11 199 yX11_isBag cX11_isBag 2 ((Option.some FieldType.boolean)) 1 11 := ⟨⟨kM_X11_199, kN_X11, kC_yX11_isBag, by decide +kernel⟩, kI_yX11_isBag, kV_yX11_isBag, by decide, _, rfl, rfl⟩
theorem fG_X11_205 : jGv RX11 205 yX11_looksOf cX11_looksOf 5 ((Option.some FieldType.int)) 2 11 := ⟨⟨kM_X11_205, kN_X11, kC_yX11_looksOf, by decide +kernel⟩, kI_yX11_looksOf, kV_yX11_looksOf, by decide, _, rfl, rfl⟩
theorem fG_X11_212 : jGv RX11 212 yX11_judgeOne cX11_judgeOne 5 (none) 2 11 := ⟨⟨kM_X11_212, kN_X11, kC_yX11_judgeOne, by decide +kernel⟩, kI_yX11_judgeOne, kV_yX11_judgeOne, by decide, _, rfl, rfl⟩
theorem fG_X11_216 : jGv RX11 216 yX11_wrongField cX11_wrongField 11 ((Option.some FieldType.int)) 2 11 := ⟨⟨kM_X11_216, kN_X11, kC_yX11_wrongField, by decide +kernel⟩, kI_yX11_wrongField, kV_yX11_wrongField, by decide, _, rfl, rfl⟩
theorem fG_X11_221 : jGv RX11 221 yX11_isJudged cX11_isJudged 3 ((Option.some FieldType.boolean)) 2 11 := ⟨⟨kM_X11_221, kN_X11, kC_yX11_isJudged, by decide +kernel⟩, kI_yX11_isJudged, kV_yX11_isJudged, by decide, _, rfl, rfl⟩
theorem fG_X11_225 : jGv RX11 225 yX11_rowsTo cX11_rowsTo 4 (none) 1 11 := ⟨⟨kM_X11_225, kN_X11, kC_yX11_rowsTo, by decide +kernel⟩, kI_yX11_rowsTo, kV_yX11_rowsTo, by decide, _, rfl, rfl⟩
theorem fG_X11_229 : jGv RX11 229 yX11_isOf cX11_isOf 3 ((Option.some FieldType.boolean)) 2 11 := ⟨⟨kM_X11_229, kN_X11, kC_yX11_isOf, by decide +kernel⟩, kI_yX11_isOf, kV_yX11_isOf, by decide, _, rfl, rfl⟩
theorem fG_X11_232 : jGv RX11 232 yX11_isIn cX11_isIn 5 ((Option.some FieldType.boolean)) 3 11 := ⟨⟨kM_X11_232, kN_X11, kC_yX11_isIn, by decide +kernel⟩, kI_yX11_isIn, kV_yX11_isIn, by decide, _, rfl, rfl⟩
theorem fG_X11_238 : jGv RX11 238 yX11_isFree cX11_isFree 5 ((Option.some FieldType.boolean)) 2 11 := ⟨⟨kM_X11_238, kN_X11, kC_yX11_isFree, by decide +kernel⟩, kI_yX11_isFree, kV_yX11_isFree, by decide, _, rfl, rfl⟩
theorem fG_X11_241 : jGv RX11 241 yX11_isGood cX11_isGood 6 ((Option.some FieldType.boolean)) 1 11 := ⟨⟨kM_X11_241, kN_X11, kC_yX11_isGood, by decide +kernel⟩, kI_yX11_isGood, kV_yX11_isGood, by decide, _, rfl, rfl⟩
theorem fG_X11_244 : jGv RX11 244 yX11_findPlan cX11_findPlan 8 (none) 0 11 := ⟨⟨kM_X11_244, kN_X11, kC_yX11_findPlan, by decide +kernel⟩, kI_yX11_findPlan, kV_yX11_findPlan, by decide, _, rfl, rfl⟩
theorem fG_X11_247 : jGv RX11 247 yX11_outs cX11_outs 3 ((Option.some FieldType.int)) 0 11 := ⟨⟨kM_X11_247, kN_X11, kC_yX11_outs, by decide +kernel⟩, kI_yX11_outs, kV_yX11_outs, by decide, _, rfl, rfl⟩
theorem fG_X2_64 : jGi RX2 64 yX8_init cX8_init 5 4 := ⟨⟨kM_X2_64, kN_X8, kC_yX8_init, by decide +kernel⟩, kI_yX8_init, rfl⟩
theorem fG_X3_51 : jGi RX3 51 yX9_init cX9_init 4 3 := ⟨⟨kM_X3_51, kN_X9, kC_yX9_init, by decide +kernel⟩, kI_yX9_init, rfl⟩
theorem fG_X3_54 : jGv RX3 54 yX3_grownIn cX3_grownIn 2 ((Option.some (FieldType.object "CleanSeed$Lot"))) 1 3 := ⟨⟨kM_X3_54, kN_X3, kC_yX3_grownIn, by decide +kernel⟩, kI_yX3_grownIn, kV_yX3_grownIn, by decide, _, rfl, rfl⟩
theorem fG_X3_69 : jGv RX3 69 yX3_cropIn cX3_cropIn 5 ((Option.some FieldType.int)) 2 3 := ⟨⟨kM_X3_69, kN_X3, kC_yX3_cropIn, by decide +kernel⟩, kI_yX3_cropIn, kV_yX3_cropIn, by decide, _, rfl, rfl⟩
theorem fG_X4_21 : jGv RX4 21 yX2_lotAt cX2_lotAt 2 ((Option.some (FieldType.object "CleanSeed$Lot"))) 1 2 := ⟨⟨kM_X4_21, kN_X2, kC_yX2_lotAt, by decide +kernel⟩, kI_yX2_lotAt, kV_yX2_lotAt, by decide, _, rfl, rfl⟩
theorem fG_X4_31 : jGs RX4 31 yX4_linesOf cX4_linesOf 1 ((Option.some FieldType.int)) 1 := ⟨⟨kM_X4_31, kN_X4, kC_yX4_linesOf, by decide +kernel⟩, kS_yX4_linesOf⟩
theorem fG_X4_48 : jGv RX4 48 yX4_traceBelow cX4_traceBelow 5 (none) 1 4 := ⟨⟨kM_X4_48, kN_X4, kC_yX4_traceBelow, by decide +kernel⟩, kI_yX4_traceBelow, kV_yX4_traceBelow, by decide, _, rfl, rfl⟩
theorem fG_X4_55 : jGv RX4 55 yX2_bagAt cX2_bagAt 2 ((Option.some (FieldType.object "CleanSeed$Bag"))) 1 2 := ⟨⟨kM_X4_55, kN_X2, kC_yX2_bagAt, by decide +kernel⟩, kI_yX2_bagAt, kV_yX2_bagAt, by decide, _, rfl, rfl⟩
theorem fG_X4_59 : jGv RX4 59 yX1_isSold cX1_isSold 1 ((Option.some FieldType.boolean)) 0 1 := ⟨⟨kM_X4_59, kN_X1, kC_yX1_isSold, by decide +kernel⟩, kI_yX1_isSold, kV_yX1_isSold, by decide, _, rfl, rfl⟩
theorem fG_X4_71 : jGv RX4 71 yX4_markAbove cX4_markAbove 4 (none) 1 4 := ⟨⟨kM_X4_71, kN_X4, kC_yX4_markAbove, by decide +kernel⟩, kI_yX4_markAbove, kV_yX4_markAbove, by decide, _, rfl, rfl⟩
theorem fG_X4_74 : jGv RX4 74 yX4_markAkin cX4_markAkin 5 (none) 1 4 := ⟨⟨kM_X4_74, kN_X4, kC_yX4_markAkin, by decide +kernel⟩, kI_yX4_markAkin, kV_yX4_markAkin, by decide, _, rfl, rfl⟩
theorem fG_X4_77 : jGs RX4 77 yX4_rowOf cX4_rowOf 1 ((Option.some FieldType.int)) 1 := ⟨⟨kM_X4_77, kN_X4, kC_yX4_rowOf, by decide +kernel⟩, kS_yX4_rowOf⟩
theorem fG_X4_87 : jGs RX4 87 yX4_markOneAbove cX4_markOneAbove 1 (none) 1 := ⟨⟨kM_X4_87, kN_X4, kC_yX4_markOneAbove, by decide +kernel⟩, kS_yX4_markOneAbove⟩
theorem fG_X4_90 : jGs RX4 90 yX4_isAkin cX4_isAkin 1 ((Option.some FieldType.boolean)) 1 := ⟨⟨kM_X4_90, kN_X4, kC_yX4_isAkin, by decide +kernel⟩, kS_yX4_isAkin⟩
theorem fG_X6_88 : jGv RX6 88 yX6_lookCount cX6_lookCount 1 ((Option.some FieldType.int)) 0 6 := ⟨⟨kM_X6_88, kN_X6, kC_yX6_lookCount, by decide +kernel⟩, kI_yX6_lookCount, kV_yX6_lookCount, by decide, _, rfl, rfl⟩
theorem fG_X7_46 : jGv RX7 46 yX2_inForce cX2_inForce 7 ((Option.some FieldType.int)) 3 2 := ⟨⟨kM_X7_46, kN_X2, kC_yX2_inForce, by decide +kernel⟩, kI_yX2_inForce, kV_yX2_inForce, by decide, _, rfl, rfl⟩
theorem fG_X7_50 : jGv RX7 50 yX7_markMayTake cX7_markMayTake 7 (none) 2 7 := ⟨⟨kM_X7_50, kN_X7, kC_yX7_markMayTake, by decide +kernel⟩, kI_yX7_markMayTake, kV_yX7_markMayTake, by decide, _, rfl, rfl⟩
theorem fG_X7_54 : jGv RX7 54 yX7_markTooNear cX7_markTooNear 6 (none) 1 7 := ⟨⟨kM_X7_54, kN_X7, kC_yX7_markTooNear, by decide +kernel⟩, kI_yX7_markTooNear, kV_yX7_markTooNear, by decide, _, rfl, rfl⟩
theorem fG_X7_58 : jGv RX7 58 yX7_search cX7_search 4 (none) 2 7 := ⟨⟨kM_X7_58, kN_X7, kC_yX7_search, by decide +kernel⟩, kI_yX7_search, kV_yX7_search, by decide, _, rfl, rfl⟩
theorem fG_X7_61 : jGv RX7 61 yX2_fieldAt cX2_fieldAt 2 ((Option.some (FieldType.object "CleanSeed$Field"))) 1 2 := ⟨⟨kM_X7_61, kN_X2, kC_yX2_fieldAt, by decide +kernel⟩, kI_yX2_fieldAt, kV_yX2_fieldAt, by decide, _, rfl, rfl⟩
theorem fG_X7_68 : jGv RX7 68 yX3_stoodAheadOf cX3_stoodAheadOf 7 ((Option.some FieldType.boolean)) 4 3 := ⟨⟨kM_X7_68, kN_X3, kC_yX3_stoodAheadOf, by decide +kernel⟩, kI_yX3_stoodAheadOf, kV_yX3_stoodAheadOf, by decide, _, rfl, rfl⟩
theorem fG_X7_74 : jGv RX7 74 yX3_squareTo cX3_squareTo 4 ((Option.some FieldType.int)) 1 3 := ⟨⟨kM_X7_74, kN_X3, kC_yX3_squareTo, by decide +kernel⟩, kI_yX3_squareTo, kV_yX3_squareTo, by decide, _, rfl, rfl⟩
theorem fG_X7_84 : jGv RX7 84 yX7_fits cX7_fits 6 ((Option.some FieldType.boolean)) 2 7 := ⟨⟨kM_X7_84, kN_X7, kC_yX7_fits, by decide +kernel⟩, kI_yX7_fits, kV_yX7_fits, by decide, _, rfl, rfl⟩
theorem fG_X7_88 : jGs RX7 88 yX7_areOfOneCrop cX7_areOfOneCrop 2 ((Option.some FieldType.boolean)) 2 := ⟨⟨kM_X7_88, kN_X7, kC_yX7_areOfOneCrop, by decide +kernel⟩, kS_yX7_areOfOneCrop⟩
end
section
/-! the reference: its fields 0..8 are ints (S k 0), 9..48 are rows of ints (S k i); ad k: where row k lies; m0: the object -/
def mlen (k : Nat) : Nat := ([0, 0, 0, 0, 0, 0, 0, 0, 0, 40, 40, 40, 40, 300, 300, 300, 300, 100, 100, 100, 100, 200, 200, 200, 200, 200, 200, 200, 200, 200, 200, 200, 200, 200, 300, 300, 300, 300, 200, 200, 200, 200, 5, 500, 200, 200, 200, 5, 5] : List Nat).getD k 0
def Mv (m0 : Nat) (ad : Nat → Nat) (h : jH) (S : Nat → Nat → Int32) : Prop := h_ok h m0 11 ∧ (∀ k, k < 9 → h_I h (64 * 11 + k) m0 = S k 0) ∧ (∀ k, 9 ≤ k → k < 49 → h_R h (64 * 11 + k) m0 = some (ad k) ∧ h_ok h (ad k) 12 ∧ h_N h (ad k) = mlen k ∧ ∀ i, h_A h (ad k) i = S k i) ∧ (∀ j k, 9 ≤ j → j < 49 → 9 ≤ k → k < 49 → ad j = ad k → j = k)
def Fm (m0 : Nat) (ad : Nat → Nat) (h0 h : jH) : Prop := h_L h = h_L h0 ∧ (∀ a, h_K h a = h_K h0 a) ∧ (∀ a, h_N h a = h_N h0 a) ∧ (∀ f a, a ≠ m0 → h_I h f a = h_I h0 f a) ∧ (∀ f a, h_R h f a = h_R h0 f a) ∧ (∀ a i, (∀ k, 9 ≤ k → k < 49 → a ≠ ad k) → h_A h a i = h_A h0 a i) ∧ (∀ a i, h_B h a i = h_B h0 a i)
theorem Fm.rf {m0 : Nat} {ad : Nat → Nat} {h : jH} : Fm m0 ad h h := ⟨rfl, fun _ => rfl, fun _ => rfl, fun _ _ _ => rfl, fun _ _ => rfl, fun _ _ _ => rfl, fun _ _ => rfl⟩
theorem Fm.tr {m0 : Nat} {ad : Nat → Nat} {h1 h2 h3 : jH} (a : Fm m0 ad h1 h2) (b : Fm m0 ad h2 h3) : Fm m0 ad h1 h3 := by
  obtain ⟨a1, a2, a3, a4, a5, a6, a7⟩ := a
  obtain ⟨b1, b2, b3, b4, b5, b6, b7⟩ := b
  exact ⟨b1.trans a1, fun x => (b2 x).trans (a2 x), fun x => (b3 x).trans (a3 x), fun f x hx => (b4 f x hx).trans (a4 f x hx), fun f x => (b5 f x).trans (a5 f x), fun x i hx => (b6 x i hx).trans (a6 x i hx), fun x i => (b7 x i).trans (a7 x i)⟩
theorem u2_same {α : Type} (g : Nat → Nat → α) (f a : Nat) (v : α) : u2 g f a v f a = v := by simp [u2]
theorem u2_ne1 {α : Type} (g : Nat → Nat → α) {f a f' a' : Nat} (v : α) (h : f' ≠ f) : u2 g f a v f' a' = g f' a' := by simp [u2, h]
theorem u2_ne2 {α : Type} (g : Nat → Nat → α) {f a f' a' : Nat} (v : α) (h : a' ≠ a) : u2 g f a v f' a' = g f' a' := by simp [u2, h]
theorem Mv.putS {m0 : Nat} {ad : Nat → Nat} {h h0 : jH} {S : Nat → Nat → Int32} {k : Nat} {v : Int32} (M : Mv m0 ad h S) (F : Fm m0 ad h0 h) (hk : k < 9) : Mv m0 ad (s_I h (64 * 11 + k) m0 v) (u2 S k 0 v) ∧ Fm m0 ad h0 (s_I h (64 * 11 + k) m0 v) := by
  obtain ⟨a1, a2, a3, a4⟩ := M
  refine ⟨⟨a1, fun j hj => ?_, fun j h1 h2 => ?_, a4⟩, F.tr ⟨rfl, fun _ => rfl, fun _ => rfl, fun f a ha => ?_, fun _ _ => rfl, fun _ _ _ => rfl, fun _ _ => rfl⟩⟩
  · rw [g_II]
    by_cases e : j = k
    · subst e; simp [u2]
    · rw [if_neg (fid_ne e), u2_ne1 _ _ e]; exact a2 j hj
  · obtain ⟨b1, b2, b3, b4⟩ := a3 j h1 h2
    refine ⟨b1, b2, b3, fun i => ?_⟩
    rw [u2_ne1 _ _ (by omega)]
    exact b4 i
  · rw [g_II]; simp [ha]
theorem Mv.putA {m0 : Nat} {ad : Nat → Nat} {h h0 : jH} {S : Nat → Nat → Int32} {k i : Nat} {v : Int32} (M : Mv m0 ad h S) (F : Fm m0 ad h0 h) (h1 : 9 ≤ k) (h2 : k < 49) : Mv m0 ad (s_A h (ad k) i v) (u2 S k i v) ∧ Fm m0 ad h0 (s_A h (ad k) i v) := by
  obtain ⟨a1, a2, a3, a4⟩ := M
  refine ⟨⟨a1, fun j hj => ?_, fun j g1 g2 => ?_, a4⟩, F.tr ⟨rfl, fun _ => rfl, fun _ => rfl, fun _ _ _ => rfl, fun _ _ => rfl, fun a j ha => ?_, fun _ _ => rfl⟩⟩
  · rw [u2_ne1 _ _ (by omega)]; exact a2 j hj
  · obtain ⟨b1, b2, b3, b4⟩ := a3 j g1 g2
    refine ⟨b1, b2, b3, fun x => ?_⟩
    rw [g_AA]
    by_cases e : j = k
    · subst e
      simp only [u2, if_true, b4]
    · rw [u2_ne1 _ _ e, if_neg (fun z => e (a4 j k g1 g2 h1 h2 z))]
      exact b4 x
  · rw [g_AA, if_neg (ha k h1 h2)]
/-- 1 if it holds, else 0 -/
def bI (P : Prop) [Decidable P] : Int32 := if P then 1 else 0
theorem bI_t {P : Prop} [Decidable P] (h : P) : bI P = 1 := if_pos h
theorem bI_f {P : Prop} [Decidable P] (h : ¬ P) : bI P = 0 := if_neg h
theorem bI_01 (P : Prop) [Decidable P] : bI P = 0 ∨ bI P = 1 := by by_cases h : P; exact Or.inr (bI_t h); exact Or.inl (bI_f h)
theorem bI_0 {P : Prop} [Decidable P] : bI P = 0 ↔ ¬ P := by
  by_cases h : P
  · rw [bI_t h]; exact ⟨fun e => absurd e (by decide), fun e => absurd h e⟩
  · rw [bI_f h]; exact ⟨fun _ => h, fun _ => rfl⟩
def jM (p : Program) (l : Launch) (e : Env) (R : Room) (s : State) (m : MethodId) (args : Array Value) (below : List Frame) (meth : Method) (c : Code) (D : va_G) (cy : Nat → ClassId) (A : Nat → Prop) (nL : Nat) (Q : State → Prop) (m0 : Nat) (ad : Nat → Nat) (h0 : jH) (S : Nat → Nat → Int32) (lv : List (Nat × Value)) (pc : Nat) (st : List Value) : Prop := ∀ h, Mv m0 ad h S → Fm m0 ad h0 h → jW p l e R s m args below meth c D cy A nL 0 0 Q h lv pc st
section MROWS
variable {p : Program} {l : Launch} {e : Env} {R : Room} {s : State} {m : MethodId} {args : Array Value} {below : List Frame} {meth : Method} {c : Code} {D : va_G} {cy : Nat → ClassId} {A : Nat → Prop} {nL : Nat} {Q : State → Prop} {cc : ByteArray} {m0 : Nat} {ad : Nat → Nat} {h0 : jH} {S : Nat → Nat → Int32} {lv lv' : List (Nat × Value)} {pc : Nat} {st : List Value}
theorem jm_iconst (C : jC p s m args meth c D cy A nL RX11 cc) {n : Int} {v : Int32} (hd : decode cc pc = .ok (.iconst n, 1)) (hv : Int32.ofInt n = v) (k : jM p l e R s m args below meth c D cy A nL Q m0 ad h0 S lv (pc + 1) (.int v :: st)) : jM p l e R s m args below meth c D cy A nL Q m0 ad h0 S lv pc (st) := fun h hM hF => j_iconst C hd hv (k h hM hF)
theorem jm_bipush (C : jC p s m args meth c D cy A nL RX11 cc) {n : Int} {v : Int32} (hd : decode cc pc = .ok (.bipush n, 2)) (hv : (Int8.ofInt n).toInt32 = v) (k : jM p l e R s m args below meth c D cy A nL Q m0 ad h0 S lv (pc + 2) (.int v :: st)) : jM p l e R s m args below meth c D cy A nL Q m0 ad h0 S lv pc (st) := fun h hM hF => j_bipush C hd hv (k h hM hF)
theorem jm_sipush (C : jC p s m args meth c D cy A nL RX11 cc) {n : Int} {v : Int32} (hd : decode cc pc = .ok (.sipush n, 3)) (hv : (Int16.ofInt n).toInt32 = v) (k : jM p l e R s m args below meth c D cy A nL Q m0 ad h0 S lv (pc + 3) (.int v :: st)) : jM p l e R s m args below meth c D cy A nL Q m0 ad h0 S lv pc (st) := fun h hM hF => j_sipush C hd hv (k h hM hF)
theorem jm_lconst (C : jC p s m args meth c D cy A nL RX11 cc) {n : Fin 2} {v : Int64} (hd : decode cc pc = .ok (.lconst n, 1)) (hv : Int64.ofNat (n : Nat) = v) (k : jM p l e R s m args below meth c D cy A nL Q m0 ad h0 S lv (pc + 1) (.long v :: st)) : jM p l e R s m args below meth c D cy A nL Q m0 ad h0 S lv pc (st) := fun h hM hF => j_lconst C hd hv (k h hM hF)
theorem jm_null (C : jC p s m args meth c D cy A nL RX11 cc)  (hd : decode cc pc = .ok (.aconst_null, 1)) (k : jM p l e R s m args below meth c D cy A nL Q m0 ad h0 S lv (pc + 1) (.null :: st)) : jM p l e R s m args below meth c D cy A nL Q m0 ad h0 S lv pc (st) := fun h hM hF => j_null C hd (k h hM hF)
theorem jm_ldc (C : jC p s m args meth c D cy A nL RX11 cc) {i : Nat} {v : Int32} (hd : decode cc pc = .ok (.ldc i, 2)) (hv : Cond.constant RX11 i v ∈ wall) (k : jM p l e R s m args below meth c D cy A nL Q m0 ad h0 S lv (pc + 2) (.int v :: st)) : jM p l e R s m args below meth c D cy A nL Q m0 ad h0 S lv pc (st) := fun h hM hF => j_ldc C hd hv (k h hM hF)
theorem jm_ldc2 (C : jC p s m args meth c D cy A nL RX11 cc) {i : Nat} {v : Int64} (hd : decode cc pc = .ok (.ldc2_w i, 3)) (hv : Cond.constantLong RX11 i v ∈ wall) (k : jM p l e R s m args below meth c D cy A nL Q m0 ad h0 S lv (pc + 3) (.long v :: st)) : jM p l e R s m args below meth c D cy A nL Q m0 ad h0 S lv pc (st) := fun h hM hF => j_ldc2 C hd hv (k h hM hF)
theorem jm_iload (C : jC p s m args meth c D cy A nL RX11 cc) {i : Nat} {x : Int32} (hd : decode cc pc = .ok (.iload i, 2)) (hg : jg lv i = some (.int x)) (k : jM p l e R s m args below meth c D cy A nL Q m0 ad h0 S lv (pc + 2) (.int x :: st)) : jM p l e R s m args below meth c D cy A nL Q m0 ad h0 S lv pc (st) := fun h hM hF => j_iload C hd hg (k h hM hF)
theorem jm_iload_n (C : jC p s m args meth c D cy A nL RX11 cc) {n : Fin 4} {x : Int32} (hd : decode cc pc = .ok (.iload_n n, 1)) (hg : jg lv n.val = some (.int x)) (k : jM p l e R s m args below meth c D cy A nL Q m0 ad h0 S lv (pc + 1) (.int x :: st)) : jM p l e R s m args below meth c D cy A nL Q m0 ad h0 S lv pc (st) := fun h hM hF => j_iload_n C hd hg (k h hM hF)
theorem jm_aload (C : jC p s m args meth c D cy A nL RX11 cc) {i : Nat} {x : Nat} (hd : decode cc pc = .ok (.aload i, 2)) (hg : jg lv i = some (.ref x)) (k : jM p l e R s m args below meth c D cy A nL Q m0 ad h0 S lv (pc + 2) (.ref x :: st)) : jM p l e R s m args below meth c D cy A nL Q m0 ad h0 S lv pc (st) := fun h hM hF => j_aload C hd hg (k h hM hF)
theorem jm_aload_n (C : jC p s m args meth c D cy A nL RX11 cc) {n : Fin 4} {x : Nat} (hd : decode cc pc = .ok (.aload_n n, 1)) (hg : jg lv n.val = some (.ref x)) (k : jM p l e R s m args below meth c D cy A nL Q m0 ad h0 S lv (pc + 1) (.ref x :: st)) : jM p l e R s m args below meth c D cy A nL Q m0 ad h0 S lv pc (st) := fun h hM hF => j_aload_n C hd hg (k h hM hF)
theorem jm_lload (C : jC p s m args meth c D cy A nL RX11 cc) {i : Nat} {x : Int64} (hd : decode cc pc = .ok (.lload i, 2)) (hg : jg lv i = some (.long x)) (k : jM p l e R s m args below meth c D cy A nL Q m0 ad h0 S lv (pc + 2) (.long x :: st)) : jM p l e R s m args below meth c D cy A nL Q m0 ad h0 S lv pc (st) := fun h hM hF => j_lload C hd hg (k h hM hF)
theorem jm_lload_n (C : jC p s m args meth c D cy A nL RX11 cc) {n : Fin 4} {x : Int64} (hd : decode cc pc = .ok (.lload_n n, 1)) (hg : jg lv n.val = some (.long x)) (k : jM p l e R s m args below meth c D cy A nL Q m0 ad h0 S lv (pc + 1) (.long x :: st)) : jM p l e R s m args below meth c D cy A nL Q m0 ad h0 S lv pc (st) := fun h hM hF => j_lload_n C hd hg (k h hM hF)
theorem jm_aloadN (C : jC p s m args meth c D cy A nL RX11 cc) {i : Nat} (hd : decode cc pc = .ok (.aload i, 2)) (hg : jg lv i = some .null) (k : jM p l e R s m args below meth c D cy A nL Q m0 ad h0 S lv (pc + 2) (.null :: st)) : jM p l e R s m args below meth c D cy A nL Q m0 ad h0 S lv pc (st) := fun h hM hF => j_aloadN C hd hg (k h hM hF)
theorem jm_aload_nN (C : jC p s m args meth c D cy A nL RX11 cc) {n : Fin 4} (hd : decode cc pc = .ok (.aload_n n, 1)) (hg : jg lv n.val = some .null) (k : jM p l e R s m args below meth c D cy A nL Q m0 ad h0 S lv (pc + 1) (.null :: st)) : jM p l e R s m args below meth c D cy A nL Q m0 ad h0 S lv pc (st) := fun h hM hF => j_aload_nN C hd hg (k h hM hF)
theorem jm_istore (C : jC p s m args meth c D cy A nL RX11 cc) {i : Nat} {x : Int32} (hd : decode cc pc = .ok (.istore i, 2)) (hn : i < nL) (he : js lv i (.int x) = lv') (k : jM p l e R s m args below meth c D cy A nL Q m0 ad h0 S lv' (pc + 2) st) : jM p l e R s m args below meth c D cy A nL Q m0 ad h0 S lv pc (.int x :: st) := fun h hM hF => j_istore C hd hn he (k h hM hF)
theorem jm_istore_n (C : jC p s m args meth c D cy A nL RX11 cc) {n : Fin 4} {x : Int32} (hd : decode cc pc = .ok (.istore_n n, 1)) (hn : n.val < nL) (he : js lv n.val (.int x) = lv') (k : jM p l e R s m args below meth c D cy A nL Q m0 ad h0 S lv' (pc + 1) st) : jM p l e R s m args below meth c D cy A nL Q m0 ad h0 S lv pc (.int x :: st) := fun h hM hF => j_istore_n C hd hn he (k h hM hF)
theorem jm_astore (C : jC p s m args meth c D cy A nL RX11 cc) {i : Nat} {x : Nat} (hd : decode cc pc = .ok (.astore i, 2)) (hn : i < nL) (he : js lv i (.ref x) = lv') (k : jM p l e R s m args below meth c D cy A nL Q m0 ad h0 S lv' (pc + 2) st) : jM p l e R s m args below meth c D cy A nL Q m0 ad h0 S lv pc (.ref x :: st) := fun h hM hF => j_astore C hd hn he (k h hM hF)
theorem jm_astore_n (C : jC p s m args meth c D cy A nL RX11 cc) {n : Fin 4} {x : Nat} (hd : decode cc pc = .ok (.astore_n n, 1)) (hn : n.val < nL) (he : js lv n.val (.ref x) = lv') (k : jM p l e R s m args below meth c D cy A nL Q m0 ad h0 S lv' (pc + 1) st) : jM p l e R s m args below meth c D cy A nL Q m0 ad h0 S lv pc (.ref x :: st) := fun h hM hF => j_astore_n C hd hn he (k h hM hF)
theorem jm_lstore (C : jC p s m args meth c D cy A nL RX11 cc) {i : Nat} {x : Int64} (hd : decode cc pc = .ok (.lstore i, 2)) (hn : i + 1 < nL) (he : js2 lv i (.long x) = lv') (k : jM p l e R s m args below meth c D cy A nL Q m0 ad h0 S lv' (pc + 2) st) : jM p l e R s m args below meth c D cy A nL Q m0 ad h0 S lv pc (.long x :: st) := fun h hM hF => j_lstore C hd hn he (k h hM hF)
theorem jm_astoreN (C : jC p s m args meth c D cy A nL RX11 cc) {i : Nat} (hd : decode cc pc = .ok (.astore i, 2)) (hn : i < nL) (he : js lv i .null = lv') (k : jM p l e R s m args below meth c D cy A nL Q m0 ad h0 S lv' (pc + 2) st) : jM p l e R s m args below meth c D cy A nL Q m0 ad h0 S lv pc (.null :: st) := fun h hM hF => j_astoreN C hd hn he (k h hM hF)
theorem jm_astore_nN (C : jC p s m args meth c D cy A nL RX11 cc) {n : Fin 4} (hd : decode cc pc = .ok (.astore_n n, 1)) (hn : n.val < nL) (he : js lv n.val .null = lv') (k : jM p l e R s m args below meth c D cy A nL Q m0 ad h0 S lv' (pc + 1) st) : jM p l e R s m args below meth c D cy A nL Q m0 ad h0 S lv pc (.null :: st) := fun h hM hF => j_astore_nN C hd hn he (k h hM hF)
theorem jm_iinc (C : jC p s m args meth c D cy A nL RX11 cc) {i : Nat} {n : Int} {x v : Int32} (hd : decode cc pc = .ok (.iinc i n, 3)) (hg : jg lv i = some (.int x)) (hv : x + Int32.ofInt n = v) (hn : i < nL) (he : js lv i (.int v) = lv') (k : jM p l e R s m args below meth c D cy A nL Q m0 ad h0 S lv' (pc + 3) st) : jM p l e R s m args below meth c D cy A nL Q m0 ad h0 S lv pc st := fun h hM hF => j_iinc C hd hg hv hn he (k h hM hF)
theorem jm_iadd (C : jC p s m args meth c D cy A nL RX11 cc) {x y : Int32} (hd : decode cc pc = .ok (.iadd, 1)) (k : jM p l e R s m args below meth c D cy A nL Q m0 ad h0 S lv (pc + 1) (.int (x + y) :: st)) : jM p l e R s m args below meth c D cy A nL Q m0 ad h0 S lv pc (.int y :: .int x :: st) := fun h hM hF => j_iadd C hd (k h hM hF)
theorem jm_isub (C : jC p s m args meth c D cy A nL RX11 cc) {x y : Int32} (hd : decode cc pc = .ok (.isub, 1)) (k : jM p l e R s m args below meth c D cy A nL Q m0 ad h0 S lv (pc + 1) (.int (x - y) :: st)) : jM p l e R s m args below meth c D cy A nL Q m0 ad h0 S lv pc (.int y :: .int x :: st) := fun h hM hF => j_isub C hd (k h hM hF)
theorem jm_imul (C : jC p s m args meth c D cy A nL RX11 cc) {x y : Int32} (hd : decode cc pc = .ok (.imul, 1)) (k : jM p l e R s m args below meth c D cy A nL Q m0 ad h0 S lv (pc + 1) (.int (x * y) :: st)) : jM p l e R s m args below meth c D cy A nL Q m0 ad h0 S lv pc (.int y :: .int x :: st) := fun h hM hF => j_imul C hd (k h hM hF)
theorem jm_iand (C : jC p s m args meth c D cy A nL RX11 cc) {x y : Int32} (hd : decode cc pc = .ok (.iand, 1)) (k : jM p l e R s m args below meth c D cy A nL Q m0 ad h0 S lv (pc + 1) (.int (x &&& y) :: st)) : jM p l e R s m args below meth c D cy A nL Q m0 ad h0 S lv pc (.int y :: .int x :: st) := fun h hM hF => j_iand C hd (k h hM hF)
theorem jm_ior (C : jC p s m args meth c D cy A nL RX11 cc) {x y : Int32} (hd : decode cc pc = .ok (.ior, 1)) (k : jM p l e R s m args below meth c D cy A nL Q m0 ad h0 S lv (pc + 1) (.int (x ||| y) :: st)) : jM p l e R s m args below meth c D cy A nL Q m0 ad h0 S lv pc (.int y :: .int x :: st) := fun h hM hF => j_ior C hd (k h hM hF)
theorem jm_ladd (C : jC p s m args meth c D cy A nL RX11 cc) {x y : Int64} (hd : decode cc pc = .ok (.ladd, 1)) (k : jM p l e R s m args below meth c D cy A nL Q m0 ad h0 S lv (pc + 1) (.long (x + y) :: st)) : jM p l e R s m args below meth c D cy A nL Q m0 ad h0 S lv pc (.long y :: .long x :: st) := fun h hM hF => j_ladd C hd (k h hM hF)
theorem jm_lmul (C : jC p s m args meth c D cy A nL RX11 cc) {x y : Int64} (hd : decode cc pc = .ok (.lmul, 1)) (k : jM p l e R s m args below meth c D cy A nL Q m0 ad h0 S lv (pc + 1) (.long (x * y) :: st)) : jM p l e R s m args below meth c D cy A nL Q m0 ad h0 S lv pc (.long y :: .long x :: st) := fun h hM hF => j_lmul C hd (k h hM hF)
theorem jm_lor (C : jC p s m args meth c D cy A nL RX11 cc) {x y : Int64} (hd : decode cc pc = .ok (.lor, 1)) (k : jM p l e R s m args below meth c D cy A nL Q m0 ad h0 S lv (pc + 1) (.long (x ||| y) :: st)) : jM p l e R s m args below meth c D cy A nL Q m0 ad h0 S lv pc (.long y :: .long x :: st) := fun h hM hF => j_lor C hd (k h hM hF)
theorem jm_land (C : jC p s m args meth c D cy A nL RX11 cc) {x y : Int64} (hd : decode cc pc = .ok (.land, 1)) (k : jM p l e R s m args below meth c D cy A nL Q m0 ad h0 S lv (pc + 1) (.long (x &&& y) :: st)) : jM p l e R s m args below meth c D cy A nL Q m0 ad h0 S lv pc (.long y :: .long x :: st) := fun h hM hF => j_land C hd (k h hM hF)
theorem jm_irem (C : jC p s m args meth c D cy A nL RX11 cc) {x y : Int32} (hd : decode cc pc = .ok (.irem, 1)) (hne : ¬ y = 0) (k : jM p l e R s m args below meth c D cy A nL Q m0 ad h0 S lv (pc + 1) (.int (x - x / y * y) :: st)) : jM p l e R s m args below meth c D cy A nL Q m0 ad h0 S lv pc (.int y :: .int x :: st) := fun h hM hF => j_irem C hd hne (k h hM hF)
theorem jm_idiv (C : jC p s m args meth c D cy A nL RX11 cc) {x y : Int32} (hd : decode cc pc = .ok (.idiv, 1)) (hne : ¬ y = 0) (k : jM p l e R s m args below meth c D cy A nL Q m0 ad h0 S lv (pc + 1) (.int (x / y) :: st)) : jM p l e R s m args below meth c D cy A nL Q m0 ad h0 S lv pc (.int y :: .int x :: st) := fun h hM hF => j_idiv C hd hne (k h hM hF)
theorem jm_lrem (C : jC p s m args meth c D cy A nL RX11 cc) {x y : Int64} (hd : decode cc pc = .ok (.lrem, 1)) (hne : ¬ y = 0) (k : jM p l e R s m args below meth c D cy A nL Q m0 ad h0 S lv (pc + 1) (.long (x - x / y * y) :: st)) : jM p l e R s m args below meth c D cy A nL Q m0 ad h0 S lv pc (.long y :: .long x :: st) := fun h hM hF => j_lrem C hd hne (k h hM hF)
theorem jm_ishl (C : jC p s m args meth c D cy A nL RX11 cc) {x y : Int32} (hd : decode cc pc = .ok (.ishl, 1)) (k : jM p l e R s m args below meth c D cy A nL Q m0 ad h0 S lv (pc + 1) (.int (x <<< (y &&& 31)) :: st)) : jM p l e R s m args below meth c D cy A nL Q m0 ad h0 S lv pc (.int y :: .int x :: st) := fun h hM hF => j_ishl C hd (k h hM hF)
theorem jm_ishr (C : jC p s m args meth c D cy A nL RX11 cc) {x y : Int32} (hd : decode cc pc = .ok (.ishr, 1)) (k : jM p l e R s m args below meth c D cy A nL Q m0 ad h0 S lv (pc + 1) (.int (x >>> (y &&& 31)) :: st)) : jM p l e R s m args below meth c D cy A nL Q m0 ad h0 S lv pc (.int y :: .int x :: st) := fun h hM hF => j_ishr C hd (k h hM hF)
theorem jm_i2l (C : jC p s m args meth c D cy A nL RX11 cc) {x : Int32} (hd : decode cc pc = .ok (.i2l, 1)) (k : jM p l e R s m args below meth c D cy A nL Q m0 ad h0 S lv (pc + 1) (.long x.toInt64 :: st)) : jM p l e R s m args below meth c D cy A nL Q m0 ad h0 S lv pc (.int x :: st) := fun h hM hF => j_i2l C hd (k h hM hF)
theorem jm_l2i (C : jC p s m args meth c D cy A nL RX11 cc) {x : Int64} (hd : decode cc pc = .ok (.l2i, 1)) (k : jM p l e R s m args below meth c D cy A nL Q m0 ad h0 S lv (pc + 1) (.int x.toInt32 :: st)) : jM p l e R s m args below meth c D cy A nL Q m0 ad h0 S lv pc (.long x :: st) := fun h hM hF => j_l2i C hd (k h hM hF)
theorem jm_lushr (C : jC p s m args meth c D cy A nL RX11 cc) {x : Int64} {y : Int32} (hd : decode cc pc = .ok (.lushr, 1)) (k : jM p l e R s m args below meth c D cy A nL Q m0 ad h0 S lv (pc + 1) (.long (x.toUInt64 >>> (y.toInt64.toUInt64 &&& Int64.toUInt64 63)).toInt64 :: st)) : jM p l e R s m args below meth c D cy A nL Q m0 ad h0 S lv pc (.int y :: .long x :: st) := fun h hM hF => j_lushr C hd (k h hM hF)
theorem jm_dup (C : jC p s m args meth c D cy A nL RX11 cc) {v : Value} (hd : decode cc pc = .ok (.dup, 1)) (hv : v.category = 1) (k : jM p l e R s m args below meth c D cy A nL Q m0 ad h0 S lv (pc + 1) (v :: v :: st)) : jM p l e R s m args below meth c D cy A nL Q m0 ad h0 S lv pc (v :: st) := fun h hM hF => j_dup C hd hv (k h hM hF)
theorem jm_pop (C : jC p s m args meth c D cy A nL RX11 cc) {v : Value} (hd : decode cc pc = .ok (.pop, 1)) (hv : v.category = 1) (k : jM p l e R s m args below meth c D cy A nL Q m0 ad h0 S lv (pc + 1) (st)) : jM p l e R s m args below meth c D cy A nL Q m0 ad h0 S lv pc (v :: st) := fun h hM hF => j_pop C hd hv (k h hM hF)
theorem jm_dup2 (C : jC p s m args meth c D cy A nL RX11 cc) {v w : Value} (hd : decode cc pc = .ok (.dup2, 1)) (hv : v.category = 1) (hw : w.category = 1) (k : jM p l e R s m args below meth c D cy A nL Q m0 ad h0 S lv (pc + 1) (v :: w :: v :: w :: st)) : jM p l e R s m args below meth c D cy A nL Q m0 ad h0 S lv pc (v :: w :: st) := fun h hM hF => j_dup2 C hd hv hw (k h hM hF)
theorem jm_goto (C : jC p s m args meth c D cy A nL RX11 cc) {off : Int} {tgt : Nat} (hd : decode cc pc = .ok (.goto off, 3)) (ht : (pc : Int) + off = (tgt : Int)) (k : jM p l e R s m args below meth c D cy A nL Q m0 ad h0 S lv tgt st) : jM p l e R s m args below meth c D cy A nL Q m0 ad h0 S lv pc st := fun h hM hF => j_goto C hd ht (k h hM hF)
theorem jm_if_eq (C : jC p s m args meth c D cy A nL RX11 cc) {x : Int32} {off : Int} {tgt : Nat} (hd : decode cc pc = .ok (.ifCond .eq off, 3)) (ht : (pc : Int) + off = (tgt : Int)) (kt : x = 0 → jM p l e R s m args below meth c D cy A nL Q m0 ad h0 S lv tgt st) (kf : ¬ x = 0 → jM p l e R s m args below meth c D cy A nL Q m0 ad h0 S lv (pc + 3) st) : jM p l e R s m args below meth c D cy A nL Q m0 ad h0 S lv pc (.int x :: st) := fun h hM hF => j_if_eq C hd ht (fun z => kt z h hM hF) (fun z => kf z h hM hF)
theorem jm_icmp_eq (C : jC p s m args meth c D cy A nL RX11 cc) {x y : Int32} {off : Int} {tgt : Nat} (hd : decode cc pc = .ok (.if_icmp .eq off, 3)) (ht : (pc : Int) + off = (tgt : Int)) (kt : x = y → jM p l e R s m args below meth c D cy A nL Q m0 ad h0 S lv tgt st) (kf : ¬ x = y → jM p l e R s m args below meth c D cy A nL Q m0 ad h0 S lv (pc + 3) st) : jM p l e R s m args below meth c D cy A nL Q m0 ad h0 S lv pc (.int y :: .int x :: st) := fun h hM hF => j_icmp_eq C hd ht (fun z => kt z h hM hF) (fun z => kf z h hM hF)
theorem jm_if_ne (C : jC p s m args meth c D cy A nL RX11 cc) {x : Int32} {off : Int} {tgt : Nat} (hd : decode cc pc = .ok (.ifCond .ne off, 3)) (ht : (pc : Int) + off = (tgt : Int)) (kt : ¬ x = 0 → jM p l e R s m args below meth c D cy A nL Q m0 ad h0 S lv tgt st) (kf : x = 0 → jM p l e R s m args below meth c D cy A nL Q m0 ad h0 S lv (pc + 3) st) : jM p l e R s m args below meth c D cy A nL Q m0 ad h0 S lv pc (.int x :: st) := fun h hM hF => j_if_ne C hd ht (fun z => kt z h hM hF) (fun z => kf z h hM hF)
theorem jm_icmp_ne (C : jC p s m args meth c D cy A nL RX11 cc) {x y : Int32} {off : Int} {tgt : Nat} (hd : decode cc pc = .ok (.if_icmp .ne off, 3)) (ht : (pc : Int) + off = (tgt : Int)) (kt : ¬ x = y → jM p l e R s m args below meth c D cy A nL Q m0 ad h0 S lv tgt st) (kf : x = y → jM p l e R s m args below meth c D cy A nL Q m0 ad h0 S lv (pc + 3) st) : jM p l e R s m args below meth c D cy A nL Q m0 ad h0 S lv pc (.int y :: .int x :: st) := fun h hM hF => j_icmp_ne C hd ht (fun z => kt z h hM hF) (fun z => kf z h hM hF)
theorem jm_if_lt (C : jC p s m args meth c D cy A nL RX11 cc) {x : Int32} {off : Int} {tgt : Nat} (hd : decode cc pc = .ok (.ifCond .lt off, 3)) (ht : (pc : Int) + off = (tgt : Int)) (kt : x < 0 → jM p l e R s m args below meth c D cy A nL Q m0 ad h0 S lv tgt st) (kf : ¬ x < 0 → jM p l e R s m args below meth c D cy A nL Q m0 ad h0 S lv (pc + 3) st) : jM p l e R s m args below meth c D cy A nL Q m0 ad h0 S lv pc (.int x :: st) := fun h hM hF => j_if_lt C hd ht (fun z => kt z h hM hF) (fun z => kf z h hM hF)
theorem jm_icmp_lt (C : jC p s m args meth c D cy A nL RX11 cc) {x y : Int32} {off : Int} {tgt : Nat} (hd : decode cc pc = .ok (.if_icmp .lt off, 3)) (ht : (pc : Int) + off = (tgt : Int)) (kt : x < y → jM p l e R s m args below meth c D cy A nL Q m0 ad h0 S lv tgt st) (kf : ¬ x < y → jM p l e R s m args below meth c D cy A nL Q m0 ad h0 S lv (pc + 3) st) : jM p l e R s m args below meth c D cy A nL Q m0 ad h0 S lv pc (.int y :: .int x :: st) := fun h hM hF => j_icmp_lt C hd ht (fun z => kt z h hM hF) (fun z => kf z h hM hF)
theorem jm_if_ge (C : jC p s m args meth c D cy A nL RX11 cc) {x : Int32} {off : Int} {tgt : Nat} (hd : decode cc pc = .ok (.ifCond .ge off, 3)) (ht : (pc : Int) + off = (tgt : Int)) (kt : 0 ≤ x → jM p l e R s m args below meth c D cy A nL Q m0 ad h0 S lv tgt st) (kf : ¬ 0 ≤ x → jM p l e R s m args below meth c D cy A nL Q m0 ad h0 S lv (pc + 3) st) : jM p l e R s m args below meth c D cy A nL Q m0 ad h0 S lv pc (.int x :: st) := fun h hM hF => j_if_ge C hd ht (fun z => kt z h hM hF) (fun z => kf z h hM hF)
theorem jm_icmp_ge (C : jC p s m args meth c D cy A nL RX11 cc) {x y : Int32} {off : Int} {tgt : Nat} (hd : decode cc pc = .ok (.if_icmp .ge off, 3)) (ht : (pc : Int) + off = (tgt : Int)) (kt : y ≤ x → jM p l e R s m args below meth c D cy A nL Q m0 ad h0 S lv tgt st) (kf : ¬ y ≤ x → jM p l e R s m args below meth c D cy A nL Q m0 ad h0 S lv (pc + 3) st) : jM p l e R s m args below meth c D cy A nL Q m0 ad h0 S lv pc (.int y :: .int x :: st) := fun h hM hF => j_icmp_ge C hd ht (fun z => kt z h hM hF) (fun z => kf z h hM hF)
theorem jm_if_gt (C : jC p s m args meth c D cy A nL RX11 cc) {x : Int32} {off : Int} {tgt : Nat} (hd : decode cc pc = .ok (.ifCond .gt off, 3)) (ht : (pc : Int) + off = (tgt : Int)) (kt : 0 < x → jM p l e R s m args below meth c D cy A nL Q m0 ad h0 S lv tgt st) (kf : ¬ 0 < x → jM p l e R s m args below meth c D cy A nL Q m0 ad h0 S lv (pc + 3) st) : jM p l e R s m args below meth c D cy A nL Q m0 ad h0 S lv pc (.int x :: st) := fun h hM hF => j_if_gt C hd ht (fun z => kt z h hM hF) (fun z => kf z h hM hF)
theorem jm_icmp_gt (C : jC p s m args meth c D cy A nL RX11 cc) {x y : Int32} {off : Int} {tgt : Nat} (hd : decode cc pc = .ok (.if_icmp .gt off, 3)) (ht : (pc : Int) + off = (tgt : Int)) (kt : y < x → jM p l e R s m args below meth c D cy A nL Q m0 ad h0 S lv tgt st) (kf : ¬ y < x → jM p l e R s m args below meth c D cy A nL Q m0 ad h0 S lv (pc + 3) st) : jM p l e R s m args below meth c D cy A nL Q m0 ad h0 S lv pc (.int y :: .int x :: st) := fun h hM hF => j_icmp_gt C hd ht (fun z => kt z h hM hF) (fun z => kf z h hM hF)
theorem jm_if_le (C : jC p s m args meth c D cy A nL RX11 cc) {x : Int32} {off : Int} {tgt : Nat} (hd : decode cc pc = .ok (.ifCond .le off, 3)) (ht : (pc : Int) + off = (tgt : Int)) (kt : x ≤ 0 → jM p l e R s m args below meth c D cy A nL Q m0 ad h0 S lv tgt st) (kf : ¬ x ≤ 0 → jM p l e R s m args below meth c D cy A nL Q m0 ad h0 S lv (pc + 3) st) : jM p l e R s m args below meth c D cy A nL Q m0 ad h0 S lv pc (.int x :: st) := fun h hM hF => j_if_le C hd ht (fun z => kt z h hM hF) (fun z => kf z h hM hF)
theorem jm_icmp_le (C : jC p s m args meth c D cy A nL RX11 cc) {x y : Int32} {off : Int} {tgt : Nat} (hd : decode cc pc = .ok (.if_icmp .le off, 3)) (ht : (pc : Int) + off = (tgt : Int)) (kt : x ≤ y → jM p l e R s m args below meth c D cy A nL Q m0 ad h0 S lv tgt st) (kf : ¬ x ≤ y → jM p l e R s m args below meth c D cy A nL Q m0 ad h0 S lv (pc + 3) st) : jM p l e R s m args below meth c D cy A nL Q m0 ad h0 S lv pc (.int y :: .int x :: st) := fun h hM hF => j_icmp_le C hd ht (fun z => kt z h hM hF) (fun z => kf z h hM hF)
theorem jm_acmp_eq (C : jC p s m args meth c D cy A nL RX11 cc) {rx ry : Option Nat} {off : Int} {tgt : Nat} (hd : decode cc pc = .ok (.if_acmp .eq off, 3)) (ht : (pc : Int) + off = (tgt : Int)) (kt : rx = ry → jM p l e R s m args below meth c D cy A nL Q m0 ad h0 S lv tgt st) (kf : ¬ rx = ry → jM p l e R s m args below meth c D cy A nL Q m0 ad h0 S lv (pc + 3) st) : jM p l e R s m args below meth c D cy A nL Q m0 ad h0 S lv pc (va_rf ry :: va_rf rx :: st) := fun h hM hF => j_acmp_eq C hd ht (fun z => kt z h hM hF) (fun z => kf z h hM hF)
theorem jm_acmp_ne (C : jC p s m args meth c D cy A nL RX11 cc) {rx ry : Option Nat} {off : Int} {tgt : Nat} (hd : decode cc pc = .ok (.if_acmp .ne off, 3)) (ht : (pc : Int) + off = (tgt : Int)) (kt : ¬ rx = ry → jM p l e R s m args below meth c D cy A nL Q m0 ad h0 S lv tgt st) (kf : rx = ry → jM p l e R s m args below meth c D cy A nL Q m0 ad h0 S lv (pc + 3) st) : jM p l e R s m args below meth c D cy A nL Q m0 ad h0 S lv pc (va_rf ry :: va_rf rx :: st) := fun h hM hF => j_acmp_ne C hd ht (fun z => kt z h hM hF) (fun z => kf z h hM hF)
theorem jm_ifnull (C : jC p s m args meth c D cy A nL RX11 cc) {x : Nat} {off : Int} (hd : decode cc pc = .ok (.ifnull off, 3)) (k : jM p l e R s m args below meth c D cy A nL Q m0 ad h0 S lv (pc + 3) st) : jM p l e R s m args below meth c D cy A nL Q m0 ad h0 S lv pc (.ref x :: st) := fun h hM hF => j_ifnull C hd (k h hM hF)
theorem jm_ifnullN (C : jC p s m args meth c D cy A nL RX11 cc) {off : Int} {tgt : Nat} (hd : decode cc pc = .ok (.ifnull off, 3)) (ht : (pc : Int) + off = (tgt : Int)) (k : jM p l e R s m args below meth c D cy A nL Q m0 ad h0 S lv tgt st) : jM p l e R s m args below meth c D cy A nL Q m0 ad h0 S lv pc (.null :: st) := fun h hM hF => j_ifnullN C hd ht (k h hM hF)
theorem jm_ifnonnull (C : jC p s m args meth c D cy A nL RX11 cc) {x : Nat} {off : Int} {tgt : Nat} (hd : decode cc pc = .ok (.ifnonnull off, 3)) (ht : (pc : Int) + off = (tgt : Int)) (k : jM p l e R s m args below meth c D cy A nL Q m0 ad h0 S lv tgt st) : jM p l e R s m args below meth c D cy A nL Q m0 ad h0 S lv pc (.ref x :: st) := fun h hM hF => j_ifnonnull C hd ht (k h hM hF)
theorem jm_ifnonnullN (C : jC p s m args meth c D cy A nL RX11 cc) {off : Int} (hd : decode cc pc = .ok (.ifnonnull off, 3)) (k : jM p l e R s m args below meth c D cy A nL Q m0 ad h0 S lv (pc + 3) st) : jM p l e R s m args below meth c D cy A nL Q m0 ad h0 S lv pc (.null :: st) := fun h hM hF => j_ifnonnullN C hd (k h hM hF)
theorem jm_getS (C : jC p s m args meth c D cy A nL RX11 cc) {index k : Nat} (F : jF RX11 index 11 k false) (hk : k < 9) (hd : decode cc pc = .ok (.getfield index, 3)) (kk : jM p l e R s m args below meth c D cy A nL Q m0 ad h0 S lv (pc + 3) (.int (S k 0) :: st)) : jM p l e R s m args below meth c D cy A nL Q m0 ad h0 S lv pc (.ref m0 :: st) := fun h hM hF => j_getI C F hM.1 hd (by rw [hM.2.1 k hk]; exact kk h hM hF)
theorem jm_getSe (C : jC p s m args meth c D cy A nL RX11 cc) {index k : Nat} {v : Int32} (F : jF RX11 index 11 k false) (hk : k < 9) (hv : S k 0 = v) (hd : decode cc pc = .ok (.getfield index, 3)) (kk : jM p l e R s m args below meth c D cy A nL Q m0 ad h0 S lv (pc + 3) (.int v :: st)) : jM p l e R s m args below meth c D cy A nL Q m0 ad h0 S lv pc (.ref m0 :: st) := jm_getS C F hk hd (by rw [hv]; exact kk)
theorem jm_getA (C : jC p s m args meth c D cy A nL RX11 cc) {index k : Nat} (F : jF RX11 index 11 k true) (h1 : 9 ≤ k) (h2 : k < 49) (hd : decode cc pc = .ok (.getfield index, 3)) (kk : jM p l e R s m args below meth c D cy A nL Q m0 ad h0 S lv (pc + 3) (.ref (ad k) :: st)) : jM p l e R s m args below meth c D cy A nL Q m0 ad h0 S lv pc (.ref m0 :: st) := fun h hM hF => j_getR C F hM.1 (v := .ref (ad k)) (by rw [(hM.2.2.1 k h1 h2).1]; rfl) hd (kk h hM hF)
theorem jm_putS (C : jC p s m args meth c D cy A nL RX11 cc) {index k : Nat} {v : Int32} (F : jP RX11 index 11 k false false .int) (hk : k < 9) (hd : decode cc pc = .ok (.putfield index, 3)) (kk : jM p l e R s m args below meth c D cy A nL Q m0 ad h0 (u2 S k 0 v) lv (pc + 3) st) : jM p l e R s m args below meth c D cy A nL Q m0 ad h0 S lv pc (.int v :: .ref m0 :: st) := fun h hM hF => j_putI C F hM.1 rfl rfl hd (kk _ (hM.putS hF hk).1 (hM.putS hF hk).2)
theorem jm_ald (C : jC p s m args meth c D cy A nL RX11 cc) (k : Nat) {n : Nat} {i : Int32} (h1 : 9 ≤ k) (h2 : k < 49) (hn : mlen k = n) (hi : vp_in i n) (hd : decode cc pc = .ok (.iaload, 1)) (kk : jM p l e R s m args below meth c D cy A nL Q m0 ad h0 S lv (pc + 1) (.int (S k i.toNatClampNeg) :: st)) : jM p l e R s m args below meth c D cy A nL Q m0 ad h0 S lv pc (.int i :: .ref (ad k) :: st) := fun h hM hF => j_iald C (hM.2.2.1 k h1 h2).2.1 (by rw [(hM.2.2.1 k h1 h2).2.2.1, hn]; exact hi) hd (by rw [(hM.2.2.1 k h1 h2).2.2.2]; exact kk h hM hF)
theorem jm_ast (C : jC p s m args meth c D cy A nL RX11 cc) (k : Nat) {n : Nat} {i x : Int32} (h1 : 9 ≤ k) (h2 : k < 49) (hn : mlen k = n) (hi : vp_in i n) (hd : decode cc pc = .ok (.iastore, 1)) (kk : jM p l e R s m args below meth c D cy A nL Q m0 ad h0 (u2 S k i.toNatClampNeg x) lv (pc + 1) st) : jM p l e R s m args below meth c D cy A nL Q m0 ad h0 S lv pc (.int x :: .int i :: .ref (ad k) :: st) := fun h hM hF => j_iast C (hM.2.2.1 k h1 h2).2.1 (by rw [(hM.2.2.1 k h1 h2).2.2.1, hn]; exact hi) hd (kk _ (hM.putA hF h1 h2).1 (hM.putA hF h1 h2).2)
theorem jm_aldN (C : jC p s m args meth c D cy A nL RX11 cc) (k : Nat) {n j : Nat} (h1 : 9 ≤ k) (h2 : k < 49) (hn : mlen k = n) (hj : j < n) (hd : decode cc pc = .ok (.iaload, 1)) (kk : jM p l e R s m args below meth c D cy A nL Q m0 ad h0 S lv (pc + 1) (.int (S k j) :: st)) (hb : n < 2 ^ 31 := by decide) : jM p l e R s m args below meth c D cy A nL Q m0 ad h0 S lv pc (.int (nI j) :: .ref (ad k) :: st) := jm_ald C k h1 h2 hn (vp_in_nI hj hb) hd (by rw [nI_clamp (Nat.lt_trans hj hb)]; exact kk)
theorem jm_astN (C : jC p s m args meth c D cy A nL RX11 cc) (k : Nat) {n j : Nat} {x : Int32} (h1 : 9 ≤ k) (h2 : k < 49) (hn : mlen k = n) (hj : j < n) (hd : decode cc pc = .ok (.iastore, 1)) (kk : jM p l e R s m args below meth c D cy A nL Q m0 ad h0 (u2 S k j x) lv (pc + 1) st) (hb : n < 2 ^ 31 := by decide) : jM p l e R s m args below meth c D cy A nL Q m0 ad h0 S lv pc (.int x :: .int (nI j) :: .ref (ad k) :: st) := jm_ast C k h1 h2 hn (vp_in_nI hj hb) hd (by rw [nI_clamp (Nat.lt_trans hj hb)]; exact kk)
theorem jm_ifeq_b (C : jC p s m args meth c D cy A nL RX11 cc) {P : Prop} [Decidable P] {off : Int} {tgt : Nat} (hd : decode cc pc = .ok (.ifCond .eq off, 3)) (ht : (pc : Int) + off = (tgt : Int)) (kt : ¬ P → jM p l e R s m args below meth c D cy A nL Q m0 ad h0 S lv tgt st) (kf : P → jM p l e R s m args below meth c D cy A nL Q m0 ad h0 S lv (pc + 3) st) : jM p l e R s m args below meth c D cy A nL Q m0 ad h0 S lv pc (.int (bI P) :: st) := jm_if_eq C hd ht (fun z => kt (bI_0.mp z)) (fun z => kf (Classical.byContradiction fun q => z (bI_f q)))
theorem jm_ifne_b (C : jC p s m args meth c D cy A nL RX11 cc) {P : Prop} [Decidable P] {off : Int} {tgt : Nat} (hd : decode cc pc = .ok (.ifCond .ne off, 3)) (ht : (pc : Int) + off = (tgt : Int)) (kt : P → jM p l e R s m args below meth c D cy A nL Q m0 ad h0 S lv tgt st) (kf : ¬ P → jM p l e R s m args below meth c D cy A nL Q m0 ad h0 S lv (pc + 3) st) : jM p l e R s m args below meth c D cy A nL Q m0 ad h0 S lv pc (.int (bI P) :: st) := jm_if_ne C hd ht (fun z => kt (Classical.byContradiction fun q => z (bI_f q))) (fun z => kf (bI_0.mp z))
theorem jm_max (C : jC p s m args meth c D cy A nL RX11 cc) {index : Nat} {x y : Int32} (hk : Cond.methodLink RX11 index Lib.Math.max.name ∈ wall) (hd : decode cc pc = .ok (.invokestatic index, 3)) (h1 : 1 ≤ R.frames) (h2 : (st.map fun v => v.category).sum + 13 ≤ R.locals) (k : jM p l e R s m args below meth c D cy A nL Q m0 ad h0 S lv (pc + 3) (.int (if x < y then y else x) :: st)) : jM p l e R s m args below meth c D cy A nL Q m0 ad h0 S lv pc (.int y :: .int x :: st) := fun h hM hF => j_max C hk hd h1 h2 (Nat.zero_le _) (Nat.zero_le _) (k h hM hF)
theorem jm_min (C : jC p s m args meth c D cy A nL RX11 cc) {index : Nat} {x y : Int32} (hk : Cond.methodLink RX11 index Lib.Math.min.name ∈ wall) (hd : decode cc pc = .ok (.invokestatic index, 3)) (h1 : 1 ≤ R.frames) (h2 : (st.map fun v => v.category).sum + 13 ≤ R.locals) (k : jM p l e R s m args below meth c D cy A nL Q m0 ad h0 S lv (pc + 3) (.int (if y < x then y else x) :: st)) : jM p l e R s m args below meth c D cy A nL Q m0 ad h0 S lv pc (.int y :: .int x :: st) := fun h hM hF => j_min C hk hd h1 h2 (Nat.zero_le _) (Nat.zero_le _) (k h hM hF)
end MROWS
/-- contracts of the reference's methods -/
def mI (l : Launch) (D : va_G) (cy : Nat → ClassId) (y : MethodName) (cd : Cond) (d : Nat) (m0 : Nat) (ad : Nat → Nat) (As : List Value) (S : Nat → Nat → Int32) (post : Int32 → (Nat → Nat → Int32) → Prop) : Prop := ∀ h, Mv m0 ad h S → jI l D cy y cd (rmd d 0 0) (.ref m0 :: As) h (fun r h' => ∃ S', post r S' ∧ Mv m0 ad h' S' ∧ Fm m0 ad h h')
def mV (l : Launch) (D : va_G) (cy : Nat → ClassId) (y : MethodName) (cd : Cond) (d : Nat) (m0 : Nat) (ad : Nat → Nat) (As : List Value) (S : Nat → Nat → Int32) (post : (Nat → Nat → Int32) → Prop) : Prop := ∀ h, Mv m0 ad h S → jV l D cy y cd (rmd d 0 0) (.ref m0 :: As) h (fun h' => ∃ S', post S' ∧ Mv m0 ad h' S' ∧ Fm m0 ad h h')
/-- .. of a static one that writes nothing -/
def sI (l : Launch) (D : va_G) (cy : Nat → ClassId) (y : MethodName) (cd : Cond) (d : Nat) (As : List Value) (post : Int32 → Prop) : Prop := ∀ h, jI l D cy y cd (rmd d 0 0) As h (fun r h' => post r ∧ h' = h)
theorem m_ofI {l : Launch} {D : va_G} {cy : Nat → ClassId} {y : MethodName} {cc : ByteArray} {nL d : Nat} {m0 : Nat} {ad : Nat → Nat} {As : List Value} {S : Nat → Nat → Int32} {post : Int32 → (Nat → Nat → Int32) → Prop} (hy : y.cls = RX11) (hlen : (lg_sl (.ref m0 :: As)).length ≤ nL)
    (body : ∀ (p : Program) (e : Env) (s : State) (m : MethodId) (args : Array Value) (below : List Frame) (meth : Method) (c : Code) (A : Nat → Prop) (Q : State → Prop) (h0 : jH), jC p s m args meth c D cy A nL RX11 cc → (∀ (r : Int32) (S' : Nat → Nat → Int32) (lv : List (Nat × Value)) (pc : Nat), post r S' → decode cc pc = .ok (.ireturn, 1) → jM p l e (rmd d 0 0) s m args below meth c D cy A nL Q m0 ad h0 S' lv pc [.int r]) → jM p l e (rmd d 0 0) s m args below meth c D cy A nL Q m0 ad h0 S (lv_args 0 (.ref m0 :: As)) 0 []) : mI l D cy y (.code y cc nL (some .int)) d m0 ad As S post := fun h hM => by
  refine j_ofI (by rw [hy]; decide) hlen (fun p e s m args below meth c Q C hn ret => ?_)
  rw [hy] at C
  exact body p e s m args below meth c _ Q h C (fun r S' lv pc hp hd h' hM' hF' => ret r h' 0 0 lv pc ⟨S', hp, hM', hF'⟩ (Nat.zero_le _) (Nat.zero_le _) hd) h hM Fm.rf
theorem m_ofZ {l : Launch} {D : va_G} {cy : Nat → ClassId} {y : MethodName} {cc : ByteArray} {nL d : Nat} {m0 : Nat} {ad : Nat → Nat} {As : List Value} {S : Nat → Nat → Int32} {post : Int32 → (Nat → Nat → Int32) → Prop} (hy : y.cls = RX11) (hlen : (lg_sl (.ref m0 :: As)).length ≤ nL)
    (body : ∀ (p : Program) (e : Env) (s : State) (m : MethodId) (args : Array Value) (below : List Frame) (meth : Method) (c : Code) (A : Nat → Prop) (Q : State → Prop) (h0 : jH), jC p s m args meth c D cy A nL RX11 cc → (∀ (r : Int32) (S' : Nat → Nat → Int32) (lv : List (Nat × Value)) (pc : Nat), post r S' → (r = 0 ∨ r = 1) → decode cc pc = .ok (.ireturn, 1) → jM p l e (rmd d 0 0) s m args below meth c D cy A nL Q m0 ad h0 S' lv pc [.int r]) → jM p l e (rmd d 0 0) s m args below meth c D cy A nL Q m0 ad h0 S (lv_args 0 (.ref m0 :: As)) 0 []) : mI l D cy y (.code y cc nL (some .boolean)) d m0 ad As S post := fun h hM => by
  refine j_ofZ (by rw [hy]; decide) hlen (fun p e s m args below meth c Q C hn ret => ?_)
  rw [hy] at C
  exact body p e s m args below meth c _ Q h C (fun r S' lv pc hp hz hd h' hM' hF' => ret r h' 0 0 lv pc ⟨S', hp, hM', hF'⟩ hz (Nat.zero_le _) (Nat.zero_le _) hd) h hM Fm.rf
theorem m_ofV {l : Launch} {D : va_G} {cy : Nat → ClassId} {y : MethodName} {cc : ByteArray} {nL d : Nat} {m0 : Nat} {ad : Nat → Nat} {As : List Value} {S : Nat → Nat → Int32} {post : (Nat → Nat → Int32) → Prop} (hy : y.cls = RX11) (hlen : (lg_sl (.ref m0 :: As)).length ≤ nL)
    (body : ∀ (p : Program) (e : Env) (s : State) (m : MethodId) (args : Array Value) (below : List Frame) (meth : Method) (c : Code) (A : Nat → Prop) (Q : State → Prop) (h0 : jH), jC p s m args meth c D cy A nL RX11 cc → (∀ (S' : Nat → Nat → Int32) (lv : List (Nat × Value)) (pc : Nat), post S' → decode cc pc = .ok (.return_, 1) → jM p l e (rmd d 0 0) s m args below meth c D cy A nL Q m0 ad h0 S' lv pc []) → jM p l e (rmd d 0 0) s m args below meth c D cy A nL Q m0 ad h0 S (lv_args 0 (.ref m0 :: As)) 0 []) : mV l D cy y (.code y cc nL none) d m0 ad As S post := fun h hM => by
  refine j_ofV (by rw [hy]; decide) hlen (fun p e s m args below meth c Q C hn ret => ?_)
  rw [hy] at C
  exact body p e s m args below meth c _ Q h C (fun S' lv pc hp hd h' hM' hF' => ret h' 0 0 lv pc ⟨S', hp, hM', hF'⟩ (Nat.zero_le _) (Nat.zero_le _) hd) h hM Fm.rf
section MCALLS
variable {p : Program} {l : Launch} {e : Env} {R : Room} {s : State} {m : MethodId} {args : Array Value} {below : List Frame} {meth : Method} {c : Code} {D : va_G} {cy : Nat → ClassId} {A : Nat → Prop} {nL : Nat} {Q : State → Prop} {cc : ByteArray} {m0 : Nat} {ad : Nat → Nat} {h0 : jH} {S : Nat → Nat → Int32} {lv lv' : List (Nat × Value)} {pc : Nat} {st : List Value}
theorem jm_calli (C : jC p s m args meth c D cy A nL RX11 cc) {index n nLc d : Nat} {y : MethodName} {bytes : ByteArray} {ret : Option FieldType} {As rest : List Value} {post : Int32 → (Nat → Nat → Int32) → Prop} (G : jGv RX11 index y bytes nLc ret n 11) (M : mI l D cy y (.code y bytes nLc ret) d m0 ad As S post) (hn : As.length = n) (hst : st = As.reverse ++ .ref m0 :: rest) (hW : (rest.map fun v => v.category).sum ≤ 8) (hR : d + 1 ≤ R.frames ∧ 8 + (nLc + 11) + 40 * d ≤ R.locals) (hd : decode cc pc = .ok (.invokevirtual index, 3)) (kk : ∀ (r : Int32) (S' : Nat → Nat → Int32), post r S' → jM p l e R s m args below meth c D cy A nL Q m0 ad h0 S' lv (pc + 3) (.int r :: rest)) : jM p l e R s m args below meth c D cy A nL Q m0 ad h0 S lv pc st := fun h hM hF => j_callVi C G (M h hM) hM.1 hn hst hW hR ⟨Nat.zero_le _, Nat.zero_le _⟩ hd (fun r h' hp => by
  obtain ⟨S', h1, h2, h3⟩ := hp
  exact kk r S' h1 h' h2 (hF.tr h3))
theorem jm_callv (C : jC p s m args meth c D cy A nL RX11 cc) {index n nLc d : Nat} {y : MethodName} {bytes : ByteArray} {ret : Option FieldType} {As rest : List Value} {post : (Nat → Nat → Int32) → Prop} (G : jGv RX11 index y bytes nLc ret n 11) (M : mV l D cy y (.code y bytes nLc ret) d m0 ad As S post) (hn : As.length = n) (hst : st = As.reverse ++ .ref m0 :: rest) (hW : (rest.map fun v => v.category).sum ≤ 8) (hR : d + 1 ≤ R.frames ∧ 8 + (nLc + 11) + 40 * d ≤ R.locals) (hd : decode cc pc = .ok (.invokevirtual index, 3)) (kk : ∀ (S' : Nat → Nat → Int32), post S' → jM p l e R s m args below meth c D cy A nL Q m0 ad h0 S' lv (pc + 3) (rest)) : jM p l e R s m args below meth c D cy A nL Q m0 ad h0 S lv pc st := fun h hM hF => j_callVv C G (M h hM) hM.1 hn hst hW hR ⟨Nat.zero_le _, Nat.zero_le _⟩ hd (fun h' hp => by
  obtain ⟨S', h1, h2, h3⟩ := hp
  exact kk S' h1 h' h2 (hF.tr h3))
theorem jm_calls (C : jC p s m args meth c D cy A nL RX11 cc) {index n nLc d : Nat} {y : MethodName} {bytes : ByteArray} {ret : Option FieldType} {As rest : List Value} {post : Int32 → Prop} (G : jGs RX11 index y bytes nLc ret n) (M : sI l D cy y (.code y bytes nLc ret) d As post) (hn : As.length = n) (hst : st = As.reverse ++ rest) (hW : (rest.map fun v => v.category).sum ≤ 8) (hR : d + 1 ≤ R.frames ∧ 8 + (nLc + 11) + 40 * d ≤ R.locals) (hd : decode cc pc = .ok (.invokestatic index, 3)) (kk : ∀ r, post r → jM p l e R s m args below meth c D cy A nL Q m0 ad h0 S lv (pc + 3) (.int r :: rest)) : jM p l e R s m args below meth c D cy A nL Q m0 ad h0 S lv pc st := fun h hM hF => j_callSi C G (M h) hn hst hW hR ⟨Nat.zero_le _, Nat.zero_le _⟩ hd (fun r h' hp => by
  obtain ⟨h1, rfl⟩ := hp
  exact kk r h1 h' hM hF)
end MCALLS
end
section
/-- the first i from i on, among k, with p; else -1 -/
def ffst (p : Nat → Bool) : Nat → Nat → Int32
  | _, 0 => -1
  | i, k + 1 => if p i = true then nI i else ffst p (i + 1) k
theorem ffst_t {p : Nat → Bool} {i k : Nat} (h : p i = true) : ffst p i (k + 1) = nI i := if_pos h
theorem ffst_f {p : Nat → Bool} {i k : Nat} (h : p i = false) : ffst p i (k + 1) = ffst p (i + 1) k := if_neg (by rw [h]; decide)

/-- k turns of a loop from i on -/
def flp {α : Type} (g : Nat → α → α) : Nat → Nat → α → α
  | _, 0, a => a
  | i, k + 1, a => flp g (i + 1) k (g i a)
theorem flp_s {α : Type} {g : Nat → α → α} {i k : Nat} {a a' : α} (h : g i a = a') : flp g i (k + 1) a = flp g (i + 1) k a' := by rw [← h]; rfl
theorem nI_ge_of {i n : Nat} (h : nI n ≤ nI i) (hn : n < 2 ^ 31) (hi : i < 2 ^ 31) : n ≤ i := (nI_leI hn hi).mp h
theorem nI_lt_of {i n : Nat} (h : ¬ nI n ≤ nI i) (hi : i < 2 ^ 31) : i < n := by
  rcases Nat.lt_or_ge i n with q | q
  · exact q
  · exact absurd (nI_le q (by omega)) h
set_option maxHeartbeats 4000000 in
set_option maxRecDepth 100000 in
theorem c_in {l : Launch} {D : va_G} {cy : Nat → ClassId} (v lo hi : Int32) : sI l D cy yX11_in (.code yX11_in cX11_in 3 ((Option.some FieldType.boolean))) 0 [.int v, .int lo, .int hi] (fun r => r = bI (lo ≤ v ∧ v ≤ hi)) := fun h => by
  refine j_ofZ (by decide) (Nat.le_of_ble_eq_true rfl) (fun p e s m args below meth c Q C hn ret => ?_)
  refine j_iload_n C dX11_in_0 rfl ?_
  refine j_iload_n C dX11_in_1 rfl ?_
  refine j_icmp_lt (tgt := 14) C dX11_in_2 (by decide) (fun c_2 => ?_) (fun c_2 => ?_)
  · refine j_iconst (v := 0) C dX11_in_14 (by decide) ?_
    exact ret _ h 0 0 _ _ ⟨(bI_f (fun z => Int32.not_lt.mpr z.1 c_2)).symm, rfl⟩ (by decide) (Nat.zero_le _) (Nat.zero_le _) dX11_in_15
  · refine j_iload_n C dX11_in_5 rfl ?_
    refine j_iload_n C dX11_in_6 rfl ?_
    refine j_icmp_gt (tgt := 14) C dX11_in_7 (by decide) (fun c_7 => ?_) (fun c_7 => ?_)
    · refine j_iconst (v := 0) C dX11_in_14 (by decide) ?_
      exact ret _ h 0 0 _ _ ⟨(bI_f (fun z => Int32.not_lt.mpr z.2 c_7)).symm, rfl⟩ (by decide) (Nat.zero_le _) (Nat.zero_le _) dX11_in_15
    · refine j_iconst (v := 1) C dX11_in_10 (by decide) ?_
      refine j_goto (tgt := 15) C dX11_in_11 (by decide) ?_
      exact ret _ h 0 0 _ _ ⟨(bI_t ⟨Int32.not_lt.mp c_2, Int32.not_lt.mp c_7⟩).symm, rfl⟩ (by decide) (Nat.zero_le _) (Nat.zero_le _) dX11_in_15
set_option maxHeartbeats 4000000 in
set_option maxRecDepth 100000 in
theorem c_isField {l : Launch} {D : va_G} {cy : Nat → ClassId} {m0 : Nat} {ad : Nat → Nat} {S : Nat → Nat → Int32} (x : Int32) : mI l D cy yX11_isField (.code yX11_isField cX11_isField 2 ((Option.some FieldType.boolean))) 1 m0 ad [.int x] S (fun r S' => r = bI (0 ≤ x ∧ x ≤ S 1 0 - 1) ∧ S' = S) := by
  refine m_ofZ rfl (Nat.le_of_ble_eq_true rfl) (fun p e s m args below meth c A Q h0 C ret => ?_)
  refine jm_iload_n C dX11_isField_0 rfl ?_
  refine jm_iconst (v := 0) C dX11_isField_1 (by decide) ?_
  refine jm_aload_n C dX11_isField_2 rfl ?_
  refine jm_getS C fF_X11_130 (by decide) dX11_isField_3 ?_
  refine jm_iconst (v := 1) C dX11_isField_6 (by decide) ?_
  refine jm_isub C dX11_isField_7 ?_
  refine jm_calls (As := [.int x, .int 0, .int ((S 1 0) - 1)]) (rest := []) C fG_X11_134 (c_in (x) (0) (((S 1 0) - 1))) rfl rfl (Nat.le_of_ble_eq_true rfl) ⟨Nat.le_of_ble_eq_true rfl, Nat.le_of_ble_eq_true rfl⟩ dX11_isField_8 (fun r_8 e_8 => ?_)
  subst e_8
  exact ret _ _ _ _ ⟨rfl, rfl⟩ (bI_01 _) dX11_isField_11
set_option maxHeartbeats 4000000 in
set_option maxRecDepth 100000 in
theorem c_isLot {l : Launch} {D : va_G} {cy : Nat → ClassId} {m0 : Nat} {ad : Nat → Nat} {S : Nat → Nat → Int32} (x : Int32) : mI l D cy yX11_isLot (.code yX11_isLot cX11_isLot 2 ((Option.some FieldType.boolean))) 1 m0 ad [.int x] S (fun r S' => r = bI (0 ≤ x ∧ x ≤ S 2 0 - 1) ∧ S' = S) := by
  refine m_ofZ rfl (Nat.le_of_ble_eq_true rfl) (fun p e s m args below meth c A Q h0 C ret => ?_)
  refine jm_iload_n C dX11_isLot_0 rfl ?_
  refine jm_iconst (v := 0) C dX11_isLot_1 (by decide) ?_
  refine jm_aload_n C dX11_isLot_2 rfl ?_
  refine jm_getS C fF_X11_138 (by decide) dX11_isLot_3 ?_
  refine jm_iconst (v := 1) C dX11_isLot_6 (by decide) ?_
  refine jm_isub C dX11_isLot_7 ?_
  refine jm_calls (As := [.int x, .int 0, .int ((S 2 0) - 1)]) (rest := []) C fG_X11_134 (c_in (x) (0) (((S 2 0) - 1))) rfl rfl (Nat.le_of_ble_eq_true rfl) ⟨Nat.le_of_ble_eq_true rfl, Nat.le_of_ble_eq_true rfl⟩ dX11_isLot_8 (fun r_8 e_8 => ?_)
  subst e_8
  exact ret _ _ _ _ ⟨rfl, rfl⟩ (bI_01 _) dX11_isLot_11
set_option maxHeartbeats 4000000 in
set_option maxRecDepth 100000 in
theorem c_isYear {l : Launch} {D : va_G} {cy : Nat → ClassId} {m0 : Nat} {ad : Nat → Nat} {S : Nat → Nat → Int32} (x : Int32) : mI l D cy yX11_isYear (.code yX11_isYear cX11_isYear 2 ((Option.some FieldType.boolean))) 1 m0 ad [.int x] S (fun r S' => r = bI (0 ≤ x ∧ x ≤ S 0 0) ∧ S' = S) := by
  refine m_ofZ rfl (Nat.le_of_ble_eq_true rfl) (fun p e s m args below meth c A Q h0 C ret => ?_)
  refine jm_iload_n C dX11_isYear_0 rfl ?_
  refine jm_iconst (v := 0) C dX11_isYear_1 (by decide) ?_
  refine jm_aload_n C dX11_isYear_2 rfl ?_
  refine jm_getS C fF_X11_141 (by decide) dX11_isYear_3 ?_
  refine jm_calls (As := [.int x, .int 0, .int (S 0 0)]) (rest := []) C fG_X11_134 (c_in (x) (0) ((S 0 0))) rfl rfl (Nat.le_of_ble_eq_true rfl) ⟨Nat.le_of_ble_eq_true rfl, Nat.le_of_ble_eq_true rfl⟩ dX11_isYear_6 (fun r_6 e_6 => ?_)
  subst e_6
  exact ret _ _ _ _ ⟨rfl, rfl⟩ (bI_01 _) dX11_isYear_9
set_option maxHeartbeats 4000000 in
set_option maxRecDepth 100000 in
theorem c_isBag {l : Launch} {D : va_G} {cy : Nat → ClassId} {m0 : Nat} {ad : Nat → Nat} {S : Nat → Nat → Int32} (x : Int32) : mI l D cy yX11_isBag (.code yX11_isBag cX11_isBag 2 ((Option.some FieldType.boolean))) 1 m0 ad [.int x] S (fun r S' => r = bI (0 ≤ x ∧ x ≤ S 3 0 - 1) ∧ S' = S) := by
  refine m_ofZ rfl (Nat.le_of_ble_eq_true rfl) (fun p e s m args below meth c A Q h0 C ret => ?_)
  refine jm_iload_n C dX11_isBag_0 rfl ?_
  refine jm_iconst (v := 0) C dX11_isBag_1 (by decide) ?_
  refine jm_aload_n C dX11_isBag_2 rfl ?_
  refine jm_getS C fF_X11_190 (by decide) dX11_isBag_3 ?_
  refine jm_iconst (v := 1) C dX11_isBag_6 (by decide) ?_
  refine jm_isub C dX11_isBag_7 ?_
  refine jm_calls (As := [.int x, .int 0, .int ((S 3 0) - 1)]) (rest := []) C fG_X11_134 (c_in (x) (0) (((S 3 0) - 1))) rfl rfl (Nat.le_of_ble_eq_true rfl) ⟨Nat.le_of_ble_eq_true rfl, Nat.le_of_ble_eq_true rfl⟩ dX11_isBag_8 (fun r_8 e_8 => ?_)
  subst e_8
  exact ret _ _ _ _ ⟨rfl, rfl⟩ (bI_01 _) dX11_isBag_11
def mx (x y : Int32) : Int32 := if x < y then y else x
def mn (x y : Int32) : Int32 := if y < x then y else x
def nearS (S : Nat → Nat → Int32) (a b : Nat) : Int32 := mx 0 (mx (S 9 a - S 11 b) (S 9 b - S 11 a)) * mx 0 (mx (S 9 a - S 11 b) (S 9 b - S 11 a)) + mx 0 (mx (S 10 a - S 12 b) (S 10 b - S 12 a)) * mx 0 (mx (S 10 a - S 12 b) (S 10 b - S 12 a))
set_option maxHeartbeats 4000000 in
set_option maxRecDepth 100000 in
theorem c_nearness {l : Launch} {D : va_G} {cy : Nat → ClassId} {m0 : Nat} {ad : Nat → Nat} {S : Nat → Nat → Int32} {a b : Nat} (ha : a < 40) (hb : b < 40) : mI l D cy yX11_nearness (.code yX11_nearness cX11_nearness 5 ((Option.some FieldType.int))) 1 m0 ad [.int (nI a), .int (nI b)] S (fun r S' => r = nearS S a b ∧ S' = S) := by
  refine m_ofI rfl (Nat.le_of_ble_eq_true rfl) (fun p e s m args below meth c A Q h0 C ret => ?_)
  refine jm_iconst (v := 0) C dX11_nearness_0 (by decide) ?_
  refine jm_aload_n C dX11_nearness_1 rfl ?_
  refine jm_getA C fF_X11_9 (by decide) (by decide) dX11_nearness_2 ?_
  refine jm_iload_n C dX11_nearness_5 rfl ?_
  refine jm_aldN C 9 (n := 40) (by decide) (by decide) rfl (by omega) dX11_nearness_6 ?_
  refine jm_aload_n C dX11_nearness_7 rfl ?_
  refine jm_getA C fF_X11_16 (by decide) (by decide) dX11_nearness_8 ?_
  refine jm_iload_n C dX11_nearness_11 rfl ?_
  refine jm_aldN C 11 (n := 40) (by decide) (by decide) rfl (by omega) dX11_nearness_12 ?_
  refine jm_isub C dX11_nearness_13 ?_
  refine jm_aload_n C dX11_nearness_14 rfl ?_
  refine jm_getA C fF_X11_9 (by decide) (by decide) dX11_nearness_15 ?_
  refine jm_iload_n C dX11_nearness_18 rfl ?_
  refine jm_aldN C 9 (n := 40) (by decide) (by decide) rfl (by omega) dX11_nearness_19 ?_
  refine jm_aload_n C dX11_nearness_20 rfl ?_
  refine jm_getA C fF_X11_16 (by decide) (by decide) dX11_nearness_21 ?_
  refine jm_iload_n C dX11_nearness_24 rfl ?_
  refine jm_aldN C 11 (n := 40) (by decide) (by decide) rfl (by omega) dX11_nearness_25 ?_
  refine jm_isub C dX11_nearness_26 ?_
  refine jm_max C kM_X11_150 dX11_nearness_27 (Nat.le_of_ble_eq_true rfl) (Nat.le_of_ble_eq_true rfl) ?_
  refine jm_max C kM_X11_150 dX11_nearness_30 (Nat.le_of_ble_eq_true rfl) (Nat.le_of_ble_eq_true rfl) ?_
  refine jm_istore_n (lv' := [(0, .ref m0), (1, .int (nI a)), (2, .int (nI b)), (3, .int (if 0 < (if ((S 9 a) - (S 11 b)) < ((S 9 b) - (S 11 a)) then ((S 9 b) - (S 11 a)) else ((S 9 a) - (S 11 b))) then (if ((S 9 a) - (S 11 b)) < ((S 9 b) - (S 11 a)) then ((S 9 b) - (S 11 a)) else ((S 9 a) - (S 11 b))) else 0))]) C dX11_nearness_33 (by decide) rfl ?_
  refine jm_iconst (v := 0) C dX11_nearness_34 (by decide) ?_
  refine jm_aload_n C dX11_nearness_35 rfl ?_
  refine jm_getA C fF_X11_13 (by decide) (by decide) dX11_nearness_36 ?_
  refine jm_iload_n C dX11_nearness_39 rfl ?_
  refine jm_aldN C 10 (n := 40) (by decide) (by decide) rfl (by omega) dX11_nearness_40 ?_
  refine jm_aload_n C dX11_nearness_41 rfl ?_
  refine jm_getA C fF_X11_19 (by decide) (by decide) dX11_nearness_42 ?_
  refine jm_iload_n C dX11_nearness_45 rfl ?_
  refine jm_aldN C 12 (n := 40) (by decide) (by decide) rfl (by omega) dX11_nearness_46 ?_
  refine jm_isub C dX11_nearness_47 ?_
  refine jm_aload_n C dX11_nearness_48 rfl ?_
  refine jm_getA C fF_X11_13 (by decide) (by decide) dX11_nearness_49 ?_
  refine jm_iload_n C dX11_nearness_52 rfl ?_
  refine jm_aldN C 10 (n := 40) (by decide) (by decide) rfl (by omega) dX11_nearness_53 ?_
  refine jm_aload_n C dX11_nearness_54 rfl ?_
  refine jm_getA C fF_X11_19 (by decide) (by decide) dX11_nearness_55 ?_
  refine jm_iload_n C dX11_nearness_58 rfl ?_
  refine jm_aldN C 12 (n := 40) (by decide) (by decide) rfl (by omega) dX11_nearness_59 ?_
  refine jm_isub C dX11_nearness_60 ?_
  refine jm_max C kM_X11_150 dX11_nearness_61 (Nat.le_of_ble_eq_true rfl) (Nat.le_of_ble_eq_true rfl) ?_
  refine jm_max C kM_X11_150 dX11_nearness_64 (Nat.le_of_ble_eq_true rfl) (Nat.le_of_ble_eq_true rfl) ?_
  refine jm_istore (lv' := [(0, .ref m0), (1, .int (nI a)), (2, .int (nI b)), (3, .int (if 0 < (if ((S 9 a) - (S 11 b)) < ((S 9 b) - (S 11 a)) then ((S 9 b) - (S 11 a)) else ((S 9 a) - (S 11 b))) then (if ((S 9 a) - (S 11 b)) < ((S 9 b) - (S 11 a)) then ((S 9 b) - (S 11 a)) else ((S 9 a) - (S 11 b))) else 0)), (4, .int (if 0 < (if ((S 10 a) - (S 12 b)) < ((S 10 b) - (S 12 a)) then ((S 10 b) - (S 12 a)) else ((S 10 a) - (S 12 b))) then (if ((S 10 a) - (S 12 b)) < ((S 10 b) - (S 12 a)) then ((S 10 b) - (S 12 a)) else ((S 10 a) - (S 12 b))) else 0))]) C dX11_nearness_67 (by decide) rfl ?_
  refine jm_iload_n C dX11_nearness_69 rfl ?_
  refine jm_iload_n C dX11_nearness_70 rfl ?_
  refine jm_imul C dX11_nearness_71 ?_
  refine jm_iload C dX11_nearness_72 rfl ?_
  refine jm_iload C dX11_nearness_74 rfl ?_
  refine jm_imul C dX11_nearness_76 ?_
  refine jm_iadd C dX11_nearness_77 ?_
  exact ret _ _ _ _ ⟨rfl, rfl⟩ dX11_nearness_78
def lotInB (S : Nat → Nat → Int32) (f y : Int32) (l : Nat) : Bool := decide (S 21 l = 1 ∧ S 25 l = f ∧ S 24 l = y)
def lotInS (S : Nat → Nat → Int32) (f y : Int32) (nl : Nat) : Int32 := ffst (lotInB S f y) 0 nl
set_option maxHeartbeats 4000000 in
set_option maxRecDepth 100000 in
theorem L_lotIn {p : Program} {l : Launch} {e : Env} {R : Room} {s : State} {m : MethodId} {args : Array Value} {below : List Frame} {meth : Method} {c : Code} {D : va_G} {cy : Nat → ClassId} {A : Nat → Prop} {Q : State → Prop} {m0 : Nat} {ad : Nat → Nat} {h0 : jH} {S : Nat → Nat → Int32} (C : jC p s m args meth c D cy A 4 RX11 cX11_lotIn) {f y : Int32} {nl : Nat} (hl : S 2 0 = nI nl) (hnl : nl ≤ 200) (ret : ∀ (r : Int32) (S' : Nat → Nat → Int32) (lv : List (Nat × Value)) (pc : Nat), r = lotInS S f y nl ∧ S' = S → decode cX11_lotIn pc = .ok (.ireturn, 1) → jM p l e R s m args below meth c D cy A 4 Q m0 ad h0 S' lv pc [.int r]) : ∀ (n k i : Nat), k < n → i + k = nl → lotInS S f y nl = ffst (lotInB S f y) i k → jM p l e R s m args below meth c D cy A 4 Q m0 ad h0 S [(0, .ref m0), (1, .int f), (2, .int y), (3, .int (nI i))] 2 [] := by
  intro n
  induction n with
  | zero => intro k i  h1; exact absurd h1 (Nat.not_lt_zero _)
  | succ n ih =>
    intro k i  h1 h2 he
    refine jm_iload_n C dX11_lotIn_2 rfl ?_
    refine jm_aload_n C dX11_lotIn_3 rfl ?_
    refine jm_getS C fF_X11_138 (by decide) dX11_lotIn_4 ?_
    refine jm_icmp_ge (tgt := 48) C dX11_lotIn_7 (by decide) (fun c_7 => ?_) (fun c_7 => ?_)
    · rw [hl] at c_7
      have hge : nl ≤ i := nI_ge_of c_7 (by omega) (by omega)
      obtain rfl : k = 0 := by omega
      refine jm_iconst (v := (-1)) C dX11_lotIn_48 (by decide) ?_
      exact ret _ _ _ _ ⟨by rw [he]; rfl, rfl⟩ dX11_lotIn_49
    · rw [hl] at c_7
      have hlt : i < nl := nI_lt_of c_7 (by omega)
      obtain ⟨k, rfl⟩ : ∃ q, k = q + 1 := ⟨k - 1, by omega⟩
      refine jm_aload_n C dX11_lotIn_10 rfl ?_
      refine jm_getA C fF_X11_46 (by decide) (by decide) dX11_lotIn_11 ?_
      refine jm_iload_n C dX11_lotIn_14 rfl ?_
      refine jm_aldN C 21 (n := 200) (by decide) (by decide) rfl (by omega) dX11_lotIn_15 ?_
      refine jm_iconst (v := 1) C dX11_lotIn_16 (by decide) ?_
      refine jm_icmp_ne (tgt := 42) C dX11_lotIn_17 (by decide) (fun c_17 => ?_) (fun c_17 => ?_)
      · refine jm_iinc (lv' := [(0, .ref m0), (1, .int f), (2, .int y), (3, .int (nI (i + 1)))]) C dX11_lotIn_42 rfl (nI_1 _) (by decide) rfl ?_
        refine jm_goto (tgt := 2) C dX11_lotIn_45 (by decide) ?_
        exact ih k (i + 1) (by omega) (by omega) (he.trans (ffst_f (by simp [lotInB, c_17])))
      · refine jm_aload_n C dX11_lotIn_20 rfl ?_
        refine jm_getA C fF_X11_58 (by decide) (by decide) dX11_lotIn_21 ?_
        refine jm_iload_n C dX11_lotIn_24 rfl ?_
        refine jm_aldN C 25 (n := 200) (by decide) (by decide) rfl (by omega) dX11_lotIn_25 ?_
        refine jm_iload_n C dX11_lotIn_26 rfl ?_
        refine jm_icmp_ne (tgt := 42) C dX11_lotIn_27 (by decide) (fun c_27 => ?_) (fun c_27 => ?_)
        · refine jm_iinc (lv' := [(0, .ref m0), (1, .int f), (2, .int y), (3, .int (nI (i + 1)))]) C dX11_lotIn_42 rfl (nI_1 _) (by decide) rfl ?_
          refine jm_goto (tgt := 2) C dX11_lotIn_45 (by decide) ?_
          exact ih k (i + 1) (by omega) (by omega) (he.trans (ffst_f (by simp [lotInB, c_17, c_27])))
        · refine jm_aload_n C dX11_lotIn_30 rfl ?_
          refine jm_getA C fF_X11_55 (by decide) (by decide) dX11_lotIn_31 ?_
          refine jm_iload_n C dX11_lotIn_34 rfl ?_
          refine jm_aldN C 24 (n := 200) (by decide) (by decide) rfl (by omega) dX11_lotIn_35 ?_
          refine jm_iload_n C dX11_lotIn_36 rfl ?_
          refine jm_icmp_ne (tgt := 42) C dX11_lotIn_37 (by decide) (fun c_37 => ?_) (fun c_37 => ?_)
          · refine jm_iinc (lv' := [(0, .ref m0), (1, .int f), (2, .int y), (3, .int (nI (i + 1)))]) C dX11_lotIn_42 rfl (nI_1 _) (by decide) rfl ?_
            refine jm_goto (tgt := 2) C dX11_lotIn_45 (by decide) ?_
            exact ih k (i + 1) (by omega) (by omega) (he.trans (ffst_f (by simp [lotInB, c_17, c_27, c_37])))
          · refine jm_iload_n C dX11_lotIn_40 rfl ?_
            exact ret _ _ _ _ ⟨by rw [he]; exact (ffst_t (by simp [lotInB, c_17, c_27, c_37])).symm, rfl⟩ dX11_lotIn_41
set_option maxHeartbeats 4000000 in
set_option maxRecDepth 100000 in
theorem c_lotIn {l : Launch} {D : va_G} {cy : Nat → ClassId} {m0 : Nat} {ad : Nat → Nat} {S : Nat → Nat → Int32} (f y : Int32) {nl : Nat} (hl : S 2 0 = nI nl) (hnl : nl ≤ 200) : mI l D cy yX11_lotIn (.code yX11_lotIn cX11_lotIn 4 ((Option.some FieldType.int))) 1 m0 ad [.int f, .int y] S (fun r S' => r = lotInS S f y nl ∧ S' = S) := by
  refine m_ofI rfl (Nat.le_of_ble_eq_true rfl) (fun p e s m args below meth c A Q h0 C ret => ?_)
  refine jm_iconst (v := 0) C dX11_lotIn_0 (by decide) ?_
  refine jm_istore_n (lv' := [(0, .ref m0), (1, .int f), (2, .int y), (3, .int 0)]) C dX11_lotIn_1 (by decide) rfl ?_
  exact L_lotIn C hl hnl ret (nl + 1) nl 0 (by omega) (by omega) rfl
def gLooks (S : Nat → Nat → Int32) (l q : Int32) (k : Nat) (n : Int32) : Int32 := n + if S 34 k = l ∧ ¬ q < S 37 k then 1 else 0
def looksS (S : Nat → Nat → Int32) (l q : Int32) (nk : Nat) : Int32 := flp (gLooks S l q) 0 nk 0
set_option maxHeartbeats 4000000 in
set_option maxRecDepth 100000 in
theorem L_looksOf {p : Program} {l : Launch} {e : Env} {R : Room} {s : State} {m : MethodId} {args : Array Value} {below : List Frame} {meth : Method} {c : Code} {D : va_G} {cy : Nat → ClassId} {A : Nat → Prop} {Q : State → Prop} {m0 : Nat} {ad : Nat → Nat} {h0 : jH} {S : Nat → Nat → Int32} (C : jC p s m args meth c D cy A 5 RX11 cX11_looksOf) {l0 q : Int32} {nk : Nat} (hk : S 7 0 = nI nk) (hnk : nk ≤ 300) (ret : ∀ (r : Int32) (S' : Nat → Nat → Int32) (lv : List (Nat × Value)) (pc : Nat), r = looksS S l0 q nk ∧ S' = S → decode cX11_looksOf pc = .ok (.ireturn, 1) → jM p l e R s m args below meth c D cy A 5 Q m0 ad h0 S' lv pc [.int r]) : ∀ (n k i : Nat) (a : Int32), k < n → i + k = nk → looksS S l0 q nk = flp (gLooks S l0 q) i k a → jM p l e R s m args below meth c D cy A 5 Q m0 ad h0 S [(0, .ref m0), (1, .int l0), (2, .int q), (3, .int a), (4, .int (nI i))] 5 [] := by
  intro n
  induction n with
  | zero => intro k i a h1; exact absurd h1 (Nat.not_lt_zero _)
  | succ n ih =>
    intro k i a h1 h2 he
    refine jm_iload C dX11_looksOf_5 rfl ?_
    refine jm_aload_n C dX11_looksOf_7 rfl ?_
    refine jm_getS C fF_X11_202 (by decide) dX11_looksOf_8 ?_
    refine jm_icmp_ge (tgt := 50) C dX11_looksOf_11 (by decide) (fun c_11 => ?_) (fun c_11 => ?_)
    · rw [hk] at c_11
      have hge : nk ≤ i := nI_ge_of c_11 (by omega) (by omega)
      obtain rfl : k = 0 := by omega
      refine jm_iload_n C dX11_looksOf_50 rfl ?_
      exact ret _ _ _ _ ⟨by rw [he]; rfl, rfl⟩ dX11_looksOf_51
    · rw [hk] at c_11
      have hlt : i < nk := nI_lt_of c_11 (by omega)
      obtain ⟨k, rfl⟩ : ∃ q, k = q + 1 := ⟨k - 1, by omega⟩
      refine jm_iload_n C dX11_looksOf_14 rfl ?_
      refine jm_aload_n C dX11_looksOf_15 rfl ?_
      refine jm_getA C fF_X11_85 (by decide) (by decide) dX11_looksOf_16 ?_
      refine jm_iload C dX11_looksOf_19 rfl ?_
      refine jm_aldN C 34 (n := 300) (by decide) (by decide) rfl (by omega) dX11_looksOf_21 ?_
      refine jm_iload_n C dX11_looksOf_22 rfl ?_
      refine jm_icmp_ne (tgt := 41) C dX11_looksOf_23 (by decide) (fun c_23 => ?_) (fun c_23 => ?_)
      · refine jm_iconst (v := 0) C dX11_looksOf_41 (by decide) ?_
        refine jm_iadd C dX11_looksOf_42 ?_
        refine jm_istore_n (lv' := [(0, .ref m0), (1, .int l0), (2, .int q), (3, .int (a + 0)), (4, .int (nI i))]) C dX11_looksOf_43 (by decide) rfl ?_
        refine jm_iinc (lv' := [(0, .ref m0), (1, .int l0), (2, .int q), (3, .int (a + 0)), (4, .int (nI (i + 1)))]) C dX11_looksOf_44 rfl (nI_1 _) (by decide) rfl ?_
        refine jm_goto (tgt := 5) C dX11_looksOf_47 (by decide) ?_
        exact ih k (i + 1) _ (by omega) (by omega) (he.trans (flp_s (by simp [gLooks, c_23])))
      · refine jm_aload_n C dX11_looksOf_26 rfl ?_
        refine jm_getA C fF_X11_94 (by decide) (by decide) dX11_looksOf_27 ?_
        refine jm_iload C dX11_looksOf_30 rfl ?_
        refine jm_aldN C 37 (n := 300) (by decide) (by decide) rfl (by omega) dX11_looksOf_32 ?_
        refine jm_iload_n C dX11_looksOf_33 rfl ?_
        refine jm_icmp_gt (tgt := 41) C dX11_looksOf_34 (by decide) (fun c_34 => ?_) (fun c_34 => ?_)
        · refine jm_iconst (v := 0) C dX11_looksOf_41 (by decide) ?_
          refine jm_iadd C dX11_looksOf_42 ?_
          refine jm_istore_n (lv' := [(0, .ref m0), (1, .int l0), (2, .int q), (3, .int (a + 0)), (4, .int (nI i))]) C dX11_looksOf_43 (by decide) rfl ?_
          refine jm_iinc (lv' := [(0, .ref m0), (1, .int l0), (2, .int q), (3, .int (a + 0)), (4, .int (nI (i + 1)))]) C dX11_looksOf_44 rfl (nI_1 _) (by decide) rfl ?_
          refine jm_goto (tgt := 5) C dX11_looksOf_47 (by decide) ?_
          exact ih k (i + 1) _ (by omega) (by omega) (he.trans (flp_s (by simp [gLooks, c_23, c_34])))
        · refine jm_iconst (v := 1) C dX11_looksOf_37 (by decide) ?_
          refine jm_goto (tgt := 42) C dX11_looksOf_38 (by decide) ?_
          refine jm_iadd C dX11_looksOf_42 ?_
          refine jm_istore_n (lv' := [(0, .ref m0), (1, .int l0), (2, .int q), (3, .int (a + 1)), (4, .int (nI i))]) C dX11_looksOf_43 (by decide) rfl ?_
          refine jm_iinc (lv' := [(0, .ref m0), (1, .int l0), (2, .int q), (3, .int (a + 1)), (4, .int (nI (i + 1)))]) C dX11_looksOf_44 rfl (nI_1 _) (by decide) rfl ?_
          refine jm_goto (tgt := 5) C dX11_looksOf_47 (by decide) ?_
          exact ih k (i + 1) _ (by omega) (by omega) (he.trans (flp_s (by simp [gLooks, c_23, c_34])))
set_option maxHeartbeats 4000000 in
set_option maxRecDepth 100000 in
theorem c_looksOf {l : Launch} {D : va_G} {cy : Nat → ClassId} {m0 : Nat} {ad : Nat → Nat} {S : Nat → Nat → Int32} (l0 q : Int32) {nk : Nat} (hk : S 7 0 = nI nk) (hnk : nk ≤ 300) : mI l D cy yX11_looksOf (.code yX11_looksOf cX11_looksOf 5 ((Option.some FieldType.int))) 1 m0 ad [.int l0, .int q] S (fun r S' => r = looksS S l0 q nk ∧ S' = S) := by
  refine m_ofI rfl (Nat.le_of_ble_eq_true rfl) (fun p e s m args below meth c A Q h0 C ret => ?_)
  refine jm_iconst (v := 0) C dX11_looksOf_0 (by decide) ?_
  refine jm_istore_n (lv' := [(0, .ref m0), (1, .int l0), (2, .int q), (3, .int 0)]) C dX11_looksOf_1 (by decide) rfl ?_
  refine jm_iconst (v := 0) C dX11_looksOf_2 (by decide) ?_
  refine jm_istore (lv' := [(0, .ref m0), (1, .int l0), (2, .int q), (3, .int 0), (4, .int 0)]) C dX11_looksOf_3 (by decide) rfl ?_
  exact L_looksOf C hk hnk ret (nk + 1) nk 0 0 (by omega) (by omega) rfl
end
section
theorem ffst_ix {p : Nat → Bool} : ∀ (k i : Nat), ¬ ffst p i k = -1 → ∃ j, i ≤ j ∧ j < i + k ∧ p j = true ∧ ffst p i k = nI j
  | 0, i, h => absurd rfl h
  | k + 1, i, h => by
    by_cases e : p i = true
    · exact ⟨i, Nat.le_refl _, by omega, e, ffst_t e⟩
    · have e2 : p i = false := by simpa using e
      rw [ffst_f e2] at h ⊢
      obtain ⟨j, h1, h2, h3, h4⟩ := ffst_ix k (i + 1) h
      exact ⟨j, by omega, by omega, h3, h4⟩
theorem lotInS_ix {S : Nat → Nat → Int32} {f y : Int32} {nl : Nat} (h : ¬ lotInS S f y nl = -1) : ∃ j, j < nl ∧ lotInB S f y j = true ∧ lotInS S f y nl = nI j := by
  obtain ⟨j, h1, h2, h3, h4⟩ := ffst_ix nl 0 h
  exact ⟨j, by omega, h3, h4⟩
def ix (x : Int32) : Nat := x.toNatClampNeg
theorem ix_nI {j : Nat} (h : j < 2 ^ 31) : ix (nI j) = j := nI_clamp h
/-- 0 ≤ x ≤ n - 1 -/
theorem in_ix {x : Int32} {n : Nat} (hn : n < 2 ^ 31) (h : 0 ≤ x ∧ x ≤ nI n - 1) : ∃ j, j < n ∧ x = nI j := by
  obtain ⟨j, h1, rfl⟩ := nI_of (Int32.not_lt.mpr h.1)
  refine ⟨j, ?_, rfl⟩
  cases n with
  | zero =>
    have h2 := h.2
    rw [Int32.le_iff_toInt_le, nI_toInt h1] at h2
    have : (nI 0 - 1 : Int32).toInt = -1 := by decide
    omega
  | succ n =>
    have h2 := h.2
    rw [nI_pred, nI_leI h1 (by omega)] at h2
    omega
def gStand (S : Nat → Nat → Int32) (f y q : Int32) (k : Nat) (c : Int32) : Int32 := if S 13 k = f ∧ S 14 k = y ∧ ¬ q < S 16 k then S 15 k else c
def standS (S : Nat → Nat → Int32) (f y q : Int32) (nl ns : Nat) : Int32 := if ¬ q < y ∧ ¬ lotInS S f y nl = -1 then S 22 (ix (lotInS S f y nl)) else flp (gStand S f y q) 0 ns 0
set_option maxHeartbeats 4000000 in
set_option maxRecDepth 100000 in
theorem L_standing {p : Program} {l : Launch} {e : Env} {R : Room} {s : State} {m : MethodId} {args : Array Value} {below : List Frame} {meth : Method} {c : Code} {D : va_G} {cy : Nat → ClassId} {A : Nat → Prop} {Q : State → Prop} {m0 : Nat} {ad : Nat → Nat} {h0 : jH} {S : Nat → Nat → Int32} (C : jC p s m args meth c D cy A 7 RX11 cX11_standing) {f y q r4 : Int32} {nl ns : Nat} (hs : S 5 0 = nI ns) (hns : ns ≤ 300) (ret : ∀ (r : Int32) (S' : Nat → Nat → Int32) (lv : List (Nat × Value)) (pc : Nat), r = standS S f y q nl ns ∧ S' = S → decode cX11_standing pc = .ok (.ireturn, 1) → jM p l e R s m args below meth c D cy A 7 Q m0 ad h0 S' lv pc [.int r]) : ∀ (n k i : Nat) (a : Int32), k < n → i + k = ns → standS S f y q nl ns = flp (gStand S f y q) i k a → jM p l e R s m args below meth c D cy A 7 Q m0 ad h0 S [(0, .ref m0), (1, .int f), (2, .int y), (3, .int q), (4, .int r4), (5, .int a), (6, .int (nI i))] 37 [] := by
  intro n
  induction n with
  | zero => intro k i a h1; exact absurd h1 (Nat.not_lt_zero _)
  | succ n ih =>
    intro k i a h1 h2 he
    refine jm_iload C dX11_standing_37 rfl ?_
    refine jm_aload_n C dX11_standing_39 rfl ?_
    refine jm_getS C fF_X11_163 (by decide) dX11_standing_40 ?_
    refine jm_icmp_ge (tgt := 94) C dX11_standing_43 (by decide) (fun c_43 => ?_) (fun c_43 => ?_)
    · rw [hs] at c_43
      have hge : ns ≤ i := nI_ge_of c_43 (by omega) (by omega)
      obtain rfl : k = 0 := by omega
      refine jm_iload C dX11_standing_94 rfl ?_
      exact ret _ _ _ _ ⟨by rw [he]; rfl, rfl⟩ dX11_standing_96
    · rw [hs] at c_43
      have hlt : i < ns := nI_lt_of c_43 (by omega)
      obtain ⟨k, rfl⟩ : ∃ q, k = q + 1 := ⟨k - 1, by omega⟩
      refine jm_aload_n C dX11_standing_46 rfl ?_
      refine jm_getA C fF_X11_22 (by decide) (by decide) dX11_standing_47 ?_
      refine jm_iload C dX11_standing_50 rfl ?_
      refine jm_aldN C 13 (n := 300) (by decide) (by decide) rfl (by omega) dX11_standing_52 ?_
      refine jm_iload_n C dX11_standing_53 rfl ?_
      refine jm_icmp_ne (tgt := 88) C dX11_standing_54 (by decide) (fun c_54 => ?_) (fun c_54 => ?_)
      · refine jm_iinc (lv' := [(0, .ref m0), (1, .int f), (2, .int y), (3, .int q), (4, .int r4), (5, .int a), (6, .int (nI (i + 1)))]) C dX11_standing_88 rfl (nI_1 _) (by decide) rfl ?_
        refine jm_goto (tgt := 37) C dX11_standing_91 (by decide) ?_
        exact ih k (i + 1) _ (by omega) (by omega) (he.trans (flp_s (by simp [gStand, c_54])))
      · refine jm_aload_n C dX11_standing_57 rfl ?_
        refine jm_getA C fF_X11_25 (by decide) (by decide) dX11_standing_58 ?_
        refine jm_iload C dX11_standing_61 rfl ?_
        refine jm_aldN C 14 (n := 300) (by decide) (by decide) rfl (by omega) dX11_standing_63 ?_
        refine jm_iload_n C dX11_standing_64 rfl ?_
        refine jm_icmp_ne (tgt := 88) C dX11_standing_65 (by decide) (fun c_65 => ?_) (fun c_65 => ?_)
        · refine jm_iinc (lv' := [(0, .ref m0), (1, .int f), (2, .int y), (3, .int q), (4, .int r4), (5, .int a), (6, .int (nI (i + 1)))]) C dX11_standing_88 rfl (nI_1 _) (by decide) rfl ?_
          refine jm_goto (tgt := 37) C dX11_standing_91 (by decide) ?_
          exact ih k (i + 1) _ (by omega) (by omega) (he.trans (flp_s (by simp [gStand, c_54, c_65])))
        · refine jm_aload_n C dX11_standing_68 rfl ?_
          refine jm_getA C fF_X11_31 (by decide) (by decide) dX11_standing_69 ?_
          refine jm_iload C dX11_standing_72 rfl ?_
          refine jm_aldN C 16 (n := 300) (by decide) (by decide) rfl (by omega) dX11_standing_74 ?_
          refine jm_iload_n C dX11_standing_75 rfl ?_
          refine jm_icmp_gt (tgt := 88) C dX11_standing_76 (by decide) (fun c_76 => ?_) (fun c_76 => ?_)
          · refine jm_iinc (lv' := [(0, .ref m0), (1, .int f), (2, .int y), (3, .int q), (4, .int r4), (5, .int a), (6, .int (nI (i + 1)))]) C dX11_standing_88 rfl (nI_1 _) (by decide) rfl ?_
            refine jm_goto (tgt := 37) C dX11_standing_91 (by decide) ?_
            exact ih k (i + 1) _ (by omega) (by omega) (he.trans (flp_s (by simp [gStand, c_54, c_65, c_76])))
          · refine jm_aload_n C dX11_standing_79 rfl ?_
            refine jm_getA C fF_X11_28 (by decide) (by decide) dX11_standing_80 ?_
            refine jm_iload C dX11_standing_83 rfl ?_
            refine jm_aldN C 15 (n := 300) (by decide) (by decide) rfl (by omega) dX11_standing_85 ?_
            refine jm_istore (lv' := [(0, .ref m0), (1, .int f), (2, .int y), (3, .int q), (4, .int r4), (5, .int (S 15 i)), (6, .int (nI i))]) C dX11_standing_86 (by decide) rfl ?_
            refine jm_iinc (lv' := [(0, .ref m0), (1, .int f), (2, .int y), (3, .int q), (4, .int r4), (5, .int (S 15 i)), (6, .int (nI (i + 1)))]) C dX11_standing_88 rfl (nI_1 _) (by decide) rfl ?_
            refine jm_goto (tgt := 37) C dX11_standing_91 (by decide) ?_
            exact ih k (i + 1) _ (by omega) (by omega) (he.trans (flp_s (by simp [gStand, c_54, c_65, c_76])))
set_option maxHeartbeats 4000000 in
set_option maxRecDepth 100000 in
theorem c_standing {l : Launch} {D : va_G} {cy : Nat → ClassId} {m0 : Nat} {ad : Nat → Nat} {S : Nat → Nat → Int32} (f y q : Int32) {nl ns : Nat} (hl : S 2 0 = nI nl) (hnl : nl ≤ 200) (hs : S 5 0 = nI ns) (hns : ns ≤ 300) : mI l D cy yX11_standing (.code yX11_standing cX11_standing 7 ((Option.some FieldType.int))) 2 m0 ad [.int f, .int y, .int q] S (fun r S' => r = standS S f y q nl ns ∧ S' = S) := by
  refine m_ofI rfl (Nat.le_of_ble_eq_true rfl) (fun p e s m args below meth c A Q h0 C ret => ?_)
  refine jm_iload_n C dX11_standing_0 rfl ?_
  refine jm_iload_n C dX11_standing_1 rfl ?_
  refine jm_icmp_gt (tgt := 14) C dX11_standing_2 (by decide) (fun c_2 => ?_) (fun c_2 => ?_)
  · refine jm_iconst (v := (-1)) C dX11_standing_14 (by decide) ?_
    refine jm_istore (lv' := [(0, .ref m0), (1, .int f), (2, .int y), (3, .int q), (4, .int (-1))]) C dX11_standing_15 (by decide) rfl ?_
    refine jm_iload C dX11_standing_17 rfl ?_
    refine jm_iconst (v := (-1)) C dX11_standing_19 (by decide) ?_
    refine jm_icmp_eq (tgt := 31) C dX11_standing_20 (by decide) (fun c_20 => ?_) (fun c_20 => ?_)
    · refine jm_iconst (v := 0) C dX11_standing_31 (by decide) ?_
      refine jm_istore (lv' := [(0, .ref m0), (1, .int f), (2, .int y), (3, .int q), (4, .int (-1)), (5, .int 0)]) C dX11_standing_32 (by decide) rfl ?_
      refine jm_iconst (v := 0) C dX11_standing_34 (by decide) ?_
      refine jm_istore (lv' := [(0, .ref m0), (1, .int f), (2, .int y), (3, .int q), (4, .int (-1)), (5, .int 0), (6, .int 0)]) C dX11_standing_35 (by decide) rfl ?_
      exact L_standing C hs hns ret (ns + 1) ns 0 0 (by omega) (by omega) (if_neg (fun z => z.1 c_2))
    · exact absurd rfl c_20
  · refine jm_aload_n C dX11_standing_5 rfl ?_
    refine jm_iload_n C dX11_standing_6 rfl ?_
    refine jm_iload_n C dX11_standing_7 rfl ?_
    refine jm_calli (As := [.int f, .int y]) (rest := []) C fG_X11_166 (c_lotIn (f) (y) hl hnl) rfl rfl (Nat.le_of_ble_eq_true rfl) ⟨Nat.le_of_ble_eq_true rfl, Nat.le_of_ble_eq_true rfl⟩ dX11_standing_8 (fun r_8 S_8 e_8 => ?_)
    obtain ⟨e1_8, e2_8⟩ := e_8
    subst e2_8
    refine jm_goto (tgt := 15) C dX11_standing_11 (by decide) ?_
    refine jm_istore (lv' := [(0, .ref m0), (1, .int f), (2, .int y), (3, .int q), (4, .int r_8)]) C dX11_standing_15 (by decide) rfl ?_
    refine jm_iload C dX11_standing_17 rfl ?_
    refine jm_iconst (v := (-1)) C dX11_standing_19 (by decide) ?_
    refine jm_icmp_eq (tgt := 31) C dX11_standing_20 (by decide) (fun c_20 => ?_) (fun c_20 => ?_)
    · refine jm_iconst (v := 0) C dX11_standing_31 (by decide) ?_
      refine jm_istore (lv' := [(0, .ref m0), (1, .int f), (2, .int y), (3, .int q), (4, .int r_8), (5, .int 0)]) C dX11_standing_32 (by decide) rfl ?_
      refine jm_iconst (v := 0) C dX11_standing_34 (by decide) ?_
      refine jm_istore (lv' := [(0, .ref m0), (1, .int f), (2, .int y), (3, .int q), (4, .int r_8), (5, .int 0), (6, .int 0)]) C dX11_standing_35 (by decide) rfl ?_
      exact L_standing C hs hns ret (ns + 1) ns 0 0 (by omega) (by omega) (if_neg (fun z => z.2 (e1_8.symm.trans c_20)))
    · obtain ⟨j_8, hj_8, hb_8, ej_8⟩ := lotInS_ix (fun z => c_20 (e1_8.trans z))
      obtain rfl : r_8 = nI j_8 := e1_8.trans ej_8
      refine jm_aload_n C dX11_standing_23 rfl ?_
      refine jm_getA C fF_X11_49 (by decide) (by decide) dX11_standing_24 ?_
      refine jm_iload C dX11_standing_27 rfl ?_
      refine jm_aldN C 22 (n := 200) (by decide) (by decide) rfl (by omega) dX11_standing_29 ?_
      exact ret _ _ _ _ ⟨by rw [standS, if_pos ⟨c_2, fun z => c_20 (e1_8.trans z)⟩, ← e1_8, ix_nI (by omega)], rfl⟩ dX11_standing_30
def dflt (kind : Int32) : Int32 := if kind = 0 then 50 else if kind = 1 then 2 else if kind = 2 then 1 else if kind = 3 then 10 else 6
def gForce (S : Nat → Nat → Int32) (kind y q : Int32) (k : Nat) (v : Int32 × Int32) : Int32 × Int32 := if S 17 k = kind ∧ ¬ q < S 20 k ∧ ¬ y < S 18 k ∧ ¬ S 18 k < v.2 then (S 19 k, S 18 k) else v
def inForceS (S : Nat → Nat → Int32) (kind y q : Int32) (nt : Nat) : Int32 := (flp (gForce S kind y q) 0 nt (dflt kind, -1)).1
set_option maxHeartbeats 4000000 in
set_option maxRecDepth 100000 in
theorem L_inForce {p : Program} {l : Launch} {e : Env} {R : Room} {s : State} {m : MethodId} {args : Array Value} {below : List Frame} {meth : Method} {c : Code} {D : va_G} {cy : Nat → ClassId} {A : Nat → Prop} {Q : State → Prop} {m0 : Nat} {ad : Nat → Nat} {h0 : jH} {S : Nat → Nat → Int32} (C : jC p s m args meth c D cy A 7 RX11 cX11_inForce) {kind y q : Int32} {nt : Nat} (ht : S 6 0 = nI nt) (hnt : nt ≤ 100) (ret : ∀ (r : Int32) (S' : Nat → Nat → Int32) (lv : List (Nat × Value)) (pc : Nat), r = inForceS S kind y q nt ∧ S' = S → decode cX11_inForce pc = .ok (.ireturn, 1) → jM p l e R s m args below meth c D cy A 7 Q m0 ad h0 S' lv pc [.int r]) : ∀ (n k i : Nat) (a b : Int32), k < n → i + k = nt → inForceS S kind y q nt = (flp (gForce S kind y q) i k (a, b)).1 → jM p l e R s m args below meth c D cy A 7 Q m0 ad h0 S [(0, .ref m0), (1, .int kind), (2, .int y), (3, .int q), (4, .int a), (5, .int b), (6, .int (nI i))] 47 [] := by
  intro n
  induction n with
  | zero => intro k i a b h1; exact absurd h1 (Nat.not_lt_zero _)
  | succ n ih =>
    intro k i a b h1 h2 he
    refine jm_iload C dX11_inForce_47 rfl ?_
    refine jm_aload_n C dX11_inForce_49 rfl ?_
    refine jm_getS C fF_X11_177 (by decide) dX11_inForce_50 ?_
    refine jm_icmp_ge (tgt := 125) C dX11_inForce_53 (by decide) (fun c_53 => ?_) (fun c_53 => ?_)
    · rw [ht] at c_53
      have hge : nt ≤ i := nI_ge_of c_53 (by omega) (by omega)
      obtain rfl : k = 0 := by omega
      refine jm_iload C dX11_inForce_125 rfl ?_
      exact ret _ _ _ _ ⟨by rw [he]; rfl, rfl⟩ dX11_inForce_127
    · rw [ht] at c_53
      have hlt : i < nt := nI_lt_of c_53 (by omega)
      obtain ⟨k, rfl⟩ : ∃ q, k = q + 1 := ⟨k - 1, by omega⟩
      refine jm_aload_n C dX11_inForce_56 rfl ?_
      refine jm_getA C fF_X11_34 (by decide) (by decide) dX11_inForce_57 ?_
      refine jm_iload C dX11_inForce_60 rfl ?_
      refine jm_aldN C 17 (n := 100) (by decide) (by decide) rfl (by omega) dX11_inForce_62 ?_
      refine jm_iload_n C dX11_inForce_63 rfl ?_
      refine jm_icmp_ne (tgt := 119) C dX11_inForce_64 (by decide) (fun c_64 => ?_) (fun c_64 => ?_)
      · refine jm_iinc (lv' := [(0, .ref m0), (1, .int kind), (2, .int y), (3, .int q), (4, .int a), (5, .int b), (6, .int (nI (i + 1)))]) C dX11_inForce_119 rfl (nI_1 _) (by decide) rfl ?_
        refine jm_goto (tgt := 47) C dX11_inForce_122 (by decide) ?_
        exact ih k (i + 1) _ _ (by omega) (by omega) (he.trans (congrArg Prod.fst (flp_s (by simp [gForce, c_64]))))
      · refine jm_aload_n C dX11_inForce_67 rfl ?_
        refine jm_getA C fF_X11_43 (by decide) (by decide) dX11_inForce_68 ?_
        refine jm_iload C dX11_inForce_71 rfl ?_
        refine jm_aldN C 20 (n := 100) (by decide) (by decide) rfl (by omega) dX11_inForce_73 ?_
        refine jm_iload_n C dX11_inForce_74 rfl ?_
        refine jm_icmp_gt (tgt := 119) C dX11_inForce_75 (by decide) (fun c_75 => ?_) (fun c_75 => ?_)
        · refine jm_iinc (lv' := [(0, .ref m0), (1, .int kind), (2, .int y), (3, .int q), (4, .int a), (5, .int b), (6, .int (nI (i + 1)))]) C dX11_inForce_119 rfl (nI_1 _) (by decide) rfl ?_
          refine jm_goto (tgt := 47) C dX11_inForce_122 (by decide) ?_
          exact ih k (i + 1) _ _ (by omega) (by omega) (he.trans (congrArg Prod.fst (flp_s (by simp [gForce, c_64, c_75]))))
        · refine jm_aload_n C dX11_inForce_78 rfl ?_
          refine jm_getA C fF_X11_37 (by decide) (by decide) dX11_inForce_79 ?_
          refine jm_iload C dX11_inForce_82 rfl ?_
          refine jm_aldN C 18 (n := 100) (by decide) (by decide) rfl (by omega) dX11_inForce_84 ?_
          refine jm_iload_n C dX11_inForce_85 rfl ?_
          refine jm_icmp_gt (tgt := 119) C dX11_inForce_86 (by decide) (fun c_86 => ?_) (fun c_86 => ?_)
          · refine jm_iinc (lv' := [(0, .ref m0), (1, .int kind), (2, .int y), (3, .int q), (4, .int a), (5, .int b), (6, .int (nI (i + 1)))]) C dX11_inForce_119 rfl (nI_1 _) (by decide) rfl ?_
            refine jm_goto (tgt := 47) C dX11_inForce_122 (by decide) ?_
            exact ih k (i + 1) _ _ (by omega) (by omega) (he.trans (congrArg Prod.fst (flp_s (by simp [gForce, c_64, c_75, c_86]))))
          · refine jm_aload_n C dX11_inForce_89 rfl ?_
            refine jm_getA C fF_X11_37 (by decide) (by decide) dX11_inForce_90 ?_
            refine jm_iload C dX11_inForce_93 rfl ?_
            refine jm_aldN C 18 (n := 100) (by decide) (by decide) rfl (by omega) dX11_inForce_95 ?_
            refine jm_iload C dX11_inForce_96 rfl ?_
            refine jm_icmp_lt (tgt := 119) C dX11_inForce_98 (by decide) (fun c_98 => ?_) (fun c_98 => ?_)
            · refine jm_iinc (lv' := [(0, .ref m0), (1, .int kind), (2, .int y), (3, .int q), (4, .int a), (5, .int b), (6, .int (nI (i + 1)))]) C dX11_inForce_119 rfl (nI_1 _) (by decide) rfl ?_
              refine jm_goto (tgt := 47) C dX11_inForce_122 (by decide) ?_
              exact ih k (i + 1) _ _ (by omega) (by omega) (he.trans (congrArg Prod.fst (flp_s (by simp [gForce, c_64, c_75, c_86, c_98]))))
            · refine jm_aload_n C dX11_inForce_101 rfl ?_
              refine jm_getA C fF_X11_40 (by decide) (by decide) dX11_inForce_102 ?_
              refine jm_iload C dX11_inForce_105 rfl ?_
              refine jm_aldN C 19 (n := 100) (by decide) (by decide) rfl (by omega) dX11_inForce_107 ?_
              refine jm_istore (lv' := [(0, .ref m0), (1, .int kind), (2, .int y), (3, .int q), (4, .int (S 19 i)), (5, .int b), (6, .int (nI i))]) C dX11_inForce_108 (by decide) rfl ?_
              refine jm_aload_n C dX11_inForce_110 rfl ?_
              refine jm_getA C fF_X11_37 (by decide) (by decide) dX11_inForce_111 ?_
              refine jm_iload C dX11_inForce_114 rfl ?_
              refine jm_aldN C 18 (n := 100) (by decide) (by decide) rfl (by omega) dX11_inForce_116 ?_
              refine jm_istore (lv' := [(0, .ref m0), (1, .int kind), (2, .int y), (3, .int q), (4, .int (S 19 i)), (5, .int (S 18 i)), (6, .int (nI i))]) C dX11_inForce_117 (by decide) rfl ?_
              refine jm_iinc (lv' := [(0, .ref m0), (1, .int kind), (2, .int y), (3, .int q), (4, .int (S 19 i)), (5, .int (S 18 i)), (6, .int (nI (i + 1)))]) C dX11_inForce_119 rfl (nI_1 _) (by decide) rfl ?_
              refine jm_goto (tgt := 47) C dX11_inForce_122 (by decide) ?_
              exact ih k (i + 1) _ _ (by omega) (by omega) (he.trans (congrArg Prod.fst (flp_s (by simp [gForce, c_64, c_75, c_86, c_98]))))
set_option maxHeartbeats 4000000 in
set_option maxRecDepth 100000 in
theorem c_inForce {l : Launch} {D : va_G} {cy : Nat → ClassId} {m0 : Nat} {ad : Nat → Nat} {S : Nat → Nat → Int32} (kind y q : Int32) {nt : Nat} (ht : S 6 0 = nI nt) (hnt : nt ≤ 100) : mI l D cy yX11_inForce (.code yX11_inForce cX11_inForce 7 ((Option.some FieldType.int))) 1 m0 ad [.int kind, .int y, .int q] S (fun r S' => r = inForceS S kind y q nt ∧ S' = S) := by
  refine m_ofI rfl (Nat.le_of_ble_eq_true rfl) (fun p e s m args below meth c A Q h0 C ret => ?_)
  refine jm_iload_n C dX11_inForce_0 rfl ?_
  refine jm_if_ne (tgt := 9) C dX11_inForce_1 (by decide) (fun c_1 => ?_) (fun c_1 => ?_)
  · refine jm_iload_n C dX11_inForce_9 rfl ?_
    refine jm_iconst (v := 1) C dX11_inForce_10 (by decide) ?_
    refine jm_icmp_ne (tgt := 18) C dX11_inForce_11 (by decide) (fun c_11 => ?_) (fun c_11 => ?_)
    · refine jm_iload_n C dX11_inForce_18 rfl ?_
      refine jm_iconst (v := 2) C dX11_inForce_19 (by decide) ?_
      refine jm_icmp_ne (tgt := 27) C dX11_inForce_20 (by decide) (fun c_20 => ?_) (fun c_20 => ?_)
      · refine jm_iload_n C dX11_inForce_27 rfl ?_
        refine jm_iconst (v := 3) C dX11_inForce_28 (by decide) ?_
        refine jm_icmp_ne (tgt := 37) C dX11_inForce_29 (by decide) (fun c_29 => ?_) (fun c_29 => ?_)
        · refine jm_bipush (v := 6) C dX11_inForce_37 (by decide) ?_
          refine jm_istore (lv' := [(0, .ref m0), (1, .int kind), (2, .int y), (3, .int q), (4, .int 6)]) C dX11_inForce_39 (by decide) rfl ?_
          refine jm_iconst (v := (-1)) C dX11_inForce_41 (by decide) ?_
          refine jm_istore (lv' := [(0, .ref m0), (1, .int kind), (2, .int y), (3, .int q), (4, .int 6), (5, .int (-1))]) C dX11_inForce_42 (by decide) rfl ?_
          refine jm_iconst (v := 0) C dX11_inForce_44 (by decide) ?_
          refine jm_istore (lv' := [(0, .ref m0), (1, .int kind), (2, .int y), (3, .int q), (4, .int 6), (5, .int (-1)), (6, .int 0)]) C dX11_inForce_45 (by decide) rfl ?_
          exact L_inForce C ht hnt ret (nt + 1) nt 0 _ _ (by omega) (by omega) (by simp [inForceS, dflt, c_1, c_11, c_20, c_29])
        · refine jm_bipush (v := 10) C dX11_inForce_32 (by decide) ?_
          refine jm_goto (tgt := 39) C dX11_inForce_34 (by decide) ?_
          refine jm_istore (lv' := [(0, .ref m0), (1, .int kind), (2, .int y), (3, .int q), (4, .int 10)]) C dX11_inForce_39 (by decide) rfl ?_
          refine jm_iconst (v := (-1)) C dX11_inForce_41 (by decide) ?_
          refine jm_istore (lv' := [(0, .ref m0), (1, .int kind), (2, .int y), (3, .int q), (4, .int 10), (5, .int (-1))]) C dX11_inForce_42 (by decide) rfl ?_
          refine jm_iconst (v := 0) C dX11_inForce_44 (by decide) ?_
          refine jm_istore (lv' := [(0, .ref m0), (1, .int kind), (2, .int y), (3, .int q), (4, .int 10), (5, .int (-1)), (6, .int 0)]) C dX11_inForce_45 (by decide) rfl ?_
          exact L_inForce C ht hnt ret (nt + 1) nt 0 _ _ (by omega) (by omega) (by simp [inForceS, dflt, c_1, c_11, c_20, c_29])
      · refine jm_iconst (v := 1) C dX11_inForce_23 (by decide) ?_
        refine jm_goto (tgt := 39) C dX11_inForce_24 (by decide) ?_
        refine jm_istore (lv' := [(0, .ref m0), (1, .int kind), (2, .int y), (3, .int q), (4, .int 1)]) C dX11_inForce_39 (by decide) rfl ?_
        refine jm_iconst (v := (-1)) C dX11_inForce_41 (by decide) ?_
        refine jm_istore (lv' := [(0, .ref m0), (1, .int kind), (2, .int y), (3, .int q), (4, .int 1), (5, .int (-1))]) C dX11_inForce_42 (by decide) rfl ?_
        refine jm_iconst (v := 0) C dX11_inForce_44 (by decide) ?_
        refine jm_istore (lv' := [(0, .ref m0), (1, .int kind), (2, .int y), (3, .int q), (4, .int 1), (5, .int (-1)), (6, .int 0)]) C dX11_inForce_45 (by decide) rfl ?_
        exact L_inForce C ht hnt ret (nt + 1) nt 0 _ _ (by omega) (by omega) (by simp [inForceS, dflt, c_1, c_11, c_20])
    · refine jm_iconst (v := 2) C dX11_inForce_14 (by decide) ?_
      refine jm_goto (tgt := 39) C dX11_inForce_15 (by decide) ?_
      refine jm_istore (lv' := [(0, .ref m0), (1, .int kind), (2, .int y), (3, .int q), (4, .int 2)]) C dX11_inForce_39 (by decide) rfl ?_
      refine jm_iconst (v := (-1)) C dX11_inForce_41 (by decide) ?_
      refine jm_istore (lv' := [(0, .ref m0), (1, .int kind), (2, .int y), (3, .int q), (4, .int 2), (5, .int (-1))]) C dX11_inForce_42 (by decide) rfl ?_
      refine jm_iconst (v := 0) C dX11_inForce_44 (by decide) ?_
      refine jm_istore (lv' := [(0, .ref m0), (1, .int kind), (2, .int y), (3, .int q), (4, .int 2), (5, .int (-1)), (6, .int 0)]) C dX11_inForce_45 (by decide) rfl ?_
      exact L_inForce C ht hnt ret (nt + 1) nt 0 _ _ (by omega) (by omega) (by simp [inForceS, dflt, c_1, c_11])
  · refine jm_bipush (v := 50) C dX11_inForce_4 (by decide) ?_
    refine jm_goto (tgt := 39) C dX11_inForce_6 (by decide) ?_
    refine jm_istore (lv' := [(0, .ref m0), (1, .int kind), (2, .int y), (3, .int q), (4, .int 50)]) C dX11_inForce_39 (by decide) rfl ?_
    refine jm_iconst (v := (-1)) C dX11_inForce_41 (by decide) ?_
    refine jm_istore (lv' := [(0, .ref m0), (1, .int kind), (2, .int y), (3, .int q), (4, .int 50), (5, .int (-1))]) C dX11_inForce_42 (by decide) rfl ?_
    refine jm_iconst (v := 0) C dX11_inForce_44 (by decide) ?_
    refine jm_istore (lv' := [(0, .ref m0), (1, .int kind), (2, .int y), (3, .int q), (4, .int 50), (5, .int (-1)), (6, .int 0)]) C dX11_inForce_45 (by decide) rfl ?_
    exact L_inForce C ht hnt ret (nt + 1) nt 0 _ _ (by omega) (by omega) (by simp [inForceS, dflt, c_1])
def mS_year (S : Nat → Nat → Int32)  : Nat → Nat → Int32 := (u2 S 0 0 ((S 0 0) + 1))
def m_year (S : Nat → Nat → Int32)  : Int32 × (Nat → Nat → Int32) := if (¬ S 0 0 = 40) then ((((S 0 0) + 1)), mS_year S ) else ((-1), S)
set_option maxHeartbeats 4000000 in
set_option maxRecDepth 100000 in
theorem c_year {l : Launch} {D : va_G} {cy : Nat → ClassId} {m0 : Nat} {ad : Nat → Nat} {S : Nat → Nat → Int32} : mI l D cy yX11_year (.code yX11_year cX11_year 1 ((Option.some FieldType.int))) 1 m0 ad [] S (fun r S' => (r, S') = m_year S ) := by
  refine m_ofI rfl (Nat.le_of_ble_eq_true rfl) (fun p e s m args below meth c A Q h0 C ret => ?_)
  refine jm_aload_n C dX11_year_0 rfl ?_
  refine jm_getS C fF_X11_141 (by decide) dX11_year_1 ?_
  refine jm_bipush (v := 40) C dX11_year_4 (by decide) ?_
  refine jm_icmp_ne (tgt := 11) C dX11_year_6 (by decide) (fun c_6 => ?_) (fun c_6 => ?_)
  · refine jm_aload_n C dX11_year_11 rfl ?_
    refine jm_dup C dX11_year_12 rfl ?_
    refine jm_getS C fF_X11_141 (by decide) dX11_year_13 ?_
    refine jm_iconst (v := 1) C dX11_year_16 (by decide) ?_
    refine jm_iadd C dX11_year_17 ?_
    refine jm_putS C fP_X11_141 (by decide) dX11_year_18 ?_
    refine jm_aload_n C dX11_year_21 rfl ?_
    refine jm_getSe (v := ((S 0 0) + 1)) C fF_X11_141 (by decide) rfl dX11_year_22 ?_
    exact ret _ _ _ _ (if_pos c_6).symm dX11_year_25
  · refine jm_iconst (v := (-1)) C dX11_year_9 (by decide) ?_
    exact ret _ _ _ _ (if_neg (fun z => by first | exact c_6 z | exact z c_6)).symm dX11_year_10
def mS_field (S : Nat → Nat → Int32) (x y u v : Int32) (nf : Nat)  : Nat → Nat → Int32 := (u2 (u2 (u2 (u2 (u2 S 9 nf (if u < x then u else x)) 11 nf (if x < u then u else x)) 10 nf (if v < y then v else y)) 12 nf (if y < v then v else y)) 1 0 ((nI nf) + 1))
def m_field (S : Nat → Nat → Int32) (x y u v : Int32) (nf : Nat)  : Int32 × (Nat → Nat → Int32) := if (¬ nI nf = 40) ∧ (0 ≤ x ∧ x ≤ 1000) ∧ (0 ≤ y ∧ y ≤ 1000) ∧ (0 ≤ u ∧ u ≤ 1000) ∧ (0 ≤ v ∧ v ≤ 1000) ∧ (¬ x = u) ∧ (¬ y = v) then (((((nI nf) + 1)) - 1), mS_field S x y u v nf) else ((-1), S)
set_option maxHeartbeats 4000000 in
set_option maxRecDepth 100000 in
theorem c_field {l : Launch} {D : va_G} {cy : Nat → ClassId} {m0 : Nat} {ad : Nat → Nat} {S : Nat → Nat → Int32} (x y u v : Int32) {nf : Nat} (hf : S 1 0 = nI nf) (hnf : nf ≤ 40) : mI l D cy yX11_field (.code yX11_field cX11_field 5 ((Option.some FieldType.int))) 1 m0 ad [.int x, .int y, .int u, .int v] S (fun r S' => (r, S') = m_field S x y u v nf) := by
  refine m_ofI rfl (Nat.le_of_ble_eq_true rfl) (fun p e s m args below meth c A Q h0 C ret => ?_)
  refine jm_aload_n C dX11_field_0 rfl ?_
  refine jm_getSe (v := nI nf) C fF_X11_130 (by decide) hf dX11_field_1 ?_
  refine jm_bipush (v := 40) C dX11_field_4 (by decide) ?_
  refine jm_icmp_eq (tgt := 65) C dX11_field_6 (by decide) (fun c_6 => ?_) (fun c_6 => ?_)
  · refine jm_iconst (v := (-1)) C dX11_field_65 (by decide) ?_
    exact ret _ _ _ _ (if_neg (fun z => by first | exact c_6 z.1 | exact z.1 c_6)).symm dX11_field_66
  · refine jm_iload_n C dX11_field_9 rfl ?_
    refine jm_iconst (v := 0) C dX11_field_10 (by decide) ?_
    refine jm_sipush (v := 1000) C dX11_field_11 (by decide) ?_
    refine jm_calls (As := [.int x, .int 0, .int 1000]) (rest := []) C fG_X11_134 (c_in (x) (0) (1000)) rfl rfl (Nat.le_of_ble_eq_true rfl) ⟨Nat.le_of_ble_eq_true rfl, Nat.le_of_ble_eq_true rfl⟩ dX11_field_14 (fun r_14 e_14 => ?_)
    subst e_14
    refine jm_ifeq_b (tgt := 65) C dX11_field_17 (by decide) (fun c_17 => ?_) (fun c_17 => ?_)
    · refine jm_iconst (v := (-1)) C dX11_field_65 (by decide) ?_
      exact ret _ _ _ _ (if_neg (fun z => by first | exact c_17 z.2.1 | exact z.2.1 c_17)).symm dX11_field_66
    · refine jm_iload_n C dX11_field_20 rfl ?_
      refine jm_iconst (v := 0) C dX11_field_21 (by decide) ?_
      refine jm_sipush (v := 1000) C dX11_field_22 (by decide) ?_
      refine jm_calls (As := [.int y, .int 0, .int 1000]) (rest := []) C fG_X11_134 (c_in (y) (0) (1000)) rfl rfl (Nat.le_of_ble_eq_true rfl) ⟨Nat.le_of_ble_eq_true rfl, Nat.le_of_ble_eq_true rfl⟩ dX11_field_25 (fun r_25 e_25 => ?_)
      subst e_25
      refine jm_ifeq_b (tgt := 65) C dX11_field_28 (by decide) (fun c_28 => ?_) (fun c_28 => ?_)
      · refine jm_iconst (v := (-1)) C dX11_field_65 (by decide) ?_
        exact ret _ _ _ _ (if_neg (fun z => by first | exact c_28 z.2.2.1 | exact z.2.2.1 c_28)).symm dX11_field_66
      · refine jm_iload_n C dX11_field_31 rfl ?_
        refine jm_iconst (v := 0) C dX11_field_32 (by decide) ?_
        refine jm_sipush (v := 1000) C dX11_field_33 (by decide) ?_
        refine jm_calls (As := [.int u, .int 0, .int 1000]) (rest := []) C fG_X11_134 (c_in (u) (0) (1000)) rfl rfl (Nat.le_of_ble_eq_true rfl) ⟨Nat.le_of_ble_eq_true rfl, Nat.le_of_ble_eq_true rfl⟩ dX11_field_36 (fun r_36 e_36 => ?_)
        subst e_36
        refine jm_ifeq_b (tgt := 65) C dX11_field_39 (by decide) (fun c_39 => ?_) (fun c_39 => ?_)
        · refine jm_iconst (v := (-1)) C dX11_field_65 (by decide) ?_
          exact ret _ _ _ _ (if_neg (fun z => by first | exact c_39 z.2.2.2.1 | exact z.2.2.2.1 c_39)).symm dX11_field_66
        · refine jm_iload C dX11_field_42 rfl ?_
          refine jm_iconst (v := 0) C dX11_field_44 (by decide) ?_
          refine jm_sipush (v := 1000) C dX11_field_45 (by decide) ?_
          refine jm_calls (As := [.int v, .int 0, .int 1000]) (rest := []) C fG_X11_134 (c_in (v) (0) (1000)) rfl rfl (Nat.le_of_ble_eq_true rfl) ⟨Nat.le_of_ble_eq_true rfl, Nat.le_of_ble_eq_true rfl⟩ dX11_field_48 (fun r_48 e_48 => ?_)
          subst e_48
          refine jm_ifeq_b (tgt := 65) C dX11_field_51 (by decide) (fun c_51 => ?_) (fun c_51 => ?_)
          · refine jm_iconst (v := (-1)) C dX11_field_65 (by decide) ?_
            exact ret _ _ _ _ (if_neg (fun z => by first | exact c_51 z.2.2.2.2.1 | exact z.2.2.2.2.1 c_51)).symm dX11_field_66
          · refine jm_iload_n C dX11_field_54 rfl ?_
            refine jm_iload_n C dX11_field_55 rfl ?_
            refine jm_icmp_eq (tgt := 65) C dX11_field_56 (by decide) (fun c_56 => ?_) (fun c_56 => ?_)
            · refine jm_iconst (v := (-1)) C dX11_field_65 (by decide) ?_
              exact ret _ _ _ _ (if_neg (fun z => by first | exact c_56 z.2.2.2.2.2.1 | exact z.2.2.2.2.2.1 c_56)).symm dX11_field_66
            · refine jm_iload_n C dX11_field_59 rfl ?_
              refine jm_iload C dX11_field_60 rfl ?_
              refine jm_icmp_ne (tgt := 67) C dX11_field_62 (by decide) (fun c_62 => ?_) (fun c_62 => ?_)
              · have hlt : nf < 40 := by
                  rcases Nat.lt_or_ge nf 40 with q | q
                  · exact q
                  · exact absurd (by rw [show nf = 40 by omega]; rfl) c_6
                refine jm_aload_n C dX11_field_67 rfl ?_
                refine jm_getA C fF_X11_9 (by decide) (by decide) dX11_field_68 ?_
                refine jm_aload_n C dX11_field_71 rfl ?_
                refine jm_getSe (v := nI nf) C fF_X11_130 (by decide) hf dX11_field_72 ?_
                refine jm_iload_n C dX11_field_75 rfl ?_
                refine jm_iload_n C dX11_field_76 rfl ?_
                refine jm_min C kM_X11_144 dX11_field_77 (Nat.le_of_ble_eq_true rfl) (Nat.le_of_ble_eq_true rfl) ?_
                refine jm_astN C 9 (n := 40) (by decide) (by decide) rfl (by omega) dX11_field_80 ?_
                refine jm_aload_n C dX11_field_81 rfl ?_
                refine jm_getA C fF_X11_16 (by decide) (by decide) dX11_field_82 ?_
                refine jm_aload_n C dX11_field_85 rfl ?_
                refine jm_getSe (v := nI nf) C fF_X11_130 (by decide) hf dX11_field_86 ?_
                refine jm_iload_n C dX11_field_89 rfl ?_
                refine jm_iload_n C dX11_field_90 rfl ?_
                refine jm_max C kM_X11_150 dX11_field_91 (Nat.le_of_ble_eq_true rfl) (Nat.le_of_ble_eq_true rfl) ?_
                refine jm_astN C 11 (n := 40) (by decide) (by decide) rfl (by omega) dX11_field_94 ?_
                refine jm_aload_n C dX11_field_95 rfl ?_
                refine jm_getA C fF_X11_13 (by decide) (by decide) dX11_field_96 ?_
                refine jm_aload_n C dX11_field_99 rfl ?_
                refine jm_getSe (v := nI nf) C fF_X11_130 (by decide) hf dX11_field_100 ?_
                refine jm_iload_n C dX11_field_103 rfl ?_
                refine jm_iload C dX11_field_104 rfl ?_
                refine jm_min C kM_X11_144 dX11_field_106 (Nat.le_of_ble_eq_true rfl) (Nat.le_of_ble_eq_true rfl) ?_
                refine jm_astN C 10 (n := 40) (by decide) (by decide) rfl (by omega) dX11_field_109 ?_
                refine jm_aload_n C dX11_field_110 rfl ?_
                refine jm_getA C fF_X11_19 (by decide) (by decide) dX11_field_111 ?_
                refine jm_aload_n C dX11_field_114 rfl ?_
                refine jm_getSe (v := nI nf) C fF_X11_130 (by decide) hf dX11_field_115 ?_
                refine jm_iload_n C dX11_field_118 rfl ?_
                refine jm_iload C dX11_field_119 rfl ?_
                refine jm_max C kM_X11_150 dX11_field_121 (Nat.le_of_ble_eq_true rfl) (Nat.le_of_ble_eq_true rfl) ?_
                refine jm_astN C 12 (n := 40) (by decide) (by decide) rfl (by omega) dX11_field_124 ?_
                refine jm_aload_n C dX11_field_125 rfl ?_
                refine jm_dup C dX11_field_126 rfl ?_
                refine jm_getSe (v := nI nf) C fF_X11_130 (by decide) hf dX11_field_127 ?_
                refine jm_iconst (v := 1) C dX11_field_130 (by decide) ?_
                refine jm_iadd C dX11_field_131 ?_
                refine jm_putS C fP_X11_130 (by decide) dX11_field_132 ?_
                refine jm_aload_n C dX11_field_135 rfl ?_
                refine jm_getSe (v := ((nI nf) + 1)) C fF_X11_130 (by decide) rfl dX11_field_136 ?_
                refine jm_iconst (v := 1) C dX11_field_139 (by decide) ?_
                refine jm_isub C dX11_field_140 ?_
                exact ret _ _ _ _ (if_pos ⟨c_6, c_17, c_28, c_39, c_51, c_56, c_62⟩).symm dX11_field_141
              · refine jm_iconst (v := (-1)) C dX11_field_65 (by decide) ?_
                exact ret _ _ _ _ (if_neg (fun z => by first | exact c_62 z.2.2.2.2.2.2 | exact z.2.2.2.2.2.2 c_62)).symm dX11_field_66
end
