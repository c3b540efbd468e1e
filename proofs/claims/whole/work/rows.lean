section
-- ===== PART A: goes FIRST, ahead of the names: the tables' words, and 'selects' of the private methods out of them =====
/-- a private method of a class that the tables say can be made, by its rows of tables_1 -/
def lw_okq (q : MethodName × Nat) : Prop := (q.1.cls ≠ "java/lang/invoke/MethodHandle" ∧ q.1.cls ≠ "java/lang/invoke/VarHandle") ∧ Cond.instantiable q.1.cls q.2 ∈ tables_1 ∧ Cond.privateMethod q.1 ∈ tables_1 ∧ Cond.instanceMethod q.1 ∈ tables_1
theorem lw_p0 : lw_okq (⟨"CleanSeed", "isOutNow", "(LCleanSeed$Lot;)Z"⟩, 5) := ⟨⟨by decide +kernel, by decide +kernel⟩, List.mem_of_getElem? (i := 16) (by decide +kernel), List.mem_of_getElem? (i := 443) (by decide +kernel), List.mem_of_getElem? (i := 444) (by decide +kernel)⟩
theorem lw_p1 : lw_okq (⟨"CleanSeed$Assessor", "assess", "(LCleanSeed$Lot;I)V"⟩, 1) := ⟨⟨by decide +kernel, by decide +kernel⟩, List.mem_of_getElem? (i := 90) (by decide +kernel), List.mem_of_getElem? (i := 452) (by decide +kernel), List.mem_of_getElem? (i := 453) (by decide +kernel)⟩
theorem lw_p2 : lw_okq (⟨"CleanSeed$Assessor", "reasonToRefuse", "(LCleanSeed$Lot;I)I"⟩, 1) := ⟨⟨by decide +kernel, by decide +kernel⟩, List.mem_of_getElem? (i := 90) (by decide +kernel), List.mem_of_getElem? (i := 456) (by decide +kernel), List.mem_of_getElem? (i := 457) (by decide +kernel)⟩
theorem lw_p3 : lw_okq (⟨"CleanSeed$Assessor", "reasonInField", "(LCleanSeed$Lot;I)I"⟩, 1) := ⟨⟨by decide +kernel, by decide +kernel⟩, List.mem_of_getElem? (i := 90) (by decide +kernel), List.mem_of_getElem? (i := 469) (by decide +kernel), List.mem_of_getElem? (i := 470) (by decide +kernel)⟩
theorem lw_p4 : lw_okq (⟨"CleanSeed$Assessor", "isCrowded", "(LCleanSeed$Lot;I)Z"⟩, 1) := ⟨⟨by decide +kernel, by decide +kernel⟩, List.mem_of_getElem? (i := 90) (by decide +kernel), List.mem_of_getElem? (i := 473) (by decide +kernel), List.mem_of_getElem? (i := 474) (by decide +kernel)⟩
theorem lw_p5 : lw_okq (⟨"CleanSeed$Assessor", "isAsGood", "(LCleanSeed$Lot;LCleanSeed$Lot;)Z"⟩, 1) := ⟨⟨by decide +kernel, by decide +kernel⟩, List.mem_of_getElem? (i := 90) (by decide +kernel), List.mem_of_getElem? (i := 482) (by decide +kernel), List.mem_of_getElem? (i := 483) (by decide +kernel)⟩
theorem lw_p6 : lw_okq (⟨"CleanSeed", "lotKnownIn", "(II)LCleanSeed$Lot;"⟩, 5) := ⟨⟨by decide +kernel, by decide +kernel⟩, List.mem_of_getElem? (i := 16) (by decide +kernel), List.mem_of_getElem? (i := 611) (by decide +kernel), List.mem_of_getElem? (i := 612) (by decide +kernel)⟩
theorem lw_p7 : lw_okq (⟨"CleanSeed$Kin", "markAbove", "(LCleanSeed$Lot;)V"⟩, 1) := ⟨⟨by decide +kernel, by decide +kernel⟩, List.mem_of_getElem? (i := 100) (by decide +kernel), List.mem_of_getElem? (i := 642) (by decide +kernel), List.mem_of_getElem? (i := 643) (by decide +kernel)⟩
theorem lw_p8 : lw_okq (⟨"CleanSeed$Kin", "markAkin", "(LCleanSeed$Lot;)V"⟩, 1) := ⟨⟨by decide +kernel, by decide +kernel⟩, List.mem_of_getElem? (i := 100) (by decide +kernel), List.mem_of_getElem? (i := 649) (by decide +kernel), List.mem_of_getElem? (i := 650) (by decide +kernel)⟩
theorem lw_p9 : lw_okq (⟨"CleanSeed$Planner", "markMayTake", "(II)V"⟩, 8) := ⟨⟨by decide +kernel, by decide +kernel⟩, List.mem_of_getElem? (i := 110) (by decide +kernel), List.mem_of_getElem? (i := 690) (by decide +kernel), List.mem_of_getElem? (i := 691) (by decide +kernel)⟩
theorem lw_p10 : lw_okq (⟨"CleanSeed$Planner", "markTooNear", "(I)V"⟩, 8) := ⟨⟨by decide +kernel, by decide +kernel⟩, List.mem_of_getElem? (i := 110) (by decide +kernel), List.mem_of_getElem? (i := 696) (by decide +kernel), List.mem_of_getElem? (i := 697) (by decide +kernel)⟩
theorem lw_p11 : lw_okq (⟨"CleanSeed$Planner", "search", "(II)V"⟩, 8) := ⟨⟨by decide +kernel, by decide +kernel⟩, List.mem_of_getElem? (i := 110) (by decide +kernel), List.mem_of_getElem? (i := 701) (by decide +kernel), List.mem_of_getElem? (i := 702) (by decide +kernel)⟩
theorem lw_p12 : lw_okq (⟨"CleanSeed$Planner", "fits", "(II)Z"⟩, 8) := ⟨⟨by decide +kernel, by decide +kernel⟩, List.mem_of_getElem? (i := 110) (by decide +kernel), List.mem_of_getElem? (i := 708) (by decide +kernel), List.mem_of_getElem? (i := 709) (by decide +kernel)⟩
theorem lw_p13 : lw_okq (⟨"CleanSeedModel", "isField", "(I)Z"⟩, 49) := ⟨⟨by decide +kernel, by decide +kernel⟩, List.mem_of_getElem? (i := 741) (by decide +kernel), List.mem_of_getElem? (i := 908) (by decide +kernel), List.mem_of_getElem? (i := 909) (by decide +kernel)⟩
theorem lw_p14 : lw_okq (⟨"CleanSeedModel", "nearness", "(II)I"⟩, 49) := ⟨⟨by decide +kernel, by decide +kernel⟩, List.mem_of_getElem? (i := 741) (by decide +kernel), List.mem_of_getElem? (i := 912) (by decide +kernel), List.mem_of_getElem? (i := 913) (by decide +kernel)⟩
theorem lw_p15 : lw_okq (⟨"CleanSeedModel", "isYear", "(I)Z"⟩, 49) := ⟨⟨by decide +kernel, by decide +kernel⟩, List.mem_of_getElem? (i := 741) (by decide +kernel), List.mem_of_getElem? (i := 920) (by decide +kernel), List.mem_of_getElem? (i := 921) (by decide +kernel)⟩
def lw_privs_1 : List (MethodName × Nat) := [(⟨"CleanSeed", "isOutNow", "(LCleanSeed$Lot;)Z"⟩, 5), (⟨"CleanSeed$Assessor", "assess", "(LCleanSeed$Lot;I)V"⟩, 1), (⟨"CleanSeed$Assessor", "reasonToRefuse", "(LCleanSeed$Lot;I)I"⟩, 1), (⟨"CleanSeed$Assessor", "reasonInField", "(LCleanSeed$Lot;I)I"⟩, 1), (⟨"CleanSeed$Assessor", "isCrowded", "(LCleanSeed$Lot;I)Z"⟩, 1), (⟨"CleanSeed$Assessor", "isAsGood", "(LCleanSeed$Lot;LCleanSeed$Lot;)Z"⟩, 1), (⟨"CleanSeed", "lotKnownIn", "(II)LCleanSeed$Lot;"⟩, 5), (⟨"CleanSeed$Kin", "markAbove", "(LCleanSeed$Lot;)V"⟩, 1), (⟨"CleanSeed$Kin", "markAkin", "(LCleanSeed$Lot;)V"⟩, 1), (⟨"CleanSeed$Planner", "markMayTake", "(II)V"⟩, 8), (⟨"CleanSeed$Planner", "markTooNear", "(I)V"⟩, 8), (⟨"CleanSeed$Planner", "search", "(II)V"⟩, 8), (⟨"CleanSeed$Planner", "fits", "(II)Z"⟩, 8), (⟨"CleanSeedModel", "isField", "(I)Z"⟩, 49), (⟨"CleanSeedModel", "nearness", "(II)I"⟩, 49), (⟨"CleanSeedModel", "isYear", "(I)Z"⟩, 49)]
theorem lw_r1 : ∀ q ∈ lw_privs_1, lw_okq q := List.forall_mem_cons.mpr ⟨lw_p0, List.forall_mem_cons.mpr ⟨lw_p1, List.forall_mem_cons.mpr ⟨lw_p2, List.forall_mem_cons.mpr ⟨lw_p3, List.forall_mem_cons.mpr ⟨lw_p4, List.forall_mem_cons.mpr ⟨lw_p5, List.forall_mem_cons.mpr ⟨lw_p6, List.forall_mem_cons.mpr ⟨lw_p7, List.forall_mem_cons.mpr ⟨lw_p8, List.forall_mem_cons.mpr ⟨lw_p9, List.forall_mem_cons.mpr ⟨lw_p10, List.forall_mem_cons.mpr ⟨lw_p11, List.forall_mem_cons.mpr ⟨lw_p12, List.forall_mem_cons.mpr ⟨lw_p13, List.forall_mem_cons.mpr ⟨lw_p14, List.forall_mem_cons.mpr ⟨lw_p15, fun _ h => absurd h List.not_mem_nil⟩⟩⟩⟩⟩⟩⟩⟩⟩⟩⟩⟩⟩⟩⟩⟩
theorem lw_p16 : lw_okq (⟨"CleanSeedModel", "standing", "(III)I"⟩, 49) := ⟨⟨by decide +kernel, by decide +kernel⟩, List.mem_of_getElem? (i := 741) (by decide +kernel), List.mem_of_getElem? (i := 928) (by decide +kernel), List.mem_of_getElem? (i := 929) (by decide +kernel)⟩
theorem lw_p17 : lw_okq (⟨"CleanSeedModel", "lotIn", "(II)I"⟩, 49) := ⟨⟨by decide +kernel, by decide +kernel⟩, List.mem_of_getElem? (i := 741) (by decide +kernel), List.mem_of_getElem? (i := 932) (by decide +kernel), List.mem_of_getElem? (i := 933) (by decide +kernel)⟩
theorem lw_p18 : lw_okq (⟨"CleanSeedModel", "inForce", "(III)I"⟩, 49) := ⟨⟨by decide +kernel, by decide +kernel⟩, List.mem_of_getElem? (i := 741) (by decide +kernel), List.mem_of_getElem? (i := 947) (by decide +kernel), List.mem_of_getElem? (i := 948) (by decide +kernel)⟩
theorem lw_p19 : lw_okq (⟨"CleanSeedModel", "lot", "(II)I"⟩, 49) := ⟨⟨by decide +kernel, by decide +kernel⟩, List.mem_of_getElem? (i := 741) (by decide +kernel), List.mem_of_getElem? (i := 955) (by decide +kernel), List.mem_of_getElem? (i := 956) (by decide +kernel)⟩
theorem lw_p20 : lw_okq (⟨"CleanSeedModel", "isLot", "(I)Z"⟩, 49) := ⟨⟨by decide +kernel, by decide +kernel⟩, List.mem_of_getElem? (i := 741) (by decide +kernel), List.mem_of_getElem? (i := 963) (by decide +kernel), List.mem_of_getElem? (i := 964) (by decide +kernel)⟩
theorem lw_p21 : lw_okq (⟨"CleanSeedModel", "classOf", "(II)I"⟩, 49) := ⟨⟨by decide +kernel, by decide +kernel⟩, List.mem_of_getElem? (i := 741) (by decide +kernel), List.mem_of_getElem? (i := 980) (by decide +kernel), List.mem_of_getElem? (i := 981) (by decide +kernel)⟩
theorem lw_p22 : lw_okq (⟨"CleanSeedModel", "judgeOne", "(II)V"⟩, 49) := ⟨⟨by decide +kernel, by decide +kernel⟩, List.mem_of_getElem? (i := 741) (by decide +kernel), List.mem_of_getElem? (i := 984) (by decide +kernel), List.mem_of_getElem? (i := 985) (by decide +kernel)⟩
theorem lw_p23 : lw_okq (⟨"CleanSeedModel", "wrongField", "(II)I"⟩, 49) := ⟨⟨by decide +kernel, by decide +kernel⟩, List.mem_of_getElem? (i := 741) (by decide +kernel), List.mem_of_getElem? (i := 988) (by decide +kernel), List.mem_of_getElem? (i := 989) (by decide +kernel)⟩
theorem lw_p24 : lw_okq (⟨"CleanSeedModel", "looksOf", "(II)I"⟩, 49) := ⟨⟨by decide +kernel, by decide +kernel⟩, List.mem_of_getElem? (i := 741) (by decide +kernel), List.mem_of_getElem? (i := 992) (by decide +kernel), List.mem_of_getElem? (i := 993) (by decide +kernel)⟩
theorem lw_p25 : lw_okq (⟨"CleanSeedModel", "isBag", "(I)Z"⟩, 49) := ⟨⟨by decide +kernel, by decide +kernel⟩, List.mem_of_getElem? (i := 741) (by decide +kernel), List.mem_of_getElem? (i := 1001) (by decide +kernel), List.mem_of_getElem? (i := 1002) (by decide +kernel)⟩
theorem lw_p26 : lw_okq (⟨"CleanSeedModel", "isJudged", "(II)Z"⟩, 49) := ⟨⟨by decide +kernel, by decide +kernel⟩, List.mem_of_getElem? (i := 741) (by decide +kernel), List.mem_of_getElem? (i := 1039) (by decide +kernel), List.mem_of_getElem? (i := 1040) (by decide +kernel)⟩
theorem lw_p27 : lw_okq (⟨"CleanSeedModel", "rowsTo", "(I)V"⟩, 49) := ⟨⟨by decide +kernel, by decide +kernel⟩, List.mem_of_getElem? (i := 741) (by decide +kernel), List.mem_of_getElem? (i := 1051) (by decide +kernel), List.mem_of_getElem? (i := 1052) (by decide +kernel)⟩
theorem lw_p28 : lw_okq (⟨"CleanSeedModel", "isIn", "(III)Z"⟩, 49) := ⟨⟨by decide +kernel, by decide +kernel⟩, List.mem_of_getElem? (i := 741) (by decide +kernel), List.mem_of_getElem? (i := 1060) (by decide +kernel), List.mem_of_getElem? (i := 1061) (by decide +kernel)⟩
theorem lw_p29 : lw_okq (⟨"CleanSeedModel", "isOf", "(II)Z"⟩, 49) := ⟨⟨by decide +kernel, by decide +kernel⟩, List.mem_of_getElem? (i := 741) (by decide +kernel), List.mem_of_getElem? (i := 1064) (by decide +kernel), List.mem_of_getElem? (i := 1065) (by decide +kernel)⟩
theorem lw_p30 : lw_okq (⟨"CleanSeedModel", "findPlan", "()V"⟩, 49) := ⟨⟨by decide +kernel, by decide +kernel⟩, List.mem_of_getElem? (i := 741) (by decide +kernel), List.mem_of_getElem? (i := 1080) (by decide +kernel), List.mem_of_getElem? (i := 1081) (by decide +kernel)⟩
theorem lw_p31 : lw_okq (⟨"CleanSeedModel", "isGood", "(I)Z"⟩, 49) := ⟨⟨by decide +kernel, by decide +kernel⟩, List.mem_of_getElem? (i := 741) (by decide +kernel), List.mem_of_getElem? (i := 1084) (by decide +kernel), List.mem_of_getElem? (i := 1085) (by decide +kernel)⟩
def lw_privs_2 : List (MethodName × Nat) := [(⟨"CleanSeedModel", "standing", "(III)I"⟩, 49), (⟨"CleanSeedModel", "lotIn", "(II)I"⟩, 49), (⟨"CleanSeedModel", "inForce", "(III)I"⟩, 49), (⟨"CleanSeedModel", "lot", "(II)I"⟩, 49), (⟨"CleanSeedModel", "isLot", "(I)Z"⟩, 49), (⟨"CleanSeedModel", "classOf", "(II)I"⟩, 49), (⟨"CleanSeedModel", "judgeOne", "(II)V"⟩, 49), (⟨"CleanSeedModel", "wrongField", "(II)I"⟩, 49), (⟨"CleanSeedModel", "looksOf", "(II)I"⟩, 49), (⟨"CleanSeedModel", "isBag", "(I)Z"⟩, 49), (⟨"CleanSeedModel", "isJudged", "(II)Z"⟩, 49), (⟨"CleanSeedModel", "rowsTo", "(I)V"⟩, 49), (⟨"CleanSeedModel", "isIn", "(III)Z"⟩, 49), (⟨"CleanSeedModel", "isOf", "(II)Z"⟩, 49), (⟨"CleanSeedModel", "findPlan", "()V"⟩, 49), (⟨"CleanSeedModel", "isGood", "(I)Z"⟩, 49)]
theorem lw_r2 : ∀ q ∈ lw_privs_2, lw_okq q := List.forall_mem_cons.mpr ⟨lw_p16, List.forall_mem_cons.mpr ⟨lw_p17, List.forall_mem_cons.mpr ⟨lw_p18, List.forall_mem_cons.mpr ⟨lw_p19, List.forall_mem_cons.mpr ⟨lw_p20, List.forall_mem_cons.mpr ⟨lw_p21, List.forall_mem_cons.mpr ⟨lw_p22, List.forall_mem_cons.mpr ⟨lw_p23, List.forall_mem_cons.mpr ⟨lw_p24, List.forall_mem_cons.mpr ⟨lw_p25, List.forall_mem_cons.mpr ⟨lw_p26, List.forall_mem_cons.mpr ⟨lw_p27, List.forall_mem_cons.mpr ⟨lw_p28, List.forall_mem_cons.mpr ⟨lw_p29, List.forall_mem_cons.mpr ⟨lw_p30, List.forall_mem_cons.mpr ⟨lw_p31, fun _ h => absurd h List.not_mem_nil⟩⟩⟩⟩⟩⟩⟩⟩⟩⟩⟩⟩⟩⟩⟩⟩
theorem lw_p32 : lw_okq (⟨"CleanSeedModel", "isFree", "(II)Z"⟩, 49) := ⟨⟨by decide +kernel, by decide +kernel⟩, List.mem_of_getElem? (i := 741) (by decide +kernel), List.mem_of_getElem? (i := 1088) (by decide +kernel), List.mem_of_getElem? (i := 1089) (by decide +kernel)⟩
theorem lw_p33 : lw_okq (⟨"CleanSeedModel", "outs", "()I"⟩, 49) := ⟨⟨by decide +kernel, by decide +kernel⟩, List.mem_of_getElem? (i := 741) (by decide +kernel), List.mem_of_getElem? (i := 1104) (by decide +kernel), List.mem_of_getElem? (i := 1105) (by decide +kernel)⟩
def lw_privs_3 : List (MethodName × Nat) := [(⟨"CleanSeedModel", "isFree", "(II)Z"⟩, 49), (⟨"CleanSeedModel", "outs", "()I"⟩, 49)]
theorem lw_r3 : ∀ q ∈ lw_privs_3, lw_okq q := List.forall_mem_cons.mpr ⟨lw_p32, List.forall_mem_cons.mpr ⟨lw_p33, fun _ h => absurd h List.not_mem_nil⟩⟩
def lw_privs : List (MethodName × Nat) := lw_privs_1 ++ (lw_privs_2 ++ (lw_privs_3))
def lw_tbl : List Cond := k2_sels lw_privs ++ tables_1
theorem lw_privs_ok : ∀ q ∈ lw_privs, lw_okq q := by
  show ∀ q ∈ lw_privs_1 ++ (lw_privs_2 ++ (lw_privs_3)), lw_okq q
  exact List.forall_mem_append.mpr ⟨lw_r1, List.forall_mem_append.mpr ⟨lw_r2, lw_r3⟩⟩
end
section
def RX0 : String := "CleanSeed$Assessor"
def TX0 : u_T := fun k => match k with
  | _ => ("CleanSeed$Assessor", "book", "LCleanSeed$Book;", true)
def tyX0 : Nat → FieldType := fun k => match k with
  | _ => .object "CleanSeed$Book"
theorem nmX0 : ∀ a, a < 1 → ∀ b, b < 1 → a ≠ b → (TX0 a).2.1 ≠ (TX0 b).2.1 := by decide +kernel
theorem tyX0_ok : ∀ k, k < 1 → parseFieldDescriptor (TX0 k).2.2.1 = some (tyX0 k) := by decide +kernel
abbrev cX0_init : ByteArray := prog_2_method_1_code
def yX0_init : MethodName := ⟨RX0, "<init>", "(LCleanSeed$Book;)V"⟩
abbrev cX0_assessUpTo : ByteArray := prog_2_method_2_code
def yX0_assessUpTo : MethodName := ⟨RX0, "assessUpTo", "(II)V"⟩
abbrev cX0_countOut : ByteArray := prog_2_method_3_code
def yX0_countOut : MethodName := ⟨RX0, "countOut", "(I)I"⟩
abbrev cX0_assess : ByteArray := prog_2_method_4_code
def yX0_assess : MethodName := ⟨RX0, "assess", "(LCleanSeed$Lot;I)V"⟩
abbrev cX0_reasonToRefuse : ByteArray := prog_2_method_5_code
def yX0_reasonToRefuse : MethodName := ⟨RX0, "reasonToRefuse", "(LCleanSeed$Lot;I)I"⟩
abbrev cX0_reasonInField : ByteArray := prog_2_method_6_code
def yX0_reasonInField : MethodName := ⟨RX0, "reasonInField", "(LCleanSeed$Lot;I)I"⟩
abbrev cX0_isCrowded : ByteArray := prog_2_method_7_code
def yX0_isCrowded : MethodName := ⟨RX0, "isCrowded", "(LCleanSeed$Lot;I)Z"⟩
abbrev cX0_isAsGood : ByteArray := prog_2_method_8_code
def yX0_isAsGood : MethodName := ⟨RX0, "isAsGood", "(LCleanSeed$Lot;LCleanSeed$Lot;)Z"⟩
def RX1 : String := "CleanSeed$Bag"
def TX1 : u_T := fun k => match k with
  | 0 => ("CleanSeed$Bag", "lot", "LCleanSeed$Lot;", true)
  | 1 => ("CleanSeed$Bag", "grams", "I", true)
  | 2 => ("CleanSeed$Bag", "seal", "I", false)
  | _ => ("CleanSeed$Bag", "buyer", "I", false)
def tyX1 : Nat → FieldType := fun k => match k with
  | 0 => .object "CleanSeed$Lot"
  | 1 => .int
  | 2 => .int
  | _ => .int
theorem nmX1 : ∀ a, a < 4 → ∀ b, b < 4 → a ≠ b → (TX1 a).2.1 ≠ (TX1 b).2.1 := by decide +kernel
theorem tyX1_ok : ∀ k, k < 4 → parseFieldDescriptor (TX1 k).2.2.1 = some (tyX1 k) := by decide +kernel
abbrev cX1_init : ByteArray := prog_3_method_1_code
def yX1_init : MethodName := ⟨RX1, "<init>", "(LCleanSeed$Lot;II)V"⟩
abbrev cX1_isOpened : ByteArray := prog_3_method_2_code
def yX1_isOpened : MethodName := ⟨RX1, "isOpened", "()Z"⟩
abbrev cX1_isSold : ByteArray := prog_3_method_3_code
def yX1_isSold : MethodName := ⟨RX1, "isSold", "()Z"⟩
abbrev cX1_about : ByteArray := prog_3_method_4_code
def yX1_about : MethodName := ⟨RX1, "about", "(I)I"⟩
def RX2 : String := "CleanSeed$Book"
def TX2 : u_T := fun k => match k with
  | 0 => ("CleanSeed$Book", "now", "I", false)
  | 1 => ("CleanSeed$Book", "fields", "[LCleanSeed$Field;", true)
  | 2 => ("CleanSeed$Book", "fieldCount", "I", false)
  | 3 => ("CleanSeed$Book", "lots", "[LCleanSeed$Lot;", true)
  | 4 => ("CleanSeed$Book", "lotCount", "I", false)
  | 5 => ("CleanSeed$Book", "bags", "[LCleanSeed$Bag;", true)
  | 6 => ("CleanSeed$Book", "bagCount", "I", false)
  | 7 => ("CleanSeed$Book", "sealsSoFar", "I", false)
  | 8 => ("CleanSeed$Book", "lastStatutes", "[LCleanSeed$Statute;", true)
  | 9 => ("CleanSeed$Book", "statutesTold", "I", false)
  | 10 => ("CleanSeed$Book", "standsTold", "I", false)
  | _ => ("CleanSeed$Book", "looksTold", "I", false)
def tyX2 : Nat → FieldType := fun k => match k with
  | 0 => .int
  | 1 => .array (.object "CleanSeed$Field")
  | 2 => .int
  | 3 => .array (.object "CleanSeed$Lot")
  | 4 => .int
  | 5 => .array (.object "CleanSeed$Bag")
  | 6 => .int
  | 7 => .int
  | 8 => .array (.object "CleanSeed$Statute")
  | 9 => .int
  | 10 => .int
  | _ => .int
theorem nmX2 : ∀ a, a < 12 → ∀ b, b < 12 → a ≠ b → (TX2 a).2.1 ≠ (TX2 b).2.1 := by decide +kernel
theorem tyX2_ok : ∀ k, k < 12 → parseFieldDescriptor (TX2 k).2.2.1 = some (tyX2 k) := by decide +kernel
abbrev cX2_init : ByteArray := prog_4_method_1_code
def yX2_init : MethodName := ⟨RX2, "<init>", "()V"⟩
abbrev cX2_fieldAt : ByteArray := prog_4_method_2_code
def yX2_fieldAt : MethodName := ⟨RX2, "fieldAt", "(I)LCleanSeed$Field;"⟩
abbrev cX2_lotAt : ByteArray := prog_4_method_3_code
def yX2_lotAt : MethodName := ⟨RX2, "lotAt", "(I)LCleanSeed$Lot;"⟩
abbrev cX2_bagAt : ByteArray := prog_4_method_4_code
def yX2_bagAt : MethodName := ⟨RX2, "bagAt", "(I)LCleanSeed$Bag;"⟩
abbrev cX2_addField : ByteArray := prog_4_method_5_code
def yX2_addField : MethodName := ⟨RX2, "addField", "(LCleanSeed$Field;)I"⟩
abbrev cX2_addLot : ByteArray := prog_4_method_6_code
def yX2_addLot : MethodName := ⟨RX2, "addLot", "(LCleanSeed$Lot;)I"⟩
abbrev cX2_addBag : ByteArray := prog_4_method_7_code
def yX2_addBag : MethodName := ⟨RX2, "addBag", "(LCleanSeed$Bag;)I"⟩
abbrev cX2_nextSeal : ByteArray := prog_4_method_8_code
def yX2_nextSeal : MethodName := ⟨RX2, "nextSeal", "()I"⟩
abbrev cX2_addStatute : ByteArray := prog_4_method_9_code
def yX2_addStatute : MethodName := ⟨RX2, "addStatute", "(III)I"⟩
abbrev cX2_inForce : ByteArray := prog_4_method_10_code
def yX2_inForce : MethodName := ⟨RX2, "inForce", "(III)I"⟩
def RX3 : String := "CleanSeed$Field"
def TX3 : u_T := fun k => match k with
  | 0 => ("CleanSeed$Field", "number", "I", true)
  | 1 => ("CleanSeed$Field", "left", "I", true)
  | 2 => ("CleanSeed$Field", "right", "I", true)
  | 3 => ("CleanSeed$Field", "low", "I", true)
  | 4 => ("CleanSeed$Field", "high", "I", true)
  | 5 => ("CleanSeed$Field", "grown", "[LCleanSeed$Lot;", true)
  | _ => ("CleanSeed$Field", "lastTold", "[LCleanSeed$Telling;", true)
def tyX3 : Nat → FieldType := fun k => match k with
  | 0 => .int
  | 1 => .int
  | 2 => .int
  | 3 => .int
  | 4 => .int
  | 5 => .array (.object "CleanSeed$Lot")
  | _ => .array (.object "CleanSeed$Telling")
theorem nmX3 : ∀ a, a < 7 → ∀ b, b < 7 → a ≠ b → (TX3 a).2.1 ≠ (TX3 b).2.1 := by decide +kernel
theorem tyX3_ok : ∀ k, k < 7 → parseFieldDescriptor (TX3 k).2.2.1 = some (tyX3 k) := by decide +kernel
abbrev cX3_init : ByteArray := prog_5_method_1_code
def yX3_init : MethodName := ⟨RX3, "<init>", "(IIIII)V"⟩
abbrev cX3_squareTo : ByteArray := prog_5_method_2_code
def yX3_squareTo : MethodName := ⟨RX3, "squareTo", "(LCleanSeed$Field;)I"⟩
abbrev cX3_grow : ByteArray := prog_5_method_3_code
def yX3_grow : MethodName := ⟨RX3, "grow", "(LCleanSeed$Lot;)V"⟩
abbrev cX3_tell : ByteArray := prog_5_method_4_code
def yX3_tell : MethodName := ⟨RX3, "tell", "(III)V"⟩
abbrev cX3_grownIn : ByteArray := prog_5_method_5_code
def yX3_grownIn : MethodName := ⟨RX3, "grownIn", "(I)LCleanSeed$Lot;"⟩
abbrev cX3_cropIn : ByteArray := prog_5_method_6_code
def yX3_cropIn : MethodName := ⟨RX3, "cropIn", "(II)I"⟩
abbrev cX3_stoodAheadOf : ByteArray := prog_5_method_7_code
def yX3_stoodAheadOf : MethodName := ⟨RX3, "stoodAheadOf", "(IIII)Z"⟩
def RX4 : String := "CleanSeed$Kin"
def TX4 : u_T := fun k => match k with
  | _ => ("CleanSeed$Kin", "book", "LCleanSeed$Book;", true)
def tyX4 : Nat → FieldType := fun k => match k with
  | _ => .object "CleanSeed$Book"
theorem nmX4 : ∀ a, a < 1 → ∀ b, b < 1 → a ≠ b → (TX4 a).2.1 ≠ (TX4 b).2.1 := by decide +kernel
theorem tyX4_ok : ∀ k, k < 1 → parseFieldDescriptor (TX4 k).2.2.1 = some (tyX4 k) := by decide +kernel
abbrev cX4_init : ByteArray := prog_6_method_1_code
def yX4_init : MethodName := ⟨RX4, "<init>", "(LCleanSeed$Book;)V"⟩
abbrev cX4_traceBelow : ByteArray := prog_6_method_2_code
def yX4_traceBelow : MethodName := ⟨RX4, "traceBelow", "(LCleanSeed$Lot;)V"⟩
abbrev cX4_buyersBelow : ByteArray := prog_6_method_3_code
def yX4_buyersBelow : MethodName := ⟨RX4, "buyersBelow", "(LCleanSeed$Lot;)I"⟩
abbrev cX4_touchedBy : ByteArray := prog_6_method_4_code
def yX4_touchedBy : MethodName := ⟨RX4, "touchedBy", "(LCleanSeed$Lot;II)I"⟩
abbrev cX4_markAbove : ByteArray := prog_6_method_5_code
def yX4_markAbove : MethodName := ⟨RX4, "markAbove", "(LCleanSeed$Lot;)V"⟩
abbrev cX4_markOneAbove : ByteArray := prog_6_method_6_code
def yX4_markOneAbove : MethodName := ⟨RX4, "markOneAbove", "(LCleanSeed$Lot;)V"⟩
abbrev cX4_markAkin : ByteArray := prog_6_method_7_code
def yX4_markAkin : MethodName := ⟨RX4, "markAkin", "(LCleanSeed$Lot;)V"⟩
abbrev cX4_rowOf : ByteArray := prog_6_method_8_code
def yX4_rowOf : MethodName := ⟨RX4, "rowOf", "(LCleanSeed$Lot;)I"⟩
abbrev cX4_linesOf : ByteArray := prog_6_method_9_code
def yX4_linesOf : MethodName := ⟨RX4, "linesOf", "(LCleanSeed$Lot;)I"⟩
abbrev cX4_isAkin : ByteArray := prog_6_method_10_code
def yX4_isAkin : MethodName := ⟨RX4, "isAkin", "(LCleanSeed$Lot;)Z"⟩
def RX5 : String := "CleanSeed$Look"
def TX5 : u_T := fun k => match k with
  | 0 => ("CleanSeed$Look", "before", "LCleanSeed$Look;", true)
  | 1 => ("CleanSeed$Look", "toldIn", "I", true)
  | 2 => ("CleanSeed$Look", "number", "I", true)
  | 3 => ("CleanSeed$Look", "plants", "I", true)
  | _ => ("CleanSeed$Look", "ill", "I", true)
def tyX5 : Nat → FieldType := fun k => match k with
  | 0 => .object "CleanSeed$Look"
  | 1 => .int
  | 2 => .int
  | 3 => .int
  | _ => .int
theorem nmX5 : ∀ a, a < 5 → ∀ b, b < 5 → a ≠ b → (TX5 a).2.1 ≠ (TX5 b).2.1 := by decide +kernel
theorem tyX5_ok : ∀ k, k < 5 → parseFieldDescriptor (TX5 k).2.2.1 = some (tyX5 k) := by decide +kernel
abbrev cX5_init : ByteArray := prog_7_method_1_code
def yX5_init : MethodName := ⟨RX5, "<init>", "(LCleanSeed$Look;III)V"⟩
def RX6 : String := "CleanSeed$Lot"
def TX6 : u_T := fun k => match k with
  | 0 => ("CleanSeed$Lot", "number", "I", true)
  | 1 => ("CleanSeed$Lot", "sort", "I", true)
  | 2 => ("CleanSeed$Lot", "crop", "I", true)
  | 3 => ("CleanSeed$Lot", "year", "I", true)
  | 4 => ("CleanSeed$Lot", "place", "LCleanSeed$Field;", false)
  | 5 => ("CleanSeed$Lot", "mother", "LCleanSeed$Lot;", false)
  | 6 => ("CleanSeed$Lot", "second", "LCleanSeed$Lot;", false)
  | 7 => ("CleanSeed$Lot", "grams", "I", false)
  | 8 => ("CleanSeed$Lot", "first", "I", false)
  | 9 => ("CleanSeed$Lot", "sown", "I", false)
  | 10 => ("CleanSeed$Lot", "mixed", "I", false)
  | 11 => ("CleanSeed$Lot", "bagged", "I", false)
  | 12 => ("CleanSeed$Lot", "tossed", "I", false)
  | 13 => ("CleanSeed$Lot", "lastLook", "LCleanSeed$Look;", false)
  | 14 => ("CleanSeed$Lot", "falseIn", "I", false)
  | 15 => ("CleanSeed$Lot", "rank", "I", false)
  | 16 => ("CleanSeed$Lot", "reason", "I", false)
  | 17 => ("CleanSeed$Lot", "lines", "I", false)
  | 18 => ("CleanSeed$Lot", "above", "Z", false)
  | _ => ("CleanSeed$Lot", "akin", "Z", false)
def tyX6 : Nat → FieldType := fun k => match k with
  | 0 => .int
  | 1 => .int
  | 2 => .int
  | 3 => .int
  | 4 => .object "CleanSeed$Field"
  | 5 => .object "CleanSeed$Lot"
  | 6 => .object "CleanSeed$Lot"
  | 7 => .int
  | 8 => .int
  | 9 => .int
  | 10 => .int
  | 11 => .int
  | 12 => .int
  | 13 => .object "CleanSeed$Look"
  | 14 => .int
  | 15 => .int
  | 16 => .int
  | 17 => .int
  | 18 => .boolean
  | _ => .boolean
theorem nmX6 : ∀ a, a < 20 → ∀ b, b < 20 → a ≠ b → (TX6 a).2.1 ≠ (TX6 b).2.1 := by decide +kernel
theorem tyX6_ok : ∀ k, k < 20 → parseFieldDescriptor (TX6 k).2.2.1 = some (tyX6 k) := by decide +kernel
abbrev cX6_init : ByteArray := prog_8_method_1_code
def yX6_init : MethodName := ⟨RX6, "<init>", "(IIII)V"⟩
abbrev cX6_gain : ByteArray := prog_8_method_2_code
def yX6_gain : MethodName := ⟨RX6, "gain", "(I)V"⟩
abbrev cX6_has : ByteArray := prog_8_method_3_code
def yX6_has : MethodName := ⟨RX6, "has", "(I)Z"⟩
abbrev cX6_isFalseAsKnownIn : ByteArray := prog_8_method_4_code
def yX6_isFalseAsKnownIn : MethodName := ⟨RX6, "isFalseAsKnownIn", "(I)Z"⟩
abbrev cX6_lookCount : ByteArray := prog_8_method_5_code
def yX6_lookCount : MethodName := ⟨RX6, "lookCount", "()I"⟩
abbrev cX6_lastLookAsKnownIn : ByteArray := prog_8_method_6_code
def yX6_lastLookAsKnownIn : MethodName := ⟨RX6, "lastLookAsKnownIn", "(I)LCleanSeed$Look;"⟩
abbrev cX6_about : ByteArray := prog_8_method_7_code
def yX6_about : MethodName := ⟨RX6, "about", "(I)I"⟩
abbrev cX6_rankOfMothers : ByteArray := prog_8_method_8_code
def yX6_rankOfMothers : MethodName := ⟨RX6, "rankOfMothers", "()I"⟩
def RX7 : String := "CleanSeed$Planner"
def TX7 : u_T := fun k => match k with
  | 0 => ("CleanSeed$Planner", "book", "LCleanSeed$Book;", true)
  | 1 => ("CleanSeed$Planner", "wanted", "[LCleanSeed$Lot;", true)
  | 2 => ("CleanSeed$Planner", "mayTake", "[I", true)
  | 3 => ("CleanSeed$Planner", "tooNear", "[I", true)
  | 4 => ("CleanSeed$Planner", "going", "[I", true)
  | 5 => ("CleanSeed$Planner", "best", "[I", true)
  | 6 => ("CleanSeed$Planner", "bestGone", "I", false)
  | _ => ("CleanSeed$Planner", "size", "I", false)
def tyX7 : Nat → FieldType := fun k => match k with
  | 0 => .object "CleanSeed$Book"
  | 1 => .array (.object "CleanSeed$Lot")
  | 2 => .array .int
  | 3 => .array .int
  | 4 => .array .int
  | 5 => .array .int
  | 6 => .int
  | _ => .int
theorem nmX7 : ∀ a, a < 8 → ∀ b, b < 8 → a ≠ b → (TX7 a).2.1 ≠ (TX7 b).2.1 := by decide +kernel
theorem tyX7_ok : ∀ k, k < 8 → parseFieldDescriptor (TX7 k).2.2.1 = some (tyX7 k) := by decide +kernel
abbrev cX7_init : ByteArray := prog_9_method_1_code
def yX7_init : MethodName := ⟨RX7, "<init>", "(LCleanSeed$Book;)V"⟩
abbrev cX7_forgetAll : ByteArray := prog_9_method_2_code
def yX7_forgetAll : MethodName := ⟨RX7, "forgetAll", "()V"⟩
abbrev cX7_add : ByteArray := prog_9_method_3_code
def yX7_add : MethodName := ⟨RX7, "add", "(LCleanSeed$Lot;)I"⟩
abbrev cX7_placeOf : ByteArray := prog_9_method_4_code
def yX7_placeOf : MethodName := ⟨RX7, "placeOf", "(I)I"⟩
abbrev cX7_markMayTake : ByteArray := prog_9_method_5_code
def yX7_markMayTake : MethodName := ⟨RX7, "markMayTake", "(II)V"⟩
abbrev cX7_markTooNear : ByteArray := prog_9_method_6_code
def yX7_markTooNear : MethodName := ⟨RX7, "markTooNear", "(I)V"⟩
abbrev cX7_search : ByteArray := prog_9_method_7_code
def yX7_search : MethodName := ⟨RX7, "search", "(II)V"⟩
abbrev cX7_fits : ByteArray := prog_9_method_8_code
def yX7_fits : MethodName := ⟨RX7, "fits", "(II)Z"⟩
abbrev cX7_areOfOneCrop : ByteArray := prog_9_method_9_code
def yX7_areOfOneCrop : MethodName := ⟨RX7, "areOfOneCrop", "(LCleanSeed$Lot;LCleanSeed$Lot;)Z"⟩
def RX8 : String := "CleanSeed$Statute"
def TX8 : u_T := fun k => match k with
  | 0 => ("CleanSeed$Statute", "before", "LCleanSeed$Statute;", true)
  | 1 => ("CleanSeed$Statute", "toldIn", "I", true)
  | 2 => ("CleanSeed$Statute", "from", "I", true)
  | _ => ("CleanSeed$Statute", "value", "I", true)
def tyX8 : Nat → FieldType := fun k => match k with
  | 0 => .object "CleanSeed$Statute"
  | 1 => .int
  | 2 => .int
  | _ => .int
theorem nmX8 : ∀ a, a < 4 → ∀ b, b < 4 → a ≠ b → (TX8 a).2.1 ≠ (TX8 b).2.1 := by decide +kernel
theorem tyX8_ok : ∀ k, k < 4 → parseFieldDescriptor (TX8 k).2.2.1 = some (tyX8 k) := by decide +kernel
abbrev cX8_init : ByteArray := prog_10_method_1_code
def yX8_init : MethodName := ⟨RX8, "<init>", "(LCleanSeed$Statute;III)V"⟩
def RX9 : String := "CleanSeed$Telling"
def TX9 : u_T := fun k => match k with
  | 0 => ("CleanSeed$Telling", "before", "LCleanSeed$Telling;", true)
  | 1 => ("CleanSeed$Telling", "toldIn", "I", true)
  | _ => ("CleanSeed$Telling", "crop", "I", true)
def tyX9 : Nat → FieldType := fun k => match k with
  | 0 => .object "CleanSeed$Telling"
  | 1 => .int
  | _ => .int
theorem nmX9 : ∀ a, a < 3 → ∀ b, b < 3 → a ≠ b → (TX9 a).2.1 ≠ (TX9 b).2.1 := by decide +kernel
theorem tyX9_ok : ∀ k, k < 3 → parseFieldDescriptor (TX9 k).2.2.1 = some (tyX9 k) := by decide +kernel
abbrev cX9_init : ByteArray := prog_11_method_1_code
def yX9_init : MethodName := ⟨RX9, "<init>", "(LCleanSeed$Telling;II)V"⟩
def RX10 : String := "CleanSeed"
def TX10 : u_T := fun k => match k with
  | 0 => ("CleanSeed", "book", "LCleanSeed$Book;", true)
  | 1 => ("CleanSeed", "assessor", "LCleanSeed$Assessor;", true)
  | 2 => ("CleanSeed", "kin", "LCleanSeed$Kin;", true)
  | 3 => ("CleanSeed", "planner", "LCleanSeed$Planner;", true)
  | _ => ("CleanSeed", "line", "[I", true)
def tyX10 : Nat → FieldType := fun k => match k with
  | 0 => .object "CleanSeed$Book"
  | 1 => .object "CleanSeed$Assessor"
  | 2 => .object "CleanSeed$Kin"
  | 3 => .object "CleanSeed$Planner"
  | _ => .array .int
theorem nmX10 : ∀ a, a < 5 → ∀ b, b < 5 → a ≠ b → (TX10 a).2.1 ≠ (TX10 b).2.1 := by decide +kernel
theorem tyX10_ok : ∀ k, k < 5 → parseFieldDescriptor (TX10 k).2.2.1 = some (tyX10 k) := by decide +kernel
abbrev cX10_init : ByteArray := prog_1_method_1_code
def yX10_init : MethodName := ⟨RX10, "<init>", "()V"⟩
abbrev cX10_field : ByteArray := prog_1_method_2_code
def yX10_field : MethodName := ⟨RX10, "field", "(IIII)I"⟩
abbrev cX10_near : ByteArray := prog_1_method_3_code
def yX10_near : MethodName := ⟨RX10, "near", "(II)I"⟩
abbrev cX10_stand : ByteArray := prog_1_method_4_code
def yX10_stand : MethodName := ⟨RX10, "stand", "(III)Z"⟩
abbrev cX10_stands : ByteArray := prog_1_method_5_code
def yX10_stands : MethodName := ⟨RX10, "stands", "(III)I"⟩
abbrev cX10_statute : ByteArray := prog_1_method_6_code
def yX10_statute : MethodName := ⟨RX10, "statute", "(III)I"⟩
abbrev cX10_force : ByteArray := prog_1_method_7_code
def yX10_force : MethodName := ⟨RX10, "force", "(III)I"⟩
abbrev cX10_tube : ByteArray := prog_1_method_8_code
def yX10_tube : MethodName := ⟨RX10, "tube", "(I)I"⟩
abbrev cX10_sow : ByteArray := prog_1_method_9_code
def yX10_sow : MethodName := ⟨RX10, "sow", "(III)I"⟩
abbrev cX10_harvest : ByteArray := prog_1_method_10_code
def yX10_harvest : MethodName := ⟨RX10, "harvest", "(II)Z"⟩
abbrev cX10_mix : ByteArray := prog_1_method_11_code
def yX10_mix : MethodName := ⟨RX10, "mix", "(IIII)I"⟩
abbrev cX10_bag : ByteArray := prog_1_method_12_code
def yX10_bag : MethodName := ⟨RX10, "bag", "(II)I"⟩
abbrev cX10_open : ByteArray := prog_1_method_13_code
def yX10_open : MethodName := ⟨RX10, "open", "(I)Z"⟩
abbrev cX10_seal : ByteArray := prog_1_method_14_code
def yX10_seal : MethodName := ⟨RX10, "seal", "(I)I"⟩
abbrev cX10_sell : ByteArray := prog_1_method_15_code
def yX10_sell : MethodName := ⟨RX10, "sell", "(II)Z"⟩
abbrev cX10_toss : ByteArray := prog_1_method_16_code
def yX10_toss : MethodName := ⟨RX10, "toss", "(II)Z"⟩
abbrev cX10_look : ByteArray := prog_1_method_17_code
def yX10_look : MethodName := ⟨RX10, "look", "(III)I"⟩
abbrev cX10_drawn : ByteArray := prog_1_method_18_code
def yX10_drawn : MethodName := ⟨RX10, "drawn", "(IIJI)I"⟩
abbrev cX10_prove : ByteArray := prog_1_method_19_code
def yX10_prove : MethodName := ⟨RX10, "prove", "(I)Z"⟩
abbrev cX10_year : ByteArray := prog_1_method_20_code
def yX10_year : MethodName := ⟨RX10, "year", "()I"⟩
abbrev cX10_judge : ByteArray := prog_1_method_21_code
def yX10_judge : MethodName := ⟨RX10, "judge", "(II)I"⟩
abbrev cX10_why : ByteArray := prog_1_method_22_code
def yX10_why : MethodName := ⟨RX10, "why", "(II)I"⟩
abbrev cX10_ways : ByteArray := prog_1_method_23_code
def yX10_ways : MethodName := ⟨RX10, "ways", "(II)I"⟩
abbrev cX10_touched : ByteArray := prog_1_method_24_code
def yX10_touched : MethodName := ⟨RX10, "touched", "(III)I"⟩
abbrev cX10_buyers : ByteArray := prog_1_method_25_code
def yX10_buyers : MethodName := ⟨RX10, "buyers", "(I)I"⟩
abbrev cX10_want : ByteArray := prog_1_method_26_code
def yX10_want : MethodName := ⟨RX10, "want", "(I)I"⟩
abbrev cX10_plan : ByteArray := prog_1_method_27_code
def yX10_plan : MethodName := ⟨RX10, "plan", "(I)I"⟩
abbrev cX10_told : ByteArray := prog_1_method_28_code
def yX10_told : MethodName := ⟨RX10, "told", "(II)I"⟩
abbrev cX10_sack : ByteArray := prog_1_method_29_code
def yX10_sack : MethodName := ⟨RX10, "sack", "(II)I"⟩
abbrev cX10_count : ByteArray := prog_1_method_30_code
def yX10_count : MethodName := ⟨RX10, "count", "(I)I"⟩
abbrev cX10_within : ByteArray := prog_1_method_31_code
def yX10_within : MethodName := ⟨RX10, "within", "(III)Z"⟩
abbrev cX10_lotKnownIn : ByteArray := prog_1_method_32_code
def yX10_lotKnownIn : MethodName := ⟨RX10, "lotKnownIn", "(II)LCleanSeed$Lot;"⟩
abbrev cX10_isOutNow : ByteArray := prog_1_method_33_code
def yX10_isOutNow : MethodName := ⟨RX10, "isOutNow", "(LCleanSeed$Lot;)Z"⟩
def RX11 : String := "CleanSeedModel"
def TX11 : u_T := fun k => match k with
  | 0 => ("CleanSeedModel", "now", "I", false)
  | 1 => ("CleanSeedModel", "fields", "I", false)
  | 2 => ("CleanSeedModel", "lots", "I", false)
  | 3 => ("CleanSeedModel", "bags", "I", false)
  | 4 => ("CleanSeedModel", "seals", "I", false)
  | 5 => ("CleanSeedModel", "stood", "I", false)
  | 6 => ("CleanSeedModel", "statutes", "I", false)
  | 7 => ("CleanSeedModel", "looks", "I", false)
  | 8 => ("CleanSeedModel", "wants", "I", false)
  | 9 => ("CleanSeedModel", "lowX", "[I", true)
  | 10 => ("CleanSeedModel", "lowY", "[I", true)
  | 11 => ("CleanSeedModel", "highX", "[I", true)
  | 12 => ("CleanSeedModel", "highY", "[I", true)
  | 13 => ("CleanSeedModel", "stoodField", "[I", true)
  | 14 => ("CleanSeedModel", "stoodYear", "[I", true)
  | 15 => ("CleanSeedModel", "stoodCrop", "[I", true)
  | 16 => ("CleanSeedModel", "stoodTold", "[I", true)
  | 17 => ("CleanSeedModel", "statuteKind", "[I", true)
  | 18 => ("CleanSeedModel", "statuteFrom", "[I", true)
  | 19 => ("CleanSeedModel", "statuteValue", "[I", true)
  | 20 => ("CleanSeedModel", "statuteTold", "[I", true)
  | 21 => ("CleanSeedModel", "sort", "[I", true)
  | 22 => ("CleanSeedModel", "crop", "[I", true)
  | 23 => ("CleanSeedModel", "grams", "[I", true)
  | 24 => ("CleanSeedModel", "came", "[I", true)
  | 25 => ("CleanSeedModel", "grownIn", "[I", true)
  | 26 => ("CleanSeedModel", "mother", "[I", true)
  | 27 => ("CleanSeedModel", "mother2", "[I", true)
  | 28 => ("CleanSeedModel", "first", "[I", true)
  | 29 => ("CleanSeedModel", "sown", "[I", true)
  | 30 => ("CleanSeedModel", "mixed", "[I", true)
  | 31 => ("CleanSeedModel", "bagged", "[I", true)
  | 32 => ("CleanSeedModel", "tossed", "[I", true)
  | 33 => ("CleanSeedModel", "falseIn", "[I", true)
  | 34 => ("CleanSeedModel", "lookLot", "[I", true)
  | 35 => ("CleanSeedModel", "lookPlants", "[I", true)
  | 36 => ("CleanSeedModel", "lookIll", "[I", true)
  | 37 => ("CleanSeedModel", "lookTold", "[I", true)
  | 38 => ("CleanSeedModel", "bagLot", "[I", true)
  | 39 => ("CleanSeedModel", "bagGrams", "[I", true)
  | 40 => ("CleanSeedModel", "bagSeal", "[I", true)
  | 41 => ("CleanSeedModel", "bagBuyer", "[I", true)
  | 42 => ("CleanSeedModel", "wanted", "[I", true)
  | 43 => ("CleanSeedModel", "line", "[I", true)
  | 44 => ("CleanSeedModel", "rank", "[I", true)
  | 45 => ("CleanSeedModel", "reason", "[I", true)
  | 46 => ("CleanSeedModel", "rows", "[I", true)
  | 47 => ("CleanSeedModel", "goes", "[I", true)
  | _ => ("CleanSeedModel", "best", "[I", true)
def tyX11 : Nat → FieldType := fun k => match k with
  | 0 => .int
  | 1 => .int
  | 2 => .int
  | 3 => .int
  | 4 => .int
  | 5 => .int
  | 6 => .int
  | 7 => .int
  | 8 => .int
  | 9 => .array .int
  | 10 => .array .int
  | 11 => .array .int
  | 12 => .array .int
  | 13 => .array .int
  | 14 => .array .int
  | 15 => .array .int
  | 16 => .array .int
  | 17 => .array .int
  | 18 => .array .int
  | 19 => .array .int
  | 20 => .array .int
  | 21 => .array .int
  | 22 => .array .int
  | 23 => .array .int
  | 24 => .array .int
  | 25 => .array .int
  | 26 => .array .int
  | 27 => .array .int
  | 28 => .array .int
  | 29 => .array .int
  | 30 => .array .int
  | 31 => .array .int
  | 32 => .array .int
  | 33 => .array .int
  | 34 => .array .int
  | 35 => .array .int
  | 36 => .array .int
  | 37 => .array .int
  | 38 => .array .int
  | 39 => .array .int
  | 40 => .array .int
  | 41 => .array .int
  | 42 => .array .int
  | 43 => .array .int
  | 44 => .array .int
  | 45 => .array .int
  | 46 => .array .int
  | 47 => .array .int
  | _ => .array .int
theorem nmX11 : ∀ a, a < 49 → ∀ b, b < 49 → a ≠ b → (TX11 a).2.1 ≠ (TX11 b).2.1 := by decide +kernel
theorem tyX11_ok : ∀ k, k < 49 → parseFieldDescriptor (TX11 k).2.2.1 = some (tyX11 k) := by decide +kernel
abbrev cX11_init : ByteArray := prog_13_method_1_code
def yX11_init : MethodName := ⟨RX11, "<init>", "()V"⟩
abbrev cX11_in : ByteArray := prog_13_method_2_code
def yX11_in : MethodName := ⟨RX11, "in", "(III)Z"⟩
abbrev cX11_isField : ByteArray := prog_13_method_3_code
def yX11_isField : MethodName := ⟨RX11, "isField", "(I)Z"⟩
abbrev cX11_isLot : ByteArray := prog_13_method_4_code
def yX11_isLot : MethodName := ⟨RX11, "isLot", "(I)Z"⟩
abbrev cX11_isYear : ByteArray := prog_13_method_5_code
def yX11_isYear : MethodName := ⟨RX11, "isYear", "(I)Z"⟩
abbrev cX11_field : ByteArray := prog_13_method_6_code
def yX11_field : MethodName := ⟨RX11, "field", "(IIII)I"⟩
abbrev cX11_nearness : ByteArray := prog_13_method_7_code
def yX11_nearness : MethodName := ⟨RX11, "nearness", "(II)I"⟩
abbrev cX11_near : ByteArray := prog_13_method_8_code
def yX11_near : MethodName := ⟨RX11, "near", "(II)I"⟩
abbrev cX11_stand : ByteArray := prog_13_method_9_code
def yX11_stand : MethodName := ⟨RX11, "stand", "(III)Z"⟩
abbrev cX11_lotIn : ByteArray := prog_13_method_10_code
def yX11_lotIn : MethodName := ⟨RX11, "lotIn", "(II)I"⟩
abbrev cX11_standing : ByteArray := prog_13_method_11_code
def yX11_standing : MethodName := ⟨RX11, "standing", "(III)I"⟩
abbrev cX11_stands : ByteArray := prog_13_method_12_code
def yX11_stands : MethodName := ⟨RX11, "stands", "(III)I"⟩
abbrev cX11_isValue : ByteArray := prog_13_method_13_code
def yX11_isValue : MethodName := ⟨RX11, "isValue", "(II)Z"⟩
abbrev cX11_statute : ByteArray := prog_13_method_14_code
def yX11_statute : MethodName := ⟨RX11, "statute", "(III)I"⟩
abbrev cX11_inForce : ByteArray := prog_13_method_15_code
def yX11_inForce : MethodName := ⟨RX11, "inForce", "(III)I"⟩
abbrev cX11_force : ByteArray := prog_13_method_16_code
def yX11_force : MethodName := ⟨RX11, "force", "(III)I"⟩
abbrev cX11_lot : ByteArray := prog_13_method_17_code
def yX11_lot : MethodName := ⟨RX11, "lot", "(II)I"⟩
abbrev cX11_tube : ByteArray := prog_13_method_18_code
def yX11_tube : MethodName := ⟨RX11, "tube", "(I)I"⟩
abbrev cX11_sow : ByteArray := prog_13_method_19_code
def yX11_sow : MethodName := ⟨RX11, "sow", "(III)I"⟩
abbrev cX11_harvest : ByteArray := prog_13_method_20_code
def yX11_harvest : MethodName := ⟨RX11, "harvest", "(II)Z"⟩
abbrev cX11_mix : ByteArray := prog_13_method_21_code
def yX11_mix : MethodName := ⟨RX11, "mix", "(IIII)I"⟩
abbrev cX11_bag : ByteArray := prog_13_method_22_code
def yX11_bag : MethodName := ⟨RX11, "bag", "(II)I"⟩
abbrev cX11_isBag : ByteArray := prog_13_method_23_code
def yX11_isBag : MethodName := ⟨RX11, "isBag", "(I)Z"⟩
abbrev cX11_open : ByteArray := prog_13_method_24_code
def yX11_open : MethodName := ⟨RX11, "open", "(I)Z"⟩
abbrev cX11_seal : ByteArray := prog_13_method_25_code
def yX11_seal : MethodName := ⟨RX11, "seal", "(I)I"⟩
abbrev cX11_sell : ByteArray := prog_13_method_26_code
def yX11_sell : MethodName := ⟨RX11, "sell", "(II)Z"⟩
abbrev cX11_toss : ByteArray := prog_13_method_27_code
def yX11_toss : MethodName := ⟨RX11, "toss", "(II)Z"⟩
abbrev cX11_looksOf : ByteArray := prog_13_method_28_code
def yX11_looksOf : MethodName := ⟨RX11, "looksOf", "(II)I"⟩
abbrev cX11_look : ByteArray := prog_13_method_29_code
def yX11_look : MethodName := ⟨RX11, "look", "(III)I"⟩
abbrev cX11_drawn : ByteArray := prog_13_method_30_code
def yX11_drawn : MethodName := ⟨RX11, "drawn", "(IIJI)I"⟩
abbrev cX11_prove : ByteArray := prog_13_method_31_code
def yX11_prove : MethodName := ⟨RX11, "prove", "(I)Z"⟩
abbrev cX11_year : ByteArray := prog_13_method_32_code
def yX11_year : MethodName := ⟨RX11, "year", "()I"⟩
abbrev cX11_classOf : ByteArray := prog_13_method_33_code
def yX11_classOf : MethodName := ⟨RX11, "classOf", "(II)I"⟩
abbrev cX11_judgeOne : ByteArray := prog_13_method_34_code
def yX11_judgeOne : MethodName := ⟨RX11, "judgeOne", "(II)V"⟩
abbrev cX11_wrongField : ByteArray := prog_13_method_35_code
def yX11_wrongField : MethodName := ⟨RX11, "wrongField", "(II)I"⟩
abbrev cX11_isJudged : ByteArray := prog_13_method_36_code
def yX11_isJudged : MethodName := ⟨RX11, "isJudged", "(II)Z"⟩
abbrev cX11_judge : ByteArray := prog_13_method_37_code
def yX11_judge : MethodName := ⟨RX11, "judge", "(II)I"⟩
abbrev cX11_why : ByteArray := prog_13_method_38_code
def yX11_why : MethodName := ⟨RX11, "why", "(II)I"⟩
abbrev cX11_rowsTo : ByteArray := prog_13_method_39_code
def yX11_rowsTo : MethodName := ⟨RX11, "rowsTo", "(I)V"⟩
abbrev cX11_ways : ByteArray := prog_13_method_40_code
def yX11_ways : MethodName := ⟨RX11, "ways", "(II)I"⟩
abbrev cX11_isOf : ByteArray := prog_13_method_41_code
def yX11_isOf : MethodName := ⟨RX11, "isOf", "(II)Z"⟩
abbrev cX11_isIn : ByteArray := prog_13_method_42_code
def yX11_isIn : MethodName := ⟨RX11, "isIn", "(III)Z"⟩
abbrev cX11_touched : ByteArray := prog_13_method_43_code
def yX11_touched : MethodName := ⟨RX11, "touched", "(III)I"⟩
abbrev cX11_buyers : ByteArray := prog_13_method_44_code
def yX11_buyers : MethodName := ⟨RX11, "buyers", "(I)I"⟩
abbrev cX11_want : ByteArray := prog_13_method_45_code
def yX11_want : MethodName := ⟨RX11, "want", "(I)I"⟩
abbrev cX11_isFree : ByteArray := prog_13_method_46_code
def yX11_isFree : MethodName := ⟨RX11, "isFree", "(II)Z"⟩
abbrev cX11_isGood : ByteArray := prog_13_method_47_code
def yX11_isGood : MethodName := ⟨RX11, "isGood", "(I)Z"⟩
abbrev cX11_findPlan : ByteArray := prog_13_method_48_code
def yX11_findPlan : MethodName := ⟨RX11, "findPlan", "()V"⟩
abbrev cX11_plan : ByteArray := prog_13_method_49_code
def yX11_plan : MethodName := ⟨RX11, "plan", "(I)I"⟩
abbrev cX11_told : ByteArray := prog_13_method_50_code
def yX11_told : MethodName := ⟨RX11, "told", "(II)I"⟩
abbrev cX11_sack : ByteArray := prog_13_method_51_code
def yX11_sack : MethodName := ⟨RX11, "sack", "(II)I"⟩
abbrev cX11_outs : ByteArray := prog_13_method_52_code
def yX11_outs : MethodName := ⟨RX11, "outs", "()I"⟩
abbrev cX11_count : ByteArray := prog_13_method_53_code
def yX11_count : MethodName := ⟨RX11, "count", "(I)I"⟩
def RL : String := "CleanSeedLaw"
abbrev cL_law : ByteArray := code
def yL_law : MethodName := ⟨RL, "law", "([I)Z"⟩
abbrev vwCl : List vw_C := [(RX0, TX0, 1), (RX1, TX1, 4), (RX2, TX2, 12), (RX3, TX3, 7), (RX4, TX4, 1), (RX5, TX5, 5), (RX6, TX6, 20), (RX7, TX7, 8), (RX8, TX8, 4), (RX9, TX9, 3), (RX10, TX10, 5), (RX11, TX11, 49)]
end
section
/-- all the words of the tables that a method may hand on -/
def wall : List Cond := lw_tbl.filter goodWord
theorem wl_m {w : Cond} (i : Nat) (h : tables_1[i]? = some w) (g : goodWord w = true) : w ∈ wall := List.mem_filter.mpr ⟨List.mem_append_right _ (List.mem_of_getElem? h), g⟩
theorem wl_s {w : Cond} (i : Nat) (h : (k2_sels lw_privs)[i]? = some w) (g : goodWord w = true) : w ∈ wall := List.mem_filter.mpr ⟨List.mem_append_left _ (List.mem_of_getElem? h), g⟩
theorem wl_good {w : Cond} (h : w ∈ wall) : (w.onTables && w.keeps) = true ∨ ∃ ty, w = .arrayClass ty := good_of_word (List.mem_filter.mp h).2
theorem wl_in {c d : Cond} (h : d ∈ wall) : GoodIn (c :: wall) (d :: wall) := fun w hw => by
  rcases List.mem_cons.mp hw with rfl | h2
  · exact ⟨List.mem_cons_of_mem _ h, wl_good h⟩
  · exact ⟨List.mem_cons_of_mem _ h2, wl_good h2⟩
theorem i_X0 : ∀ w ∈ u_ws RX0 TX0 1, w ∈ wall := by decide +kernel
theorem i_X1 : ∀ w ∈ u_ws RX1 TX1 4, w ∈ wall := by decide +kernel
theorem i_X2 : ∀ w ∈ u_ws RX2 TX2 12, w ∈ wall := by decide +kernel
theorem i_X3 : ∀ w ∈ u_ws RX3 TX3 7, w ∈ wall := by decide +kernel
theorem i_X4 : ∀ w ∈ u_ws RX4 TX4 1, w ∈ wall := by decide +kernel
theorem i_X5 : ∀ w ∈ u_ws RX5 TX5 5, w ∈ wall := by decide +kernel
theorem i_X6 : ∀ w ∈ u_ws RX6 TX6 20, w ∈ wall := by decide +kernel
theorem i_X7 : ∀ w ∈ u_ws RX7 TX7 8, w ∈ wall := by decide +kernel
theorem i_X8 : ∀ w ∈ u_ws RX8 TX8 4, w ∈ wall := by decide +kernel
theorem i_X9 : ∀ w ∈ u_ws RX9 TX9 3, w ∈ wall := by decide +kernel
theorem i_X10 : ∀ w ∈ u_ws RX10 TX10 5, w ∈ wall := by decide +kernel
theorem i_X11 : ∀ w ∈ u_ws RX11 TX11 49, w ∈ wall := by decide +kernel
theorem kN_X10 : Cond.initialized RX10 ∈ wall := wl_m 1 (by decide +kernel) rfl
theorem kN_X2 : Cond.initialized RX2 ∈ wall := wl_m 2 (by decide +kernel) rfl
theorem kN_X0 : Cond.initialized RX0 ∈ wall := wl_m 3 (by decide +kernel) rfl
theorem kN_X4 : Cond.initialized RX4 ∈ wall := wl_m 4 (by decide +kernel) rfl
theorem kN_X7 : Cond.initialized RX7 ∈ wall := wl_m 5 (by decide +kernel) rfl
theorem kN_X11 : Cond.initialized RX11 ∈ wall := wl_m 6 (by decide +kernel) rfl
theorem kN_X3 : Cond.initialized RX3 ∈ wall := wl_m 7 (by decide +kernel) rfl
theorem kN_Math : Cond.initialized "java/lang/Math" ∈ wall := wl_m 8 (by decide +kernel) rfl
theorem kN_X9 : Cond.initialized RX9 ∈ wall := wl_m 9 (by decide +kernel) rfl
theorem kN_X8 : Cond.initialized RX8 ∈ wall := wl_m 10 (by decide +kernel) rfl
theorem kN_X6 : Cond.initialized RX6 ∈ wall := wl_m 11 (by decide +kernel) rfl
theorem kN_X1 : Cond.initialized RX1 ∈ wall := wl_m 12 (by decide +kernel) rfl
theorem kN_X5 : Cond.initialized RX5 ∈ wall := wl_m 13 (by decide +kernel) rfl
theorem kL_L_7 : Cond.classLink RL 7 RX10 ∈ wall := wl_m 15 (by decide +kernel) rfl
theorem kT_X10 : Cond.instantiable RX10 5 ∈ wall := wl_m 16 (by decide +kernel) rfl
theorem kM_L_9 : Cond.methodLink RL 9 yX10_init ∈ wall := wl_m 17 (by decide +kernel) rfl
theorem kI_yX10_init : Cond.instanceMethod yX10_init ∈ wall := wl_m 18 (by decide +kernel) rfl
theorem kC_yX10_init : Cond.code yX10_init cX10_init 1 (Option.none : Option Jvm.ClassFile.FieldType) ∈ wall := wl_m 19 (by decide +kernel) rfl
theorem kM_X10_1 : Cond.methodLink RX10 1 objectInit ∈ wall := wl_m 20 (by decide +kernel) rfl
theorem kI_objectInit : Cond.instanceMethod objectInit ∈ wall := wl_m 21 (by decide +kernel) rfl
theorem kL_X10_7 : Cond.classLink RX10 7 RX2 ∈ wall := wl_m 23 (by decide +kernel) rfl
theorem kT_X2 : Cond.instantiable RX2 12 ∈ wall := wl_m 24 (by decide +kernel) rfl
theorem kI_yX2_init : Cond.instanceMethod yX2_init ∈ wall := wl_m 26 (by decide +kernel) rfl
theorem kC_yX2_init : Cond.code yX2_init cX2_init 1 (Option.none : Option Jvm.ClassFile.FieldType) ∈ wall := wl_m 27 (by decide +kernel) rfl
theorem kM_X2_3 : Cond.methodLink RX2 3 objectInit ∈ wall := wl_m 28 (by decide +kernel) rfl
theorem kL_X2_15 : Cond.classLink RX2 15 RX3 ∈ wall := wl_m 29 (by decide +kernel) rfl
theorem kL_X2_24 : Cond.classLink RX2 24 RX6 ∈ wall := wl_m 31 (by decide +kernel) rfl
theorem kL_X2_33 : Cond.classLink RX2 33 RX1 ∈ wall := wl_m 33 (by decide +kernel) rfl
theorem kL_X2_49 : Cond.classLink RX2 49 RX8 ∈ wall := wl_m 37 (by decide +kernel) rfl
theorem kF_X2_9 : Cond.fieldLink RX2 9 "CleanSeed$Book" "now" "I" ∈ wall := wl_m 39 (by decide +kernel) rfl
theorem kF_X10_67 : Cond.fieldLink RX10 67 "CleanSeed$Book" "now" "I" ∈ wall := wl_m 40 (by decide +kernel) rfl
theorem kF_X7_41 : Cond.fieldLink RX7 41 "CleanSeed$Book" "now" "I" ∈ wall := wl_m 41 (by decide +kernel) rfl
theorem kF_X2_17 : Cond.fieldLink RX2 17 "CleanSeed$Book" "fields" "[LCleanSeed$Field;" ∈ wall := wl_m 42 (by decide +kernel) rfl
theorem kF_X2_21 : Cond.fieldLink RX2 21 "CleanSeed$Book" "fieldCount" "I" ∈ wall := wl_m 43 (by decide +kernel) rfl
theorem kF_X10_47 : Cond.fieldLink RX10 47 "CleanSeed$Book" "fieldCount" "I" ∈ wall := wl_m 44 (by decide +kernel) rfl
theorem kF_X0_100 : Cond.fieldLink RX0 100 "CleanSeed$Book" "fieldCount" "I" ∈ wall := wl_m 45 (by decide +kernel) rfl
theorem kF_X2_26 : Cond.fieldLink RX2 26 "CleanSeed$Book" "lots" "[LCleanSeed$Lot;" ∈ wall := wl_m 46 (by decide +kernel) rfl
theorem kF_X2_30 : Cond.fieldLink RX2 30 "CleanSeed$Book" "lotCount" "I" ∈ wall := wl_m 47 (by decide +kernel) rfl
theorem kF_X0_15 : Cond.fieldLink RX0 15 "CleanSeed$Book" "lotCount" "I" ∈ wall := wl_m 48 (by decide +kernel) rfl
theorem kF_X4_15 : Cond.fieldLink RX4 15 "CleanSeed$Book" "lotCount" "I" ∈ wall := wl_m 49 (by decide +kernel) rfl
theorem kF_X10_91 : Cond.fieldLink RX10 91 "CleanSeed$Book" "lotCount" "I" ∈ wall := wl_m 50 (by decide +kernel) rfl
theorem kF_X2_35 : Cond.fieldLink RX2 35 "CleanSeed$Book" "bags" "[LCleanSeed$Bag;" ∈ wall := wl_m 51 (by decide +kernel) rfl
theorem kF_X2_39 : Cond.fieldLink RX2 39 "CleanSeed$Book" "bagCount" "I" ∈ wall := wl_m 52 (by decide +kernel) rfl
theorem kF_X4_52 : Cond.fieldLink RX4 52 "CleanSeed$Book" "bagCount" "I" ∈ wall := wl_m 53 (by decide +kernel) rfl
theorem kF_X10_155 : Cond.fieldLink RX10 155 "CleanSeed$Book" "bagCount" "I" ∈ wall := wl_m 54 (by decide +kernel) rfl
theorem kF_X2_42 : Cond.fieldLink RX2 42 "CleanSeed$Book" "sealsSoFar" "I" ∈ wall := wl_m 55 (by decide +kernel) rfl
theorem kF_X10_275 : Cond.fieldLink RX10 275 "CleanSeed$Book" "sealsSoFar" "I" ∈ wall := wl_m 56 (by decide +kernel) rfl
theorem kF_X2_51 : Cond.fieldLink RX2 51 "CleanSeed$Book" "lastStatutes" "[LCleanSeed$Statute;" ∈ wall := wl_m 57 (by decide +kernel) rfl
theorem kF_X2_55 : Cond.fieldLink RX2 55 "CleanSeed$Book" "statutesTold" "I" ∈ wall := wl_m 58 (by decide +kernel) rfl
theorem kF_X10_278 : Cond.fieldLink RX10 278 "CleanSeed$Book" "statutesTold" "I" ∈ wall := wl_m 59 (by decide +kernel) rfl
theorem kF_X2_58 : Cond.fieldLink RX2 58 "CleanSeed$Book" "standsTold" "I" ∈ wall := wl_m 60 (by decide +kernel) rfl
theorem kF_X10_70 : Cond.fieldLink RX10 70 "CleanSeed$Book" "standsTold" "I" ∈ wall := wl_m 61 (by decide +kernel) rfl
theorem kF_X2_61 : Cond.fieldLink RX2 61 "CleanSeed$Book" "looksTold" "I" ∈ wall := wl_m 62 (by decide +kernel) rfl
theorem kF_X10_201 : Cond.fieldLink RX10 201 "CleanSeed$Book" "looksTold" "I" ∈ wall := wl_m 63 (by decide +kernel) rfl
theorem kL_X10_16 : Cond.classLink RX10 16 RX0 ∈ wall := wl_m 89 (by decide +kernel) rfl
theorem kT_X0 : Cond.instantiable RX0 1 ∈ wall := wl_m 90 (by decide +kernel) rfl
theorem kM_X10_18 : Cond.methodLink RX10 18 yX0_init ∈ wall := wl_m 91 (by decide +kernel) rfl
theorem kI_yX0_init : Cond.instanceMethod yX0_init ∈ wall := wl_m 92 (by decide +kernel) rfl
theorem kC_yX0_init : Cond.code yX0_init cX0_init 2 (Option.none : Option Jvm.ClassFile.FieldType) ∈ wall := wl_m 93 (by decide +kernel) rfl
theorem kM_X0_3 : Cond.methodLink RX0 3 objectInit ∈ wall := wl_m 94 (by decide +kernel) rfl
theorem kF_X0_9 : Cond.fieldLink RX0 9 "CleanSeed$Assessor" "book" "LCleanSeed$Book;" ∈ wall := wl_m 95 (by decide +kernel) rfl
theorem kL_X10_25 : Cond.classLink RX10 25 RX4 ∈ wall := wl_m 99 (by decide +kernel) rfl
theorem kT_X4 : Cond.instantiable RX4 1 ∈ wall := wl_m 100 (by decide +kernel) rfl
theorem kM_X10_27 : Cond.methodLink RX10 27 yX4_init ∈ wall := wl_m 101 (by decide +kernel) rfl
theorem kI_yX4_init : Cond.instanceMethod yX4_init ∈ wall := wl_m 102 (by decide +kernel) rfl
theorem kC_yX4_init : Cond.code yX4_init cX4_init 2 (Option.none : Option Jvm.ClassFile.FieldType) ∈ wall := wl_m 103 (by decide +kernel) rfl
theorem kM_X4_3 : Cond.methodLink RX4 3 objectInit ∈ wall := wl_m 104 (by decide +kernel) rfl
theorem kF_X4_9 : Cond.fieldLink RX4 9 "CleanSeed$Kin" "book" "LCleanSeed$Book;" ∈ wall := wl_m 105 (by decide +kernel) rfl
theorem kL_X10_32 : Cond.classLink RX10 32 RX7 ∈ wall := wl_m 109 (by decide +kernel) rfl
theorem kT_X7 : Cond.instantiable RX7 8 ∈ wall := wl_m 110 (by decide +kernel) rfl
theorem kM_X10_34 : Cond.methodLink RX10 34 yX7_init ∈ wall := wl_m 111 (by decide +kernel) rfl
theorem kI_yX7_init : Cond.instanceMethod yX7_init ∈ wall := wl_m 112 (by decide +kernel) rfl
theorem kC_yX7_init : Cond.code yX7_init cX7_init 2 (Option.none : Option Jvm.ClassFile.FieldType) ∈ wall := wl_m 113 (by decide +kernel) rfl
theorem kM_X7_3 : Cond.methodLink RX7 3 objectInit ∈ wall := wl_m 114 (by decide +kernel) rfl
theorem kL_X7_9 : Cond.classLink RX7 9 RX6 ∈ wall := wl_m 115 (by decide +kernel) rfl
theorem kF_X7_37 : Cond.fieldLink RX7 37 "CleanSeed$Planner" "book" "LCleanSeed$Book;" ∈ wall := wl_m 116 (by decide +kernel) rfl
theorem kF_X7_11 : Cond.fieldLink RX7 11 "CleanSeed$Planner" "wanted" "[LCleanSeed$Lot;" ∈ wall := wl_m 117 (by decide +kernel) rfl
theorem kF_X7_17 : Cond.fieldLink RX7 17 "CleanSeed$Planner" "mayTake" "[I" ∈ wall := wl_m 118 (by decide +kernel) rfl
theorem kF_X7_21 : Cond.fieldLink RX7 21 "CleanSeed$Planner" "tooNear" "[I" ∈ wall := wl_m 119 (by decide +kernel) rfl
theorem kF_X7_24 : Cond.fieldLink RX7 24 "CleanSeed$Planner" "going" "[I" ∈ wall := wl_m 120 (by decide +kernel) rfl
theorem kF_X7_27 : Cond.fieldLink RX7 27 "CleanSeed$Planner" "best" "[I" ∈ wall := wl_m 121 (by decide +kernel) rfl
theorem kF_X7_30 : Cond.fieldLink RX7 30 "CleanSeed$Planner" "bestGone" "I" ∈ wall := wl_m 122 (by decide +kernel) rfl
theorem kF_X7_34 : Cond.fieldLink RX7 34 "CleanSeed$Planner" "size" "I" ∈ wall := wl_m 123 (by decide +kernel) rfl
theorem kF_X10_264 : Cond.fieldLink RX10 264 "CleanSeed$Planner" "size" "I" ∈ wall := wl_m 124 (by decide +kernel) rfl
theorem kA_142 : Cond.arrayClass Jvm.ClassFile.FieldType.int ∈ wall := wl_m 142 (by decide +kernel) rfl
theorem kF_X10_10 : Cond.fieldLink RX10 10 "CleanSeed" "book" "LCleanSeed$Book;" ∈ wall := wl_m 143 (by decide +kernel) rfl
theorem kF_X10_21 : Cond.fieldLink RX10 21 "CleanSeed" "assessor" "LCleanSeed$Assessor;" ∈ wall := wl_m 144 (by decide +kernel) rfl
theorem kF_X10_28 : Cond.fieldLink RX10 28 "CleanSeed" "kin" "LCleanSeed$Kin;" ∈ wall := wl_m 145 (by decide +kernel) rfl
theorem kF_X10_35 : Cond.fieldLink RX10 35 "CleanSeed" "planner" "LCleanSeed$Planner;" ∈ wall := wl_m 146 (by decide +kernel) rfl
theorem kF_X10_39 : Cond.fieldLink RX10 39 "CleanSeed" "line" "[I" ∈ wall := wl_m 147 (by decide +kernel) rfl
theorem kM_L_13 : Cond.methodLink RL 13 yX10_field ∈ wall := wl_m 159 (by decide +kernel) rfl
theorem kI_yX10_field : Cond.instanceMethod yX10_field ∈ wall := wl_m 160 (by decide +kernel) rfl
theorem kV_yX10_field : Cond.selects RX10 yX10_field yX10_field ∈ wall := wl_m 161 (by decide +kernel) rfl
theorem kC_yX10_field : Cond.code yX10_field cX10_field 6 (Option.some Jvm.ClassFile.FieldType.int) ∈ wall := wl_m 162 (by decide +kernel) rfl
theorem kM_X10_43 : Cond.methodLink RX10 43 yX10_within ∈ wall := wl_m 163 (by decide +kernel) rfl
theorem kS_yX10_within : Cond.static yX10_within ∈ wall := wl_m 164 (by decide +kernel) rfl
theorem kC_yX10_within : Cond.code yX10_within cX10_within 3 (Option.some Jvm.ClassFile.FieldType.boolean) ∈ wall := wl_m 165 (by decide +kernel) rfl
theorem kL_X10_51 : Cond.classLink RX10 51 RX3 ∈ wall := wl_m 166 (by decide +kernel) rfl
theorem kT_X3 : Cond.instantiable RX3 7 ∈ wall := wl_m 167 (by decide +kernel) rfl
theorem kM_X10_53 : Cond.methodLink RX10 53 yX3_init ∈ wall := wl_m 168 (by decide +kernel) rfl
theorem kI_yX3_init : Cond.instanceMethod yX3_init ∈ wall := wl_m 169 (by decide +kernel) rfl
theorem kC_yX3_init : Cond.code yX3_init cX3_init 6 (Option.none : Option Jvm.ClassFile.FieldType) ∈ wall := wl_m 170 (by decide +kernel) rfl
theorem kM_X3_3 : Cond.methodLink RX3 3 objectInit ∈ wall := wl_m 171 (by decide +kernel) rfl
theorem kL_X3_9 : Cond.classLink RX3 9 RX6 ∈ wall := wl_m 172 (by decide +kernel) rfl
theorem kL_X3_17 : Cond.classLink RX3 17 RX9 ∈ wall := wl_m 173 (by decide +kernel) rfl
theorem kM_X3_27 : Cond.methodLink RX3 27 Lib.Math.min.name ∈ wall := wl_m 175 (by decide +kernel) rfl
theorem kS_Lib_Math_min_name : Cond.static Lib.Math.min.name ∈ wall := wl_m 176 (by decide +kernel) rfl
theorem kM_X3_36 : Cond.methodLink RX3 36 Lib.Math.max.name ∈ wall := wl_m 178 (by decide +kernel) rfl
theorem kS_Lib_Math_max_name : Cond.static Lib.Math.max.name ∈ wall := wl_m 179 (by decide +kernel) rfl
theorem kF_X3_23 : Cond.fieldLink RX3 23 "CleanSeed$Field" "number" "I" ∈ wall := wl_m 181 (by decide +kernel) rfl
theorem kF_X6_85 : Cond.fieldLink RX6 85 "CleanSeed$Field" "number" "I" ∈ wall := wl_m 182 (by decide +kernel) rfl
theorem kF_X3_33 : Cond.fieldLink RX3 33 "CleanSeed$Field" "left" "I" ∈ wall := wl_m 183 (by decide +kernel) rfl
theorem kF_X3_39 : Cond.fieldLink RX3 39 "CleanSeed$Field" "right" "I" ∈ wall := wl_m 184 (by decide +kernel) rfl
theorem kF_X3_42 : Cond.fieldLink RX3 42 "CleanSeed$Field" "low" "I" ∈ wall := wl_m 185 (by decide +kernel) rfl
theorem kF_X3_45 : Cond.fieldLink RX3 45 "CleanSeed$Field" "high" "I" ∈ wall := wl_m 186 (by decide +kernel) rfl
theorem kF_X3_11 : Cond.fieldLink RX3 11 "CleanSeed$Field" "grown" "[LCleanSeed$Lot;" ∈ wall := wl_m 187 (by decide +kernel) rfl
theorem kF_X3_19 : Cond.fieldLink RX3 19 "CleanSeed$Field" "lastTold" "[LCleanSeed$Telling;" ∈ wall := wl_m 188 (by decide +kernel) rfl
theorem kM_X10_56 : Cond.methodLink RX10 56 yX2_addField ∈ wall := wl_m 204 (by decide +kernel) rfl
theorem kI_yX2_addField : Cond.instanceMethod yX2_addField ∈ wall := wl_m 205 (by decide +kernel) rfl
theorem kV_yX2_addField : Cond.selects RX2 yX2_addField yX2_addField ∈ wall := wl_m 206 (by decide +kernel) rfl
theorem kC_yX2_addField : Cond.code yX2_addField cX2_addField 2 (Option.some Jvm.ClassFile.FieldType.int) ∈ wall := wl_m 207 (by decide +kernel) rfl
theorem kM_L_18 : Cond.methodLink RL 18 yX10_near ∈ wall := wl_m 208 (by decide +kernel) rfl
theorem kI_yX10_near : Cond.instanceMethod yX10_near ∈ wall := wl_m 209 (by decide +kernel) rfl
theorem kV_yX10_near : Cond.selects RX10 yX10_near yX10_near ∈ wall := wl_m 210 (by decide +kernel) rfl
theorem kC_yX10_near : Cond.code yX10_near cX10_near 5 (Option.some Jvm.ClassFile.FieldType.int) ∈ wall := wl_m 211 (by decide +kernel) rfl
theorem kM_X10_60 : Cond.methodLink RX10 60 yX2_fieldAt ∈ wall := wl_m 212 (by decide +kernel) rfl
theorem kI_yX2_fieldAt : Cond.instanceMethod yX2_fieldAt ∈ wall := wl_m 213 (by decide +kernel) rfl
theorem kV_yX2_fieldAt : Cond.selects RX2 yX2_fieldAt yX2_fieldAt ∈ wall := wl_m 214 (by decide +kernel) rfl
theorem kC_yX2_fieldAt : Cond.code yX2_fieldAt cX2_fieldAt 2 (Option.some (Jvm.ClassFile.FieldType.object "CleanSeed$Field")) ∈ wall := wl_m 215 (by decide +kernel) rfl
theorem kM_X10_64 : Cond.methodLink RX10 64 yX3_squareTo ∈ wall := wl_m 216 (by decide +kernel) rfl
theorem kI_yX3_squareTo : Cond.instanceMethod yX3_squareTo ∈ wall := wl_m 217 (by decide +kernel) rfl
theorem kV_yX3_squareTo : Cond.selects RX3 yX3_squareTo yX3_squareTo ∈ wall := wl_m 218 (by decide +kernel) rfl
theorem kC_yX3_squareTo : Cond.code yX3_squareTo cX3_squareTo 4 (Option.some Jvm.ClassFile.FieldType.int) ∈ wall := wl_m 219 (by decide +kernel) rfl
theorem kM_L_23 : Cond.methodLink RL 23 yX10_stand ∈ wall := wl_m 220 (by decide +kernel) rfl
theorem kI_yX10_stand : Cond.instanceMethod yX10_stand ∈ wall := wl_m 221 (by decide +kernel) rfl
theorem kV_yX10_stand : Cond.selects RX10 yX10_stand yX10_stand ∈ wall := wl_m 222 (by decide +kernel) rfl
theorem kC_yX10_stand : Cond.code yX10_stand cX10_stand 5 (Option.some Jvm.ClassFile.FieldType.boolean) ∈ wall := wl_m 223 (by decide +kernel) rfl
theorem kM_X10_73 : Cond.methodLink RX10 73 yX3_tell ∈ wall := wl_m 224 (by decide +kernel) rfl
theorem kI_yX3_tell : Cond.instanceMethod yX3_tell ∈ wall := wl_m 225 (by decide +kernel) rfl
theorem kV_yX3_tell : Cond.selects RX3 yX3_tell yX3_tell ∈ wall := wl_m 226 (by decide +kernel) rfl
theorem kC_yX3_tell : Cond.code yX3_tell cX3_tell 4 (Option.none : Option Jvm.ClassFile.FieldType) ∈ wall := wl_m 227 (by decide +kernel) rfl
theorem kT_X9 : Cond.instantiable RX9 3 ∈ wall := wl_m 228 (by decide +kernel) rfl
theorem kM_X3_51 : Cond.methodLink RX3 51 yX9_init ∈ wall := wl_m 229 (by decide +kernel) rfl
theorem kI_yX9_init : Cond.instanceMethod yX9_init ∈ wall := wl_m 230 (by decide +kernel) rfl
theorem kC_yX9_init : Cond.code yX9_init cX9_init 4 (Option.none : Option Jvm.ClassFile.FieldType) ∈ wall := wl_m 231 (by decide +kernel) rfl
theorem kM_X9_1 : Cond.methodLink RX9 1 objectInit ∈ wall := wl_m 232 (by decide +kernel) rfl
theorem kF_X9_7 : Cond.fieldLink RX9 7 "CleanSeed$Telling" "before" "LCleanSeed$Telling;" ∈ wall := wl_m 233 (by decide +kernel) rfl
theorem kF_X3_65 : Cond.fieldLink RX3 65 "CleanSeed$Telling" "before" "LCleanSeed$Telling;" ∈ wall := wl_m 234 (by decide +kernel) rfl
theorem kF_X9_13 : Cond.fieldLink RX9 13 "CleanSeed$Telling" "toldIn" "I" ∈ wall := wl_m 235 (by decide +kernel) rfl
theorem kF_X3_61 : Cond.fieldLink RX3 61 "CleanSeed$Telling" "toldIn" "I" ∈ wall := wl_m 236 (by decide +kernel) rfl
theorem kF_X9_17 : Cond.fieldLink RX9 17 "CleanSeed$Telling" "crop" "I" ∈ wall := wl_m 237 (by decide +kernel) rfl
theorem kF_X3_64 : Cond.fieldLink RX3 64 "CleanSeed$Telling" "crop" "I" ∈ wall := wl_m 238 (by decide +kernel) rfl
theorem kM_L_28 : Cond.methodLink RL 28 yX10_stands ∈ wall := wl_m 246 (by decide +kernel) rfl
theorem kI_yX10_stands : Cond.instanceMethod yX10_stands ∈ wall := wl_m 247 (by decide +kernel) rfl
theorem kV_yX10_stands : Cond.selects RX10 yX10_stands yX10_stands ∈ wall := wl_m 248 (by decide +kernel) rfl
theorem kC_yX10_stands : Cond.code yX10_stands cX10_stands 5 (Option.some Jvm.ClassFile.FieldType.int) ∈ wall := wl_m 249 (by decide +kernel) rfl
theorem kM_X10_77 : Cond.methodLink RX10 77 yX3_cropIn ∈ wall := wl_m 250 (by decide +kernel) rfl
theorem kI_yX3_cropIn : Cond.instanceMethod yX3_cropIn ∈ wall := wl_m 251 (by decide +kernel) rfl
theorem kV_yX3_cropIn : Cond.selects RX3 yX3_cropIn yX3_cropIn ∈ wall := wl_m 252 (by decide +kernel) rfl
theorem kC_yX3_cropIn : Cond.code yX3_cropIn cX3_cropIn 5 (Option.some Jvm.ClassFile.FieldType.int) ∈ wall := wl_m 253 (by decide +kernel) rfl
theorem kM_X3_54 : Cond.methodLink RX3 54 yX3_grownIn ∈ wall := wl_m 254 (by decide +kernel) rfl
theorem kI_yX3_grownIn : Cond.instanceMethod yX3_grownIn ∈ wall := wl_m 255 (by decide +kernel) rfl
theorem kV_yX3_grownIn : Cond.selects RX3 yX3_grownIn yX3_grownIn ∈ wall := wl_m 256 (by decide +kernel) rfl
theorem kC_yX3_grownIn : Cond.code yX3_grownIn cX3_grownIn 2 (Option.some (Jvm.ClassFile.FieldType.object "CleanSeed$Lot")) ∈ wall := wl_m 257 (by decide +kernel) rfl
theorem kM_L_33 : Cond.methodLink RL 33 yX10_statute ∈ wall := wl_m 258 (by decide +kernel) rfl
theorem kI_yX10_statute : Cond.instanceMethod yX10_statute ∈ wall := wl_m 259 (by decide +kernel) rfl
theorem kV_yX10_statute : Cond.selects RX10 yX10_statute yX10_statute ∈ wall := wl_m 260 (by decide +kernel) rfl
theorem kC_yX10_statute : Cond.code yX10_statute cX10_statute 4 (Option.some Jvm.ClassFile.FieldType.int) ∈ wall := wl_m 261 (by decide +kernel) rfl
theorem kF_X10_81 : Cond.fieldLink RX10 81 "CleanSeed" "STATUTE_TOPS" "[I" ∈ wall := wl_m 262 (by decide +kernel) rfl
theorem kM_X10_84 : Cond.methodLink RX10 84 yX2_addStatute ∈ wall := wl_m 263 (by decide +kernel) rfl
theorem kI_yX2_addStatute : Cond.instanceMethod yX2_addStatute ∈ wall := wl_m 264 (by decide +kernel) rfl
theorem kV_yX2_addStatute : Cond.selects RX2 yX2_addStatute yX2_addStatute ∈ wall := wl_m 265 (by decide +kernel) rfl
theorem kC_yX2_addStatute : Cond.code yX2_addStatute cX2_addStatute 4 (Option.some Jvm.ClassFile.FieldType.int) ∈ wall := wl_m 266 (by decide +kernel) rfl
theorem kT_X8 : Cond.instantiable RX8 4 ∈ wall := wl_m 267 (by decide +kernel) rfl
theorem kM_X2_64 : Cond.methodLink RX2 64 yX8_init ∈ wall := wl_m 268 (by decide +kernel) rfl
theorem kI_yX8_init : Cond.instanceMethod yX8_init ∈ wall := wl_m 269 (by decide +kernel) rfl
theorem kC_yX8_init : Cond.code yX8_init cX8_init 5 (Option.none : Option Jvm.ClassFile.FieldType) ∈ wall := wl_m 270 (by decide +kernel) rfl
theorem kM_X8_1 : Cond.methodLink RX8 1 objectInit ∈ wall := wl_m 271 (by decide +kernel) rfl
theorem kF_X8_7 : Cond.fieldLink RX8 7 "CleanSeed$Statute" "before" "LCleanSeed$Statute;" ∈ wall := wl_m 272 (by decide +kernel) rfl
theorem kF_X2_76 : Cond.fieldLink RX2 76 "CleanSeed$Statute" "before" "LCleanSeed$Statute;" ∈ wall := wl_m 273 (by decide +kernel) rfl
theorem kF_X8_13 : Cond.fieldLink RX8 13 "CleanSeed$Statute" "toldIn" "I" ∈ wall := wl_m 274 (by decide +kernel) rfl
theorem kF_X2_70 : Cond.fieldLink RX2 70 "CleanSeed$Statute" "toldIn" "I" ∈ wall := wl_m 275 (by decide +kernel) rfl
theorem kF_X8_17 : Cond.fieldLink RX8 17 "CleanSeed$Statute" "from" "I" ∈ wall := wl_m 276 (by decide +kernel) rfl
theorem kF_X2_73 : Cond.fieldLink RX2 73 "CleanSeed$Statute" "from" "I" ∈ wall := wl_m 277 (by decide +kernel) rfl
theorem kF_X8_20 : Cond.fieldLink RX8 20 "CleanSeed$Statute" "value" "I" ∈ wall := wl_m 278 (by decide +kernel) rfl
theorem kF_X2_80 : Cond.fieldLink RX2 80 "CleanSeed$Statute" "value" "I" ∈ wall := wl_m 279 (by decide +kernel) rfl
theorem kM_L_37 : Cond.methodLink RL 37 yX10_force ∈ wall := wl_m 289 (by decide +kernel) rfl
theorem kI_yX10_force : Cond.instanceMethod yX10_force ∈ wall := wl_m 290 (by decide +kernel) rfl
theorem kV_yX10_force : Cond.selects RX10 yX10_force yX10_force ∈ wall := wl_m 291 (by decide +kernel) rfl
theorem kC_yX10_force : Cond.code yX10_force cX10_force 4 (Option.some Jvm.ClassFile.FieldType.int) ∈ wall := wl_m 292 (by decide +kernel) rfl
theorem kM_X10_88 : Cond.methodLink RX10 88 yX2_inForce ∈ wall := wl_m 293 (by decide +kernel) rfl
theorem kI_yX2_inForce : Cond.instanceMethod yX2_inForce ∈ wall := wl_m 294 (by decide +kernel) rfl
theorem kV_yX2_inForce : Cond.selects RX2 yX2_inForce yX2_inForce ∈ wall := wl_m 295 (by decide +kernel) rfl
theorem kC_yX2_inForce : Cond.code yX2_inForce cX2_inForce 7 (Option.some Jvm.ClassFile.FieldType.int) ∈ wall := wl_m 296 (by decide +kernel) rfl
theorem kM_L_41 : Cond.methodLink RL 41 yX10_tube ∈ wall := wl_m 299 (by decide +kernel) rfl
theorem kI_yX10_tube : Cond.instanceMethod yX10_tube ∈ wall := wl_m 300 (by decide +kernel) rfl
theorem kV_yX10_tube : Cond.selects RX10 yX10_tube yX10_tube ∈ wall := wl_m 301 (by decide +kernel) rfl
theorem kC_yX10_tube : Cond.code yX10_tube cX10_tube 3 (Option.some Jvm.ClassFile.FieldType.int) ∈ wall := wl_m 302 (by decide +kernel) rfl
theorem kL_X10_94 : Cond.classLink RX10 94 RX6 ∈ wall := wl_m 303 (by decide +kernel) rfl
theorem kT_X6 : Cond.instantiable RX6 20 ∈ wall := wl_m 304 (by decide +kernel) rfl
theorem kM_X10_96 : Cond.methodLink RX10 96 yX6_init ∈ wall := wl_m 305 (by decide +kernel) rfl
theorem kI_yX6_init : Cond.instanceMethod yX6_init ∈ wall := wl_m 306 (by decide +kernel) rfl
theorem kC_yX6_init : Cond.code yX6_init cX6_init 5 (Option.none : Option Jvm.ClassFile.FieldType) ∈ wall := wl_m 307 (by decide +kernel) rfl
theorem kM_X6_3 : Cond.methodLink RX6 3 objectInit ∈ wall := wl_m 308 (by decide +kernel) rfl
theorem kF_X6_64 : Cond.fieldLink RX6 64 "CleanSeed$Lot" "number" "I" ∈ wall := wl_m 309 (by decide +kernel) rfl
theorem kF_X1_25 : Cond.fieldLink RX1 25 "CleanSeed$Lot" "number" "I" ∈ wall := wl_m 310 (by decide +kernel) rfl
theorem kF_X4_84 : Cond.fieldLink RX4 84 "CleanSeed$Lot" "number" "I" ∈ wall := wl_m 311 (by decide +kernel) rfl
theorem kF_X10_232 : Cond.fieldLink RX10 232 "CleanSeed$Lot" "number" "I" ∈ wall := wl_m 312 (by decide +kernel) rfl
theorem kF_X6_67 : Cond.fieldLink RX6 67 "CleanSeed$Lot" "sort" "I" ∈ wall := wl_m 313 (by decide +kernel) rfl
theorem kF_X0_25 : Cond.fieldLink RX0 25 "CleanSeed$Lot" "sort" "I" ∈ wall := wl_m 314 (by decide +kernel) rfl
theorem kF_X10_115 : Cond.fieldLink RX10 115 "CleanSeed$Lot" "sort" "I" ∈ wall := wl_m 315 (by decide +kernel) rfl
theorem kF_X6_70 : Cond.fieldLink RX6 70 "CleanSeed$Lot" "crop" "I" ∈ wall := wl_m 316 (by decide +kernel) rfl
theorem kF_X7_65 : Cond.fieldLink RX7 65 "CleanSeed$Lot" "crop" "I" ∈ wall := wl_m 317 (by decide +kernel) rfl
theorem kF_X3_58 : Cond.fieldLink RX3 58 "CleanSeed$Lot" "crop" "I" ∈ wall := wl_m 318 (by decide +kernel) rfl
theorem kF_X0_74 : Cond.fieldLink RX0 74 "CleanSeed$Lot" "crop" "I" ∈ wall := wl_m 319 (by decide +kernel) rfl
theorem kF_X10_124 : Cond.fieldLink RX10 124 "CleanSeed$Lot" "crop" "I" ∈ wall := wl_m 320 (by decide +kernel) rfl
theorem kF_X6_73 : Cond.fieldLink RX6 73 "CleanSeed$Lot" "year" "I" ∈ wall := wl_m 321 (by decide +kernel) rfl
theorem kF_X3_48 : Cond.fieldLink RX3 48 "CleanSeed$Lot" "year" "I" ∈ wall := wl_m 322 (by decide +kernel) rfl
theorem kF_X0_67 : Cond.fieldLink RX0 67 "CleanSeed$Lot" "year" "I" ∈ wall := wl_m 323 (by decide +kernel) rfl
theorem kF_X10_118 : Cond.fieldLink RX10 118 "CleanSeed$Lot" "year" "I" ∈ wall := wl_m 324 (by decide +kernel) rfl
theorem kF_X6_9 : Cond.fieldLink RX6 9 "CleanSeed$Lot" "place" "LCleanSeed$Field;" ∈ wall := wl_m 325 (by decide +kernel) rfl
theorem kF_X0_59 : Cond.fieldLink RX0 59 "CleanSeed$Lot" "place" "LCleanSeed$Field;" ∈ wall := wl_m 326 (by decide +kernel) rfl
theorem kF_X10_131 : Cond.fieldLink RX10 131 "CleanSeed$Lot" "place" "LCleanSeed$Field;" ∈ wall := wl_m 327 (by decide +kernel) rfl
theorem kF_X6_15 : Cond.fieldLink RX6 15 "CleanSeed$Lot" "mother" "LCleanSeed$Lot;" ∈ wall := wl_m 328 (by decide +kernel) rfl
theorem kF_X4_25 : Cond.fieldLink RX4 25 "CleanSeed$Lot" "mother" "LCleanSeed$Lot;" ∈ wall := wl_m 329 (by decide +kernel) rfl
theorem kF_X10_127 : Cond.fieldLink RX10 127 "CleanSeed$Lot" "mother" "LCleanSeed$Lot;" ∈ wall := wl_m 330 (by decide +kernel) rfl
theorem kF_X6_19 : Cond.fieldLink RX6 19 "CleanSeed$Lot" "second" "LCleanSeed$Lot;" ∈ wall := wl_m 331 (by decide +kernel) rfl
theorem kF_X4_35 : Cond.fieldLink RX4 35 "CleanSeed$Lot" "second" "LCleanSeed$Lot;" ∈ wall := wl_m 332 (by decide +kernel) rfl
theorem kF_X10_149 : Cond.fieldLink RX10 149 "CleanSeed$Lot" "second" "LCleanSeed$Lot;" ∈ wall := wl_m 333 (by decide +kernel) rfl
theorem kF_X6_22 : Cond.fieldLink RX6 22 "CleanSeed$Lot" "grams" "I" ∈ wall := wl_m 334 (by decide +kernel) rfl
theorem kF_X10_139 : Cond.fieldLink RX10 139 "CleanSeed$Lot" "grams" "I" ∈ wall := wl_m 335 (by decide +kernel) rfl
theorem kF_X6_26 : Cond.fieldLink RX6 26 "CleanSeed$Lot" "first" "I" ∈ wall := wl_m 336 (by decide +kernel) rfl
theorem kF_X10_145 : Cond.fieldLink RX10 145 "CleanSeed$Lot" "first" "I" ∈ wall := wl_m 337 (by decide +kernel) rfl
theorem kF_X6_29 : Cond.fieldLink RX6 29 "CleanSeed$Lot" "sown" "I" ∈ wall := wl_m 338 (by decide +kernel) rfl
theorem kF_X10_142 : Cond.fieldLink RX10 142 "CleanSeed$Lot" "sown" "I" ∈ wall := wl_m 339 (by decide +kernel) rfl
theorem kF_X6_32 : Cond.fieldLink RX6 32 "CleanSeed$Lot" "mixed" "I" ∈ wall := wl_m 340 (by decide +kernel) rfl
theorem kF_X10_152 : Cond.fieldLink RX10 152 "CleanSeed$Lot" "mixed" "I" ∈ wall := wl_m 341 (by decide +kernel) rfl
theorem kF_X6_35 : Cond.fieldLink RX6 35 "CleanSeed$Lot" "bagged" "I" ∈ wall := wl_m 342 (by decide +kernel) rfl
theorem kF_X10_162 : Cond.fieldLink RX10 162 "CleanSeed$Lot" "bagged" "I" ∈ wall := wl_m 343 (by decide +kernel) rfl
theorem kF_X6_38 : Cond.fieldLink RX6 38 "CleanSeed$Lot" "tossed" "I" ∈ wall := wl_m 344 (by decide +kernel) rfl
theorem kF_X10_198 : Cond.fieldLink RX10 198 "CleanSeed$Lot" "tossed" "I" ∈ wall := wl_m 345 (by decide +kernel) rfl
theorem kF_X6_41 : Cond.fieldLink RX6 41 "CleanSeed$Lot" "lastLook" "LCleanSeed$Look;" ∈ wall := wl_m 346 (by decide +kernel) rfl
theorem kF_X10_206 : Cond.fieldLink RX10 206 "CleanSeed$Lot" "lastLook" "LCleanSeed$Look;" ∈ wall := wl_m 347 (by decide +kernel) rfl
theorem kF_X6_45 : Cond.fieldLink RX6 45 "CleanSeed$Lot" "falseIn" "I" ∈ wall := wl_m 348 (by decide +kernel) rfl
theorem kF_X10_225 : Cond.fieldLink RX10 225 "CleanSeed$Lot" "falseIn" "I" ∈ wall := wl_m 349 (by decide +kernel) rfl
theorem kF_X6_48 : Cond.fieldLink RX6 48 "CleanSeed$Lot" "rank" "I" ∈ wall := wl_m 350 (by decide +kernel) rfl
theorem kF_X0_38 : Cond.fieldLink RX0 38 "CleanSeed$Lot" "rank" "I" ∈ wall := wl_m 351 (by decide +kernel) rfl
theorem kF_X10_239 : Cond.fieldLink RX10 239 "CleanSeed$Lot" "rank" "I" ∈ wall := wl_m 352 (by decide +kernel) rfl
theorem kF_X6_51 : Cond.fieldLink RX6 51 "CleanSeed$Lot" "reason" "I" ∈ wall := wl_m 353 (by decide +kernel) rfl
theorem kF_X0_45 : Cond.fieldLink RX0 45 "CleanSeed$Lot" "reason" "I" ∈ wall := wl_m 354 (by decide +kernel) rfl
theorem kF_X10_242 : Cond.fieldLink RX10 242 "CleanSeed$Lot" "reason" "I" ∈ wall := wl_m 355 (by decide +kernel) rfl
theorem kF_X6_54 : Cond.fieldLink RX6 54 "CleanSeed$Lot" "lines" "I" ∈ wall := wl_m 356 (by decide +kernel) rfl
theorem kF_X4_45 : Cond.fieldLink RX4 45 "CleanSeed$Lot" "lines" "I" ∈ wall := wl_m 357 (by decide +kernel) rfl
theorem kF_X10_248 : Cond.fieldLink RX10 248 "CleanSeed$Lot" "lines" "I" ∈ wall := wl_m 358 (by decide +kernel) rfl
theorem kF_X6_57 : Cond.fieldLink RX6 57 "CleanSeed$Lot" "above" "Z" ∈ wall := wl_m 359 (by decide +kernel) rfl
theorem kF_X4_80 : Cond.fieldLink RX4 80 "CleanSeed$Lot" "above" "Z" ∈ wall := wl_m 360 (by decide +kernel) rfl
theorem kF_X6_61 : Cond.fieldLink RX6 61 "CleanSeed$Lot" "akin" "Z" ∈ wall := wl_m 361 (by decide +kernel) rfl
theorem kF_X4_94 : Cond.fieldLink RX4 94 "CleanSeed$Lot" "akin" "Z" ∈ wall := wl_m 362 (by decide +kernel) rfl
theorem kM_X10_99 : Cond.methodLink RX10 99 yX6_gain ∈ wall := wl_m 404 (by decide +kernel) rfl
theorem kI_yX6_gain : Cond.instanceMethod yX6_gain ∈ wall := wl_m 405 (by decide +kernel) rfl
theorem kV_yX6_gain : Cond.selects RX6 yX6_gain yX6_gain ∈ wall := wl_m 406 (by decide +kernel) rfl
theorem kC_yX6_gain : Cond.code yX6_gain cX6_gain 2 (Option.none : Option Jvm.ClassFile.FieldType) ∈ wall := wl_m 407 (by decide +kernel) rfl
theorem kM_X10_103 : Cond.methodLink RX10 103 yX2_addLot ∈ wall := wl_m 408 (by decide +kernel) rfl
theorem kI_yX2_addLot : Cond.instanceMethod yX2_addLot ∈ wall := wl_m 409 (by decide +kernel) rfl
theorem kV_yX2_addLot : Cond.selects RX2 yX2_addLot yX2_addLot ∈ wall := wl_m 410 (by decide +kernel) rfl
theorem kC_yX2_addLot : Cond.code yX2_addLot cX2_addLot 2 (Option.some Jvm.ClassFile.FieldType.int) ∈ wall := wl_m 411 (by decide +kernel) rfl
theorem kM_L_46 : Cond.methodLink RL 46 yX10_sow ∈ wall := wl_m 412 (by decide +kernel) rfl
theorem kI_yX10_sow : Cond.instanceMethod yX10_sow ∈ wall := wl_m 413 (by decide +kernel) rfl
theorem kV_yX10_sow : Cond.selects RX10 yX10_sow yX10_sow ∈ wall := wl_m 414 (by decide +kernel) rfl
theorem kC_yX10_sow : Cond.code yX10_sow cX10_sow 8 (Option.some Jvm.ClassFile.FieldType.int) ∈ wall := wl_m 415 (by decide +kernel) rfl
theorem kM_X10_107 : Cond.methodLink RX10 107 yX2_lotAt ∈ wall := wl_m 416 (by decide +kernel) rfl
theorem kI_yX2_lotAt : Cond.instanceMethod yX2_lotAt ∈ wall := wl_m 417 (by decide +kernel) rfl
theorem kV_yX2_lotAt : Cond.selects RX2 yX2_lotAt yX2_lotAt ∈ wall := wl_m 418 (by decide +kernel) rfl
theorem kC_yX2_lotAt : Cond.code yX2_lotAt cX2_lotAt 2 (Option.some (Jvm.ClassFile.FieldType.object "CleanSeed$Lot")) ∈ wall := wl_m 419 (by decide +kernel) rfl
theorem kM_X10_111 : Cond.methodLink RX10 111 yX6_has ∈ wall := wl_m 420 (by decide +kernel) rfl
theorem kI_yX6_has : Cond.instanceMethod yX6_has ∈ wall := wl_m 421 (by decide +kernel) rfl
theorem kV_yX6_has : Cond.selects RX6 yX6_has yX6_has ∈ wall := wl_m 422 (by decide +kernel) rfl
theorem kC_yX6_has : Cond.code yX6_has cX6_has 2 (Option.some Jvm.ClassFile.FieldType.boolean) ∈ wall := wl_m 423 (by decide +kernel) rfl
theorem kM_X10_121 : Cond.methodLink RX10 121 yX3_grownIn ∈ wall := wl_m 424 (by decide +kernel) rfl
theorem kM_X10_135 : Cond.methodLink RX10 135 yX3_grow ∈ wall := wl_m 425 (by decide +kernel) rfl
theorem kI_yX3_grow : Cond.instanceMethod yX3_grow ∈ wall := wl_m 426 (by decide +kernel) rfl
theorem kV_yX3_grow : Cond.selects RX3 yX3_grow yX3_grow ∈ wall := wl_m 427 (by decide +kernel) rfl
theorem kC_yX3_grow : Cond.code yX3_grow cX3_grow 2 (Option.none : Option Jvm.ClassFile.FieldType) ∈ wall := wl_m 428 (by decide +kernel) rfl
theorem kM_L_50 : Cond.methodLink RL 50 yX10_harvest ∈ wall := wl_m 429 (by decide +kernel) rfl
theorem kI_yX10_harvest : Cond.instanceMethod yX10_harvest ∈ wall := wl_m 430 (by decide +kernel) rfl
theorem kV_yX10_harvest : Cond.selects RX10 yX10_harvest yX10_harvest ∈ wall := wl_m 431 (by decide +kernel) rfl
theorem kC_yX10_harvest : Cond.code yX10_harvest cX10_harvest 4 (Option.some Jvm.ClassFile.FieldType.boolean) ∈ wall := wl_m 432 (by decide +kernel) rfl
theorem kM_L_55 : Cond.methodLink RL 55 yX10_mix ∈ wall := wl_m 434 (by decide +kernel) rfl
theorem kI_yX10_mix : Cond.instanceMethod yX10_mix ∈ wall := wl_m 435 (by decide +kernel) rfl
theorem kV_yX10_mix : Cond.selects RX10 yX10_mix yX10_mix ∈ wall := wl_m 436 (by decide +kernel) rfl
theorem kC_yX10_mix : Cond.code yX10_mix cX10_mix 8 (Option.some Jvm.ClassFile.FieldType.int) ∈ wall := wl_m 437 (by decide +kernel) rfl
theorem kM_L_59 : Cond.methodLink RL 59 yX10_bag ∈ wall := wl_m 438 (by decide +kernel) rfl
theorem kI_yX10_bag : Cond.instanceMethod yX10_bag ∈ wall := wl_m 439 (by decide +kernel) rfl
theorem kV_yX10_bag : Cond.selects RX10 yX10_bag yX10_bag ∈ wall := wl_m 440 (by decide +kernel) rfl
theorem kC_yX10_bag : Cond.code yX10_bag cX10_bag 4 (Option.some Jvm.ClassFile.FieldType.int) ∈ wall := wl_m 441 (by decide +kernel) rfl
theorem kM_X10_158 : Cond.methodLink RX10 158 yX10_isOutNow ∈ wall := wl_m 442 (by decide +kernel) rfl
theorem kI_yX10_isOutNow : Cond.instanceMethod yX10_isOutNow ∈ wall := wl_m 444 (by decide +kernel) rfl
theorem kC_yX10_isOutNow : Cond.code yX10_isOutNow cX10_isOutNow 2 (Option.some Jvm.ClassFile.FieldType.boolean) ∈ wall := wl_m 445 (by decide +kernel) rfl
theorem kM_X10_235 : Cond.methodLink RX10 235 yX0_assessUpTo ∈ wall := wl_m 446 (by decide +kernel) rfl
theorem kI_yX0_assessUpTo : Cond.instanceMethod yX0_assessUpTo ∈ wall := wl_m 447 (by decide +kernel) rfl
theorem kV_yX0_assessUpTo : Cond.selects RX0 yX0_assessUpTo yX0_assessUpTo ∈ wall := wl_m 448 (by decide +kernel) rfl
theorem kC_yX0_assessUpTo : Cond.code yX0_assessUpTo cX0_assessUpTo 5 (Option.none : Option Jvm.ClassFile.FieldType) ∈ wall := wl_m 449 (by decide +kernel) rfl
theorem kM_X0_21 : Cond.methodLink RX0 21 yX2_lotAt ∈ wall := wl_m 450 (by decide +kernel) rfl
theorem kM_X0_30 : Cond.methodLink RX0 30 yX0_assess ∈ wall := wl_m 451 (by decide +kernel) rfl
theorem kI_yX0_assess : Cond.instanceMethod yX0_assess ∈ wall := wl_m 453 (by decide +kernel) rfl
theorem kC_yX0_assess : Cond.code yX0_assess cX0_assess 3 (Option.none : Option Jvm.ClassFile.FieldType) ∈ wall := wl_m 454 (by decide +kernel) rfl
theorem kM_X0_41 : Cond.methodLink RX0 41 yX0_reasonToRefuse ∈ wall := wl_m 455 (by decide +kernel) rfl
theorem kI_yX0_reasonToRefuse : Cond.instanceMethod yX0_reasonToRefuse ∈ wall := wl_m 457 (by decide +kernel) rfl
theorem kC_yX0_reasonToRefuse : Cond.code yX0_reasonToRefuse cX0_reasonToRefuse 3 (Option.some Jvm.ClassFile.FieldType.int) ∈ wall := wl_m 458 (by decide +kernel) rfl
theorem kM_X0_52 : Cond.methodLink RX0 52 yX6_isFalseAsKnownIn ∈ wall := wl_m 459 (by decide +kernel) rfl
theorem kI_yX6_isFalseAsKnownIn : Cond.instanceMethod yX6_isFalseAsKnownIn ∈ wall := wl_m 460 (by decide +kernel) rfl
theorem kV_yX6_isFalseAsKnownIn : Cond.selects RX6 yX6_isFalseAsKnownIn yX6_isFalseAsKnownIn ∈ wall := wl_m 461 (by decide +kernel) rfl
theorem kC_yX6_isFalseAsKnownIn : Cond.code yX6_isFalseAsKnownIn cX6_isFalseAsKnownIn 2 (Option.some Jvm.ClassFile.FieldType.boolean) ∈ wall := wl_m 462 (by decide +kernel) rfl
theorem kM_X0_48 : Cond.methodLink RX0 48 yX6_rankOfMothers ∈ wall := wl_m 463 (by decide +kernel) rfl
theorem kI_yX6_rankOfMothers : Cond.instanceMethod yX6_rankOfMothers ∈ wall := wl_m 464 (by decide +kernel) rfl
theorem kV_yX6_rankOfMothers : Cond.selects RX6 yX6_rankOfMothers yX6_rankOfMothers ∈ wall := wl_m 465 (by decide +kernel) rfl
theorem kC_yX6_rankOfMothers : Cond.code yX6_rankOfMothers cX6_rankOfMothers 3 (Option.some Jvm.ClassFile.FieldType.int) ∈ wall := wl_m 466 (by decide +kernel) rfl
theorem kM_X6_92 : Cond.methodLink RX6 92 Lib.Math.max.name ∈ wall := wl_m 467 (by decide +kernel) rfl
theorem kM_X0_56 : Cond.methodLink RX0 56 yX0_reasonInField ∈ wall := wl_m 468 (by decide +kernel) rfl
theorem kI_yX0_reasonInField : Cond.instanceMethod yX0_reasonInField ∈ wall := wl_m 470 (by decide +kernel) rfl
theorem kC_yX0_reasonInField : Cond.code yX0_reasonInField cX0_reasonInField 7 (Option.some Jvm.ClassFile.FieldType.int) ∈ wall := wl_m 471 (by decide +kernel) rfl
theorem kM_X0_63 : Cond.methodLink RX0 63 yX0_isCrowded ∈ wall := wl_m 472 (by decide +kernel) rfl
theorem kI_yX0_isCrowded : Cond.instanceMethod yX0_isCrowded ∈ wall := wl_m 474 (by decide +kernel) rfl
theorem kC_yX0_isCrowded : Cond.code yX0_isCrowded cX0_isCrowded 6 (Option.some Jvm.ClassFile.FieldType.boolean) ∈ wall := wl_m 475 (by decide +kernel) rfl
theorem kM_X0_70 : Cond.methodLink RX0 70 yX2_inForce ∈ wall := wl_m 476 (by decide +kernel) rfl
theorem kM_X0_103 : Cond.methodLink RX0 103 yX2_fieldAt ∈ wall := wl_m 477 (by decide +kernel) rfl
theorem kM_X0_107 : Cond.methodLink RX0 107 yX3_cropIn ∈ wall := wl_m 478 (by decide +kernel) rfl
theorem kM_X0_111 : Cond.methodLink RX0 111 yX3_squareTo ∈ wall := wl_m 479 (by decide +kernel) rfl
theorem kM_X0_115 : Cond.methodLink RX0 115 yX3_grownIn ∈ wall := wl_m 480 (by decide +kernel) rfl
theorem kM_X0_118 : Cond.methodLink RX0 118 yX0_isAsGood ∈ wall := wl_m 481 (by decide +kernel) rfl
theorem kI_yX0_isAsGood : Cond.instanceMethod yX0_isAsGood ∈ wall := wl_m 483 (by decide +kernel) rfl
theorem kC_yX0_isAsGood : Cond.code yX0_isAsGood cX0_isAsGood 3 (Option.some Jvm.ClassFile.FieldType.boolean) ∈ wall := wl_m 484 (by decide +kernel) rfl
theorem kM_X0_77 : Cond.methodLink RX0 77 yX3_stoodAheadOf ∈ wall := wl_m 485 (by decide +kernel) rfl
theorem kI_yX3_stoodAheadOf : Cond.instanceMethod yX3_stoodAheadOf ∈ wall := wl_m 486 (by decide +kernel) rfl
theorem kV_yX3_stoodAheadOf : Cond.selects RX3 yX3_stoodAheadOf yX3_stoodAheadOf ∈ wall := wl_m 487 (by decide +kernel) rfl
theorem kC_yX3_stoodAheadOf : Cond.code yX3_stoodAheadOf cX3_stoodAheadOf 7 (Option.some Jvm.ClassFile.FieldType.boolean) ∈ wall := wl_m 488 (by decide +kernel) rfl
theorem kM_X3_69 : Cond.methodLink RX3 69 yX3_cropIn ∈ wall := wl_m 489 (by decide +kernel) rfl
theorem kM_X0_83 : Cond.methodLink RX0 83 yX6_lastLookAsKnownIn ∈ wall := wl_m 490 (by decide +kernel) rfl
theorem kI_yX6_lastLookAsKnownIn : Cond.instanceMethod yX6_lastLookAsKnownIn ∈ wall := wl_m 491 (by decide +kernel) rfl
theorem kV_yX6_lastLookAsKnownIn : Cond.selects RX6 yX6_lastLookAsKnownIn yX6_lastLookAsKnownIn ∈ wall := wl_m 492 (by decide +kernel) rfl
theorem kC_yX6_lastLookAsKnownIn : Cond.code yX6_lastLookAsKnownIn cX6_lastLookAsKnownIn 3 (Option.some (Jvm.ClassFile.FieldType.object "CleanSeed$Look")) ∈ wall := wl_m 493 (by decide +kernel) rfl
theorem kL_X10_165 : Cond.classLink RX10 165 RX1 ∈ wall := wl_m 495 (by decide +kernel) rfl
theorem kT_X1 : Cond.instantiable RX1 4 ∈ wall := wl_m 496 (by decide +kernel) rfl
theorem kM_X10_167 : Cond.methodLink RX10 167 yX2_nextSeal ∈ wall := wl_m 497 (by decide +kernel) rfl
theorem kI_yX2_nextSeal : Cond.instanceMethod yX2_nextSeal ∈ wall := wl_m 498 (by decide +kernel) rfl
theorem kV_yX2_nextSeal : Cond.selects RX2 yX2_nextSeal yX2_nextSeal ∈ wall := wl_m 499 (by decide +kernel) rfl
theorem kC_yX2_nextSeal : Cond.code yX2_nextSeal cX2_nextSeal 1 (Option.some Jvm.ClassFile.FieldType.int) ∈ wall := wl_m 500 (by decide +kernel) rfl
theorem kM_X10_171 : Cond.methodLink RX10 171 yX1_init ∈ wall := wl_m 501 (by decide +kernel) rfl
theorem kI_yX1_init : Cond.instanceMethod yX1_init ∈ wall := wl_m 502 (by decide +kernel) rfl
theorem kC_yX1_init : Cond.code yX1_init cX1_init 4 (Option.none : Option Jvm.ClassFile.FieldType) ∈ wall := wl_m 503 (by decide +kernel) rfl
theorem kM_X1_3 : Cond.methodLink RX1 3 objectInit ∈ wall := wl_m 504 (by decide +kernel) rfl
theorem kF_X1_15 : Cond.fieldLink RX1 15 "CleanSeed$Bag" "lot" "LCleanSeed$Lot;" ∈ wall := wl_m 505 (by decide +kernel) rfl
theorem kF_X4_65 : Cond.fieldLink RX4 65 "CleanSeed$Bag" "lot" "LCleanSeed$Lot;" ∈ wall := wl_m 506 (by decide +kernel) rfl
theorem kF_X10_192 : Cond.fieldLink RX10 192 "CleanSeed$Bag" "lot" "LCleanSeed$Lot;" ∈ wall := wl_m 507 (by decide +kernel) rfl
theorem kF_X1_19 : Cond.fieldLink RX1 19 "CleanSeed$Bag" "grams" "I" ∈ wall := wl_m 508 (by decide +kernel) rfl
theorem kF_X1_22 : Cond.fieldLink RX1 22 "CleanSeed$Bag" "seal" "I" ∈ wall := wl_m 509 (by decide +kernel) rfl
theorem kF_X10_186 : Cond.fieldLink RX10 186 "CleanSeed$Bag" "seal" "I" ∈ wall := wl_m 510 (by decide +kernel) rfl
theorem kF_X1_9 : Cond.fieldLink RX1 9 "CleanSeed$Bag" "buyer" "I" ∈ wall := wl_m 511 (by decide +kernel) rfl
theorem kF_X4_68 : Cond.fieldLink RX4 68 "CleanSeed$Bag" "buyer" "I" ∈ wall := wl_m 512 (by decide +kernel) rfl
theorem kF_X10_195 : Cond.fieldLink RX10 195 "CleanSeed$Bag" "buyer" "I" ∈ wall := wl_m 513 (by decide +kernel) rfl
theorem kM_X10_174 : Cond.methodLink RX10 174 yX2_addBag ∈ wall := wl_m 523 (by decide +kernel) rfl
theorem kI_yX2_addBag : Cond.instanceMethod yX2_addBag ∈ wall := wl_m 524 (by decide +kernel) rfl
theorem kV_yX2_addBag : Cond.selects RX2 yX2_addBag yX2_addBag ∈ wall := wl_m 525 (by decide +kernel) rfl
theorem kC_yX2_addBag : Cond.code yX2_addBag cX2_addBag 2 (Option.some Jvm.ClassFile.FieldType.int) ∈ wall := wl_m 526 (by decide +kernel) rfl
theorem kM_L_63 : Cond.methodLink RL 63 yX10_open ∈ wall := wl_m 527 (by decide +kernel) rfl
theorem kI_yX10_open : Cond.instanceMethod yX10_open ∈ wall := wl_m 528 (by decide +kernel) rfl
theorem kV_yX10_open : Cond.selects RX10 yX10_open yX10_open ∈ wall := wl_m 529 (by decide +kernel) rfl
theorem kC_yX10_open : Cond.code yX10_open cX10_open 3 (Option.some Jvm.ClassFile.FieldType.boolean) ∈ wall := wl_m 530 (by decide +kernel) rfl
theorem kM_X10_178 : Cond.methodLink RX10 178 yX2_bagAt ∈ wall := wl_m 531 (by decide +kernel) rfl
theorem kI_yX2_bagAt : Cond.instanceMethod yX2_bagAt ∈ wall := wl_m 532 (by decide +kernel) rfl
theorem kV_yX2_bagAt : Cond.selects RX2 yX2_bagAt yX2_bagAt ∈ wall := wl_m 533 (by decide +kernel) rfl
theorem kC_yX2_bagAt : Cond.code yX2_bagAt cX2_bagAt 2 (Option.some (Jvm.ClassFile.FieldType.object "CleanSeed$Bag")) ∈ wall := wl_m 534 (by decide +kernel) rfl
theorem kM_X10_182 : Cond.methodLink RX10 182 yX1_isOpened ∈ wall := wl_m 535 (by decide +kernel) rfl
theorem kI_yX1_isOpened : Cond.instanceMethod yX1_isOpened ∈ wall := wl_m 536 (by decide +kernel) rfl
theorem kV_yX1_isOpened : Cond.selects RX1 yX1_isOpened yX1_isOpened ∈ wall := wl_m 537 (by decide +kernel) rfl
theorem kC_yX1_isOpened : Cond.code yX1_isOpened cX1_isOpened 1 (Option.some Jvm.ClassFile.FieldType.boolean) ∈ wall := wl_m 538 (by decide +kernel) rfl
theorem kM_L_68 : Cond.methodLink RL 68 yX10_seal ∈ wall := wl_m 539 (by decide +kernel) rfl
theorem kI_yX10_seal : Cond.instanceMethod yX10_seal ∈ wall := wl_m 540 (by decide +kernel) rfl
theorem kV_yX10_seal : Cond.selects RX10 yX10_seal yX10_seal ∈ wall := wl_m 541 (by decide +kernel) rfl
theorem kC_yX10_seal : Cond.code yX10_seal cX10_seal 3 (Option.some Jvm.ClassFile.FieldType.int) ∈ wall := wl_m 542 (by decide +kernel) rfl
theorem kM_X10_189 : Cond.methodLink RX10 189 yX1_isSold ∈ wall := wl_m 543 (by decide +kernel) rfl
theorem kI_yX1_isSold : Cond.instanceMethod yX1_isSold ∈ wall := wl_m 544 (by decide +kernel) rfl
theorem kV_yX1_isSold : Cond.selects RX1 yX1_isSold yX1_isSold ∈ wall := wl_m 545 (by decide +kernel) rfl
theorem kC_yX1_isSold : Cond.code yX1_isSold cX1_isSold 1 (Option.some Jvm.ClassFile.FieldType.boolean) ∈ wall := wl_m 546 (by decide +kernel) rfl
theorem kM_L_72 : Cond.methodLink RL 72 yX10_sell ∈ wall := wl_m 547 (by decide +kernel) rfl
theorem kI_yX10_sell : Cond.instanceMethod yX10_sell ∈ wall := wl_m 548 (by decide +kernel) rfl
theorem kV_yX10_sell : Cond.selects RX10 yX10_sell yX10_sell ∈ wall := wl_m 549 (by decide +kernel) rfl
theorem kC_yX10_sell : Cond.code yX10_sell cX10_sell 4 (Option.some Jvm.ClassFile.FieldType.boolean) ∈ wall := wl_m 550 (by decide +kernel) rfl
theorem kM_L_76 : Cond.methodLink RL 76 yX10_toss ∈ wall := wl_m 551 (by decide +kernel) rfl
theorem kI_yX10_toss : Cond.instanceMethod yX10_toss ∈ wall := wl_m 552 (by decide +kernel) rfl
theorem kV_yX10_toss : Cond.selects RX10 yX10_toss yX10_toss ∈ wall := wl_m 553 (by decide +kernel) rfl
theorem kC_yX10_toss : Cond.code yX10_toss cX10_toss 4 (Option.some Jvm.ClassFile.FieldType.boolean) ∈ wall := wl_m 554 (by decide +kernel) rfl
theorem kM_L_80 : Cond.methodLink RL 80 yX10_look ∈ wall := wl_m 555 (by decide +kernel) rfl
theorem kI_yX10_look : Cond.instanceMethod yX10_look ∈ wall := wl_m 556 (by decide +kernel) rfl
theorem kV_yX10_look : Cond.selects RX10 yX10_look yX10_look ∈ wall := wl_m 557 (by decide +kernel) rfl
theorem kC_yX10_look : Cond.code yX10_look cX10_look 5 (Option.some Jvm.ClassFile.FieldType.int) ∈ wall := wl_m 558 (by decide +kernel) rfl
theorem kL_X10_204 : Cond.classLink RX10 204 RX5 ∈ wall := wl_m 559 (by decide +kernel) rfl
theorem kT_X5 : Cond.instantiable RX5 5 ∈ wall := wl_m 560 (by decide +kernel) rfl
theorem kM_X10_210 : Cond.methodLink RX10 210 yX5_init ∈ wall := wl_m 561 (by decide +kernel) rfl
theorem kI_yX5_init : Cond.instanceMethod yX5_init ∈ wall := wl_m 562 (by decide +kernel) rfl
theorem kC_yX5_init : Cond.code yX5_init cX5_init 5 (Option.none : Option Jvm.ClassFile.FieldType) ∈ wall := wl_m 563 (by decide +kernel) rfl
theorem kM_X5_1 : Cond.methodLink RX5 1 objectInit ∈ wall := wl_m 564 (by decide +kernel) rfl
theorem kF_X5_7 : Cond.fieldLink RX5 7 "CleanSeed$Look" "before" "LCleanSeed$Look;" ∈ wall := wl_m 565 (by decide +kernel) rfl
theorem kF_X6_82 : Cond.fieldLink RX6 82 "CleanSeed$Look" "before" "LCleanSeed$Look;" ∈ wall := wl_m 566 (by decide +kernel) rfl
theorem kF_X5_13 : Cond.fieldLink RX5 13 "CleanSeed$Look" "toldIn" "I" ∈ wall := wl_m 567 (by decide +kernel) rfl
theorem kF_X6_79 : Cond.fieldLink RX6 79 "CleanSeed$Look" "toldIn" "I" ∈ wall := wl_m 568 (by decide +kernel) rfl
theorem kF_X5_17 : Cond.fieldLink RX5 17 "CleanSeed$Look" "number" "I" ∈ wall := wl_m 569 (by decide +kernel) rfl
theorem kF_X6_76 : Cond.fieldLink RX6 76 "CleanSeed$Look" "number" "I" ∈ wall := wl_m 570 (by decide +kernel) rfl
theorem kF_X0_87 : Cond.fieldLink RX0 87 "CleanSeed$Look" "number" "I" ∈ wall := wl_m 571 (by decide +kernel) rfl
theorem kF_X5_20 : Cond.fieldLink RX5 20 "CleanSeed$Look" "plants" "I" ∈ wall := wl_m 572 (by decide +kernel) rfl
theorem kF_X0_97 : Cond.fieldLink RX0 97 "CleanSeed$Look" "plants" "I" ∈ wall := wl_m 573 (by decide +kernel) rfl
theorem kF_X5_23 : Cond.fieldLink RX5 23 "CleanSeed$Look" "ill" "I" ∈ wall := wl_m 574 (by decide +kernel) rfl
theorem kF_X0_94 : Cond.fieldLink RX0 94 "CleanSeed$Look" "ill" "I" ∈ wall := wl_m 575 (by decide +kernel) rfl
theorem kM_X10_213 : Cond.methodLink RX10 213 yX6_lookCount ∈ wall := wl_m 587 (by decide +kernel) rfl
theorem kI_yX6_lookCount : Cond.instanceMethod yX6_lookCount ∈ wall := wl_m 588 (by decide +kernel) rfl
theorem kV_yX6_lookCount : Cond.selects RX6 yX6_lookCount yX6_lookCount ∈ wall := wl_m 589 (by decide +kernel) rfl
theorem kC_yX6_lookCount : Cond.code yX6_lookCount cX6_lookCount 1 (Option.some Jvm.ClassFile.FieldType.int) ∈ wall := wl_m 590 (by decide +kernel) rfl
theorem kM_L_86 : Cond.methodLink RL 86 yX10_drawn ∈ wall := wl_m 591 (by decide +kernel) rfl
theorem kI_yX10_drawn : Cond.instanceMethod yX10_drawn ∈ wall := wl_m 592 (by decide +kernel) rfl
theorem kV_yX10_drawn : Cond.selects RX10 yX10_drawn yX10_drawn ∈ wall := wl_m 593 (by decide +kernel) rfl
theorem kC_yX10_drawn : Cond.code yX10_drawn cX10_drawn 11 (Option.some Jvm.ClassFile.FieldType.int) ∈ wall := wl_m 594 (by decide +kernel) rfl
theorem kM_X10_216 : Cond.methodLink RX10 216 Lib.Math.min.name ∈ wall := wl_m 595 (by decide +kernel) rfl
theorem kM_L_91 : Cond.methodLink RL 91 yX10_prove ∈ wall := wl_m 598 (by decide +kernel) rfl
theorem kI_yX10_prove : Cond.instanceMethod yX10_prove ∈ wall := wl_m 599 (by decide +kernel) rfl
theorem kV_yX10_prove : Cond.selects RX10 yX10_prove yX10_prove ∈ wall := wl_m 600 (by decide +kernel) rfl
theorem kC_yX10_prove : Cond.code yX10_prove cX10_prove 3 (Option.some Jvm.ClassFile.FieldType.boolean) ∈ wall := wl_m 601 (by decide +kernel) rfl
theorem kM_L_95 : Cond.methodLink RL 95 yX10_year ∈ wall := wl_m 602 (by decide +kernel) rfl
theorem kI_yX10_year : Cond.instanceMethod yX10_year ∈ wall := wl_m 603 (by decide +kernel) rfl
theorem kV_yX10_year : Cond.selects RX10 yX10_year yX10_year ∈ wall := wl_m 604 (by decide +kernel) rfl
theorem kC_yX10_year : Cond.code yX10_year cX10_year 1 (Option.some Jvm.ClassFile.FieldType.int) ∈ wall := wl_m 605 (by decide +kernel) rfl
theorem kM_L_100 : Cond.methodLink RL 100 yX10_judge ∈ wall := wl_m 606 (by decide +kernel) rfl
theorem kI_yX10_judge : Cond.instanceMethod yX10_judge ∈ wall := wl_m 607 (by decide +kernel) rfl
theorem kV_yX10_judge : Cond.selects RX10 yX10_judge yX10_judge ∈ wall := wl_m 608 (by decide +kernel) rfl
theorem kC_yX10_judge : Cond.code yX10_judge cX10_judge 4 (Option.some Jvm.ClassFile.FieldType.int) ∈ wall := wl_m 609 (by decide +kernel) rfl
theorem kM_X10_228 : Cond.methodLink RX10 228 yX10_lotKnownIn ∈ wall := wl_m 610 (by decide +kernel) rfl
theorem kI_yX10_lotKnownIn : Cond.instanceMethod yX10_lotKnownIn ∈ wall := wl_m 612 (by decide +kernel) rfl
theorem kC_yX10_lotKnownIn : Cond.code yX10_lotKnownIn cX10_lotKnownIn 4 (Option.some (Jvm.ClassFile.FieldType.object "CleanSeed$Lot")) ∈ wall := wl_m 613 (by decide +kernel) rfl
theorem kM_L_104 : Cond.methodLink RL 104 yX10_why ∈ wall := wl_m 614 (by decide +kernel) rfl
theorem kI_yX10_why : Cond.instanceMethod yX10_why ∈ wall := wl_m 615 (by decide +kernel) rfl
theorem kV_yX10_why : Cond.selects RX10 yX10_why yX10_why ∈ wall := wl_m 616 (by decide +kernel) rfl
theorem kC_yX10_why : Cond.code yX10_why cX10_why 4 (Option.some Jvm.ClassFile.FieldType.int) ∈ wall := wl_m 617 (by decide +kernel) rfl
theorem kM_L_108 : Cond.methodLink RL 108 yX10_ways ∈ wall := wl_m 618 (by decide +kernel) rfl
theorem kI_yX10_ways : Cond.instanceMethod yX10_ways ∈ wall := wl_m 619 (by decide +kernel) rfl
theorem kV_yX10_ways : Cond.selects RX10 yX10_ways yX10_ways ∈ wall := wl_m 620 (by decide +kernel) rfl
theorem kC_yX10_ways : Cond.code yX10_ways cX10_ways 5 (Option.some Jvm.ClassFile.FieldType.int) ∈ wall := wl_m 621 (by decide +kernel) rfl
theorem kM_X10_245 : Cond.methodLink RX10 245 yX4_traceBelow ∈ wall := wl_m 622 (by decide +kernel) rfl
theorem kI_yX4_traceBelow : Cond.instanceMethod yX4_traceBelow ∈ wall := wl_m 623 (by decide +kernel) rfl
theorem kV_yX4_traceBelow : Cond.selects RX4 yX4_traceBelow yX4_traceBelow ∈ wall := wl_m 624 (by decide +kernel) rfl
theorem kC_yX4_traceBelow : Cond.code yX4_traceBelow cX4_traceBelow 5 (Option.none : Option Jvm.ClassFile.FieldType) ∈ wall := wl_m 625 (by decide +kernel) rfl
theorem kM_X4_21 : Cond.methodLink RX4 21 yX2_lotAt ∈ wall := wl_m 626 (by decide +kernel) rfl
theorem kM_X4_31 : Cond.methodLink RX4 31 yX4_linesOf ∈ wall := wl_m 627 (by decide +kernel) rfl
theorem kS_yX4_linesOf : Cond.static yX4_linesOf ∈ wall := wl_m 628 (by decide +kernel) rfl
theorem kC_yX4_linesOf : Cond.code yX4_linesOf cX4_linesOf 1 (Option.some Jvm.ClassFile.FieldType.int) ∈ wall := wl_m 629 (by decide +kernel) rfl
theorem kM_X4_39 : Cond.methodLink RX4 39 Lib.Math.min.name ∈ wall := wl_m 631 (by decide +kernel) rfl
theorem kM_L_112 : Cond.methodLink RL 112 yX10_touched ∈ wall := wl_m 632 (by decide +kernel) rfl
theorem kI_yX10_touched : Cond.instanceMethod yX10_touched ∈ wall := wl_m 633 (by decide +kernel) rfl
theorem kV_yX10_touched : Cond.selects RX10 yX10_touched yX10_touched ∈ wall := wl_m 634 (by decide +kernel) rfl
theorem kC_yX10_touched : Cond.code yX10_touched cX10_touched 5 (Option.some Jvm.ClassFile.FieldType.int) ∈ wall := wl_m 635 (by decide +kernel) rfl
theorem kM_X10_251 : Cond.methodLink RX10 251 yX4_touchedBy ∈ wall := wl_m 636 (by decide +kernel) rfl
theorem kI_yX4_touchedBy : Cond.instanceMethod yX4_touchedBy ∈ wall := wl_m 637 (by decide +kernel) rfl
theorem kV_yX4_touchedBy : Cond.selects RX4 yX4_touchedBy yX4_touchedBy ∈ wall := wl_m 638 (by decide +kernel) rfl
theorem kC_yX4_touchedBy : Cond.code yX4_touchedBy cX4_touchedBy 7 (Option.some Jvm.ClassFile.FieldType.int) ∈ wall := wl_m 639 (by decide +kernel) rfl
theorem kM_X4_48 : Cond.methodLink RX4 48 yX4_traceBelow ∈ wall := wl_m 640 (by decide +kernel) rfl
theorem kM_X4_71 : Cond.methodLink RX4 71 yX4_markAbove ∈ wall := wl_m 641 (by decide +kernel) rfl
theorem kI_yX4_markAbove : Cond.instanceMethod yX4_markAbove ∈ wall := wl_m 643 (by decide +kernel) rfl
theorem kC_yX4_markAbove : Cond.code yX4_markAbove cX4_markAbove 4 (Option.none : Option Jvm.ClassFile.FieldType) ∈ wall := wl_m 644 (by decide +kernel) rfl
theorem kM_X4_87 : Cond.methodLink RX4 87 yX4_markOneAbove ∈ wall := wl_m 645 (by decide +kernel) rfl
theorem kS_yX4_markOneAbove : Cond.static yX4_markOneAbove ∈ wall := wl_m 646 (by decide +kernel) rfl
theorem kC_yX4_markOneAbove : Cond.code yX4_markOneAbove cX4_markOneAbove 1 (Option.none : Option Jvm.ClassFile.FieldType) ∈ wall := wl_m 647 (by decide +kernel) rfl
theorem kM_X4_74 : Cond.methodLink RX4 74 yX4_markAkin ∈ wall := wl_m 648 (by decide +kernel) rfl
theorem kI_yX4_markAkin : Cond.instanceMethod yX4_markAkin ∈ wall := wl_m 650 (by decide +kernel) rfl
theorem kC_yX4_markAkin : Cond.code yX4_markAkin cX4_markAkin 5 (Option.none : Option Jvm.ClassFile.FieldType) ∈ wall := wl_m 651 (by decide +kernel) rfl
theorem kM_X4_90 : Cond.methodLink RX4 90 yX4_isAkin ∈ wall := wl_m 652 (by decide +kernel) rfl
theorem kS_yX4_isAkin : Cond.static yX4_isAkin ∈ wall := wl_m 653 (by decide +kernel) rfl
theorem kC_yX4_isAkin : Cond.code yX4_isAkin cX4_isAkin 1 (Option.some Jvm.ClassFile.FieldType.boolean) ∈ wall := wl_m 654 (by decide +kernel) rfl
theorem kM_X4_77 : Cond.methodLink RX4 77 yX4_rowOf ∈ wall := wl_m 655 (by decide +kernel) rfl
theorem kS_yX4_rowOf : Cond.static yX4_rowOf ∈ wall := wl_m 656 (by decide +kernel) rfl
theorem kC_yX4_rowOf : Cond.code yX4_rowOf cX4_rowOf 1 (Option.some Jvm.ClassFile.FieldType.int) ∈ wall := wl_m 657 (by decide +kernel) rfl
theorem kM_L_116 : Cond.methodLink RL 116 yX10_buyers ∈ wall := wl_m 658 (by decide +kernel) rfl
theorem kI_yX10_buyers : Cond.instanceMethod yX10_buyers ∈ wall := wl_m 659 (by decide +kernel) rfl
theorem kV_yX10_buyers : Cond.selects RX10 yX10_buyers yX10_buyers ∈ wall := wl_m 660 (by decide +kernel) rfl
theorem kC_yX10_buyers : Cond.code yX10_buyers cX10_buyers 3 (Option.some Jvm.ClassFile.FieldType.int) ∈ wall := wl_m 661 (by decide +kernel) rfl
theorem kM_X10_255 : Cond.methodLink RX10 255 yX4_buyersBelow ∈ wall := wl_m 662 (by decide +kernel) rfl
theorem kI_yX4_buyersBelow : Cond.instanceMethod yX4_buyersBelow ∈ wall := wl_m 663 (by decide +kernel) rfl
theorem kV_yX4_buyersBelow : Cond.selects RX4 yX4_buyersBelow yX4_buyersBelow ∈ wall := wl_m 664 (by decide +kernel) rfl
theorem kC_yX4_buyersBelow : Cond.code yX4_buyersBelow cX4_buyersBelow 5 (Option.some Jvm.ClassFile.FieldType.int) ∈ wall := wl_m 665 (by decide +kernel) rfl
theorem kM_X4_55 : Cond.methodLink RX4 55 yX2_bagAt ∈ wall := wl_m 666 (by decide +kernel) rfl
theorem kM_X4_59 : Cond.methodLink RX4 59 yX1_isSold ∈ wall := wl_m 667 (by decide +kernel) rfl
theorem kM_L_120 : Cond.methodLink RL 120 yX10_want ∈ wall := wl_m 668 (by decide +kernel) rfl
theorem kI_yX10_want : Cond.instanceMethod yX10_want ∈ wall := wl_m 669 (by decide +kernel) rfl
theorem kV_yX10_want : Cond.selects RX10 yX10_want yX10_want ∈ wall := wl_m 670 (by decide +kernel) rfl
theorem kC_yX10_want : Cond.code yX10_want cX10_want 3 (Option.some Jvm.ClassFile.FieldType.int) ∈ wall := wl_m 671 (by decide +kernel) rfl
theorem kM_X10_258 : Cond.methodLink RX10 258 yX7_forgetAll ∈ wall := wl_m 672 (by decide +kernel) rfl
theorem kI_yX7_forgetAll : Cond.instanceMethod yX7_forgetAll ∈ wall := wl_m 673 (by decide +kernel) rfl
theorem kV_yX7_forgetAll : Cond.selects RX7 yX7_forgetAll yX7_forgetAll ∈ wall := wl_m 674 (by decide +kernel) rfl
theorem kC_yX7_forgetAll : Cond.code yX7_forgetAll cX7_forgetAll 1 (Option.none : Option Jvm.ClassFile.FieldType) ∈ wall := wl_m 675 (by decide +kernel) rfl
theorem kM_X10_261 : Cond.methodLink RX10 261 yX7_add ∈ wall := wl_m 676 (by decide +kernel) rfl
theorem kI_yX7_add : Cond.instanceMethod yX7_add ∈ wall := wl_m 677 (by decide +kernel) rfl
theorem kV_yX7_add : Cond.selects RX7 yX7_add yX7_add ∈ wall := wl_m 678 (by decide +kernel) rfl
theorem kC_yX7_add : Cond.code yX7_add cX7_add 3 (Option.some Jvm.ClassFile.FieldType.int) ∈ wall := wl_m 679 (by decide +kernel) rfl
theorem kM_L_124 : Cond.methodLink RL 124 yX10_plan ∈ wall := wl_m 680 (by decide +kernel) rfl
theorem kI_yX10_plan : Cond.instanceMethod yX10_plan ∈ wall := wl_m 681 (by decide +kernel) rfl
theorem kV_yX10_plan : Cond.selects RX10 yX10_plan yX10_plan ∈ wall := wl_m 682 (by decide +kernel) rfl
theorem kC_yX10_plan : Cond.code yX10_plan cX10_plan 2 (Option.some Jvm.ClassFile.FieldType.int) ∈ wall := wl_m 683 (by decide +kernel) rfl
theorem kM_X10_267 : Cond.methodLink RX10 267 yX7_placeOf ∈ wall := wl_m 684 (by decide +kernel) rfl
theorem kI_yX7_placeOf : Cond.instanceMethod yX7_placeOf ∈ wall := wl_m 685 (by decide +kernel) rfl
theorem kV_yX7_placeOf : Cond.selects RX7 yX7_placeOf yX7_placeOf ∈ wall := wl_m 686 (by decide +kernel) rfl
theorem kC_yX7_placeOf : Cond.code yX7_placeOf cX7_placeOf 3 (Option.some Jvm.ClassFile.FieldType.int) ∈ wall := wl_m 687 (by decide +kernel) rfl
theorem kM_X7_46 : Cond.methodLink RX7 46 yX2_inForce ∈ wall := wl_m 688 (by decide +kernel) rfl
theorem kM_X7_50 : Cond.methodLink RX7 50 yX7_markMayTake ∈ wall := wl_m 689 (by decide +kernel) rfl
theorem kI_yX7_markMayTake : Cond.instanceMethod yX7_markMayTake ∈ wall := wl_m 691 (by decide +kernel) rfl
theorem kC_yX7_markMayTake : Cond.code yX7_markMayTake cX7_markMayTake 7 (Option.none : Option Jvm.ClassFile.FieldType) ∈ wall := wl_m 692 (by decide +kernel) rfl
theorem kM_X7_61 : Cond.methodLink RX7 61 yX2_fieldAt ∈ wall := wl_m 693 (by decide +kernel) rfl
theorem kM_X7_68 : Cond.methodLink RX7 68 yX3_stoodAheadOf ∈ wall := wl_m 694 (by decide +kernel) rfl
theorem kM_X7_54 : Cond.methodLink RX7 54 yX7_markTooNear ∈ wall := wl_m 695 (by decide +kernel) rfl
theorem kI_yX7_markTooNear : Cond.instanceMethod yX7_markTooNear ∈ wall := wl_m 697 (by decide +kernel) rfl
theorem kC_yX7_markTooNear : Cond.code yX7_markTooNear cX7_markTooNear 6 (Option.none : Option Jvm.ClassFile.FieldType) ∈ wall := wl_m 698 (by decide +kernel) rfl
theorem kM_X7_74 : Cond.methodLink RX7 74 yX3_squareTo ∈ wall := wl_m 699 (by decide +kernel) rfl
theorem kM_X7_58 : Cond.methodLink RX7 58 yX7_search ∈ wall := wl_m 700 (by decide +kernel) rfl
theorem kI_yX7_search : Cond.instanceMethod yX7_search ∈ wall := wl_m 702 (by decide +kernel) rfl
theorem kC_yX7_search : Cond.code yX7_search cX7_search 4 (Option.none : Option Jvm.ClassFile.FieldType) ∈ wall := wl_m 703 (by decide +kernel) rfl
theorem kM_X7_84 : Cond.methodLink RX7 84 yX7_fits ∈ wall := wl_m 707 (by decide +kernel) rfl
theorem kI_yX7_fits : Cond.instanceMethod yX7_fits ∈ wall := wl_m 709 (by decide +kernel) rfl
theorem kC_yX7_fits : Cond.code yX7_fits cX7_fits 6 (Option.some Jvm.ClassFile.FieldType.boolean) ∈ wall := wl_m 710 (by decide +kernel) rfl
theorem kM_X7_88 : Cond.methodLink RX7 88 yX7_areOfOneCrop ∈ wall := wl_m 711 (by decide +kernel) rfl
theorem kS_yX7_areOfOneCrop : Cond.static yX7_areOfOneCrop ∈ wall := wl_m 712 (by decide +kernel) rfl
theorem kC_yX7_areOfOneCrop : Cond.code yX7_areOfOneCrop cX7_areOfOneCrop 2 (Option.some Jvm.ClassFile.FieldType.boolean) ∈ wall := wl_m 713 (by decide +kernel) rfl
theorem kM_L_128 : Cond.methodLink RL 128 yX10_told ∈ wall := wl_m 714 (by decide +kernel) rfl
theorem kI_yX10_told : Cond.instanceMethod yX10_told ∈ wall := wl_m 715 (by decide +kernel) rfl
theorem kV_yX10_told : Cond.selects RX10 yX10_told yX10_told ∈ wall := wl_m 716 (by decide +kernel) rfl
theorem kC_yX10_told : Cond.code yX10_told cX10_told 4 (Option.some Jvm.ClassFile.FieldType.int) ∈ wall := wl_m 717 (by decide +kernel) rfl
theorem kM_X10_271 : Cond.methodLink RX10 271 yX6_about ∈ wall := wl_m 718 (by decide +kernel) rfl
theorem kI_yX6_about : Cond.instanceMethod yX6_about ∈ wall := wl_m 719 (by decide +kernel) rfl
theorem kV_yX6_about : Cond.selects RX6 yX6_about yX6_about ∈ wall := wl_m 720 (by decide +kernel) rfl
theorem kC_yX6_about : Cond.code yX6_about cX6_about 2 (Option.some Jvm.ClassFile.FieldType.int) ∈ wall := wl_m 721 (by decide +kernel) rfl
theorem kM_X6_88 : Cond.methodLink RX6 88 yX6_lookCount ∈ wall := wl_m 722 (by decide +kernel) rfl
theorem kM_L_132 : Cond.methodLink RL 132 yX10_sack ∈ wall := wl_m 723 (by decide +kernel) rfl
theorem kI_yX10_sack : Cond.instanceMethod yX10_sack ∈ wall := wl_m 724 (by decide +kernel) rfl
theorem kV_yX10_sack : Cond.selects RX10 yX10_sack yX10_sack ∈ wall := wl_m 725 (by decide +kernel) rfl
theorem kC_yX10_sack : Cond.code yX10_sack cX10_sack 4 (Option.some Jvm.ClassFile.FieldType.int) ∈ wall := wl_m 726 (by decide +kernel) rfl
theorem kM_X10_274 : Cond.methodLink RX10 274 yX1_about ∈ wall := wl_m 727 (by decide +kernel) rfl
theorem kI_yX1_about : Cond.instanceMethod yX1_about ∈ wall := wl_m 728 (by decide +kernel) rfl
theorem kV_yX1_about : Cond.selects RX1 yX1_about yX1_about ∈ wall := wl_m 729 (by decide +kernel) rfl
theorem kC_yX1_about : Cond.code yX1_about cX1_about 2 (Option.some Jvm.ClassFile.FieldType.int) ∈ wall := wl_m 730 (by decide +kernel) rfl
theorem kM_L_136 : Cond.methodLink RL 136 yX10_count ∈ wall := wl_m 731 (by decide +kernel) rfl
theorem kI_yX10_count : Cond.instanceMethod yX10_count ∈ wall := wl_m 732 (by decide +kernel) rfl
theorem kV_yX10_count : Cond.selects RX10 yX10_count yX10_count ∈ wall := wl_m 733 (by decide +kernel) rfl
theorem kC_yX10_count : Cond.code yX10_count cX10_count 2 (Option.some Jvm.ClassFile.FieldType.int) ∈ wall := wl_m 734 (by decide +kernel) rfl
theorem kM_X10_281 : Cond.methodLink RX10 281 yX0_countOut ∈ wall := wl_m 735 (by decide +kernel) rfl
theorem kI_yX0_countOut : Cond.instanceMethod yX0_countOut ∈ wall := wl_m 736 (by decide +kernel) rfl
theorem kV_yX0_countOut : Cond.selects RX0 yX0_countOut yX0_countOut ∈ wall := wl_m 737 (by decide +kernel) rfl
theorem kC_yX0_countOut : Cond.code yX0_countOut cX0_countOut 5 (Option.some Jvm.ClassFile.FieldType.int) ∈ wall := wl_m 738 (by decide +kernel) rfl
theorem kM_X0_34 : Cond.methodLink RX0 34 yX0_assessUpTo ∈ wall := wl_m 739 (by decide +kernel) rfl
theorem kL_L_10 : Cond.classLink RL 10 RX11 ∈ wall := wl_m 740 (by decide +kernel) rfl
theorem kT_X11 : Cond.instantiable RX11 49 ∈ wall := wl_m 741 (by decide +kernel) rfl
theorem kM_L_12 : Cond.methodLink RL 12 yX11_init ∈ wall := wl_m 742 (by decide +kernel) rfl
theorem kI_yX11_init : Cond.instanceMethod yX11_init ∈ wall := wl_m 743 (by decide +kernel) rfl
theorem kC_yX11_init : Cond.code yX11_init cX11_init 1 (Option.none : Option Jvm.ClassFile.FieldType) ∈ wall := wl_m 744 (by decide +kernel) rfl
theorem kM_X11_1 : Cond.methodLink RX11 1 objectInit ∈ wall := wl_m 745 (by decide +kernel) rfl
theorem kF_X11_141 : Cond.fieldLink RX11 141 "CleanSeedModel" "now" "I" ∈ wall := wl_m 746 (by decide +kernel) rfl
theorem kF_X11_130 : Cond.fieldLink RX11 130 "CleanSeedModel" "fields" "I" ∈ wall := wl_m 747 (by decide +kernel) rfl
theorem kF_X11_138 : Cond.fieldLink RX11 138 "CleanSeedModel" "lots" "I" ∈ wall := wl_m 748 (by decide +kernel) rfl
theorem kF_X11_190 : Cond.fieldLink RX11 190 "CleanSeedModel" "bags" "I" ∈ wall := wl_m 749 (by decide +kernel) rfl
theorem kF_X11_196 : Cond.fieldLink RX11 196 "CleanSeedModel" "seals" "I" ∈ wall := wl_m 750 (by decide +kernel) rfl
theorem kF_X11_163 : Cond.fieldLink RX11 163 "CleanSeedModel" "stood" "I" ∈ wall := wl_m 751 (by decide +kernel) rfl
theorem kF_X11_177 : Cond.fieldLink RX11 177 "CleanSeedModel" "statutes" "I" ∈ wall := wl_m 752 (by decide +kernel) rfl
theorem kF_X11_202 : Cond.fieldLink RX11 202 "CleanSeedModel" "looks" "I" ∈ wall := wl_m 753 (by decide +kernel) rfl
theorem kF_X11_235 : Cond.fieldLink RX11 235 "CleanSeedModel" "wants" "I" ∈ wall := wl_m 754 (by decide +kernel) rfl
theorem kF_X11_9 : Cond.fieldLink RX11 9 "CleanSeedModel" "lowX" "[I" ∈ wall := wl_m 755 (by decide +kernel) rfl
theorem kF_X11_13 : Cond.fieldLink RX11 13 "CleanSeedModel" "lowY" "[I" ∈ wall := wl_m 756 (by decide +kernel) rfl
theorem kF_X11_16 : Cond.fieldLink RX11 16 "CleanSeedModel" "highX" "[I" ∈ wall := wl_m 757 (by decide +kernel) rfl
theorem kF_X11_19 : Cond.fieldLink RX11 19 "CleanSeedModel" "highY" "[I" ∈ wall := wl_m 758 (by decide +kernel) rfl
theorem kF_X11_22 : Cond.fieldLink RX11 22 "CleanSeedModel" "stoodField" "[I" ∈ wall := wl_m 759 (by decide +kernel) rfl
theorem kF_X11_25 : Cond.fieldLink RX11 25 "CleanSeedModel" "stoodYear" "[I" ∈ wall := wl_m 760 (by decide +kernel) rfl
theorem kF_X11_28 : Cond.fieldLink RX11 28 "CleanSeedModel" "stoodCrop" "[I" ∈ wall := wl_m 761 (by decide +kernel) rfl
theorem kF_X11_31 : Cond.fieldLink RX11 31 "CleanSeedModel" "stoodTold" "[I" ∈ wall := wl_m 762 (by decide +kernel) rfl
theorem kF_X11_34 : Cond.fieldLink RX11 34 "CleanSeedModel" "statuteKind" "[I" ∈ wall := wl_m 763 (by decide +kernel) rfl
theorem kF_X11_37 : Cond.fieldLink RX11 37 "CleanSeedModel" "statuteFrom" "[I" ∈ wall := wl_m 764 (by decide +kernel) rfl
theorem kF_X11_40 : Cond.fieldLink RX11 40 "CleanSeedModel" "statuteValue" "[I" ∈ wall := wl_m 765 (by decide +kernel) rfl
theorem kF_X11_43 : Cond.fieldLink RX11 43 "CleanSeedModel" "statuteTold" "[I" ∈ wall := wl_m 766 (by decide +kernel) rfl
theorem kF_X11_46 : Cond.fieldLink RX11 46 "CleanSeedModel" "sort" "[I" ∈ wall := wl_m 767 (by decide +kernel) rfl
theorem kF_X11_49 : Cond.fieldLink RX11 49 "CleanSeedModel" "crop" "[I" ∈ wall := wl_m 768 (by decide +kernel) rfl
theorem kF_X11_52 : Cond.fieldLink RX11 52 "CleanSeedModel" "grams" "[I" ∈ wall := wl_m 769 (by decide +kernel) rfl
theorem kF_X11_55 : Cond.fieldLink RX11 55 "CleanSeedModel" "came" "[I" ∈ wall := wl_m 770 (by decide +kernel) rfl
theorem kF_X11_58 : Cond.fieldLink RX11 58 "CleanSeedModel" "grownIn" "[I" ∈ wall := wl_m 771 (by decide +kernel) rfl
theorem kF_X11_61 : Cond.fieldLink RX11 61 "CleanSeedModel" "mother" "[I" ∈ wall := wl_m 772 (by decide +kernel) rfl
theorem kF_X11_64 : Cond.fieldLink RX11 64 "CleanSeedModel" "mother2" "[I" ∈ wall := wl_m 773 (by decide +kernel) rfl
theorem kF_X11_67 : Cond.fieldLink RX11 67 "CleanSeedModel" "first" "[I" ∈ wall := wl_m 774 (by decide +kernel) rfl
theorem kF_X11_70 : Cond.fieldLink RX11 70 "CleanSeedModel" "sown" "[I" ∈ wall := wl_m 775 (by decide +kernel) rfl
theorem kF_X11_73 : Cond.fieldLink RX11 73 "CleanSeedModel" "mixed" "[I" ∈ wall := wl_m 776 (by decide +kernel) rfl
theorem kF_X11_76 : Cond.fieldLink RX11 76 "CleanSeedModel" "bagged" "[I" ∈ wall := wl_m 777 (by decide +kernel) rfl
theorem kF_X11_79 : Cond.fieldLink RX11 79 "CleanSeedModel" "tossed" "[I" ∈ wall := wl_m 778 (by decide +kernel) rfl
theorem kF_X11_82 : Cond.fieldLink RX11 82 "CleanSeedModel" "falseIn" "[I" ∈ wall := wl_m 779 (by decide +kernel) rfl
theorem kF_X11_85 : Cond.fieldLink RX11 85 "CleanSeedModel" "lookLot" "[I" ∈ wall := wl_m 780 (by decide +kernel) rfl
theorem kF_X11_88 : Cond.fieldLink RX11 88 "CleanSeedModel" "lookPlants" "[I" ∈ wall := wl_m 781 (by decide +kernel) rfl
theorem kF_X11_91 : Cond.fieldLink RX11 91 "CleanSeedModel" "lookIll" "[I" ∈ wall := wl_m 782 (by decide +kernel) rfl
theorem kF_X11_94 : Cond.fieldLink RX11 94 "CleanSeedModel" "lookTold" "[I" ∈ wall := wl_m 783 (by decide +kernel) rfl
theorem kF_X11_97 : Cond.fieldLink RX11 97 "CleanSeedModel" "bagLot" "[I" ∈ wall := wl_m 784 (by decide +kernel) rfl
theorem kF_X11_100 : Cond.fieldLink RX11 100 "CleanSeedModel" "bagGrams" "[I" ∈ wall := wl_m 785 (by decide +kernel) rfl
theorem kF_X11_103 : Cond.fieldLink RX11 103 "CleanSeedModel" "bagSeal" "[I" ∈ wall := wl_m 786 (by decide +kernel) rfl
theorem kF_X11_106 : Cond.fieldLink RX11 106 "CleanSeedModel" "bagBuyer" "[I" ∈ wall := wl_m 787 (by decide +kernel) rfl
theorem kF_X11_109 : Cond.fieldLink RX11 109 "CleanSeedModel" "wanted" "[I" ∈ wall := wl_m 788 (by decide +kernel) rfl
theorem kF_X11_112 : Cond.fieldLink RX11 112 "CleanSeedModel" "line" "[I" ∈ wall := wl_m 789 (by decide +kernel) rfl
theorem kF_X11_115 : Cond.fieldLink RX11 115 "CleanSeedModel" "rank" "[I" ∈ wall := wl_m 790 (by decide +kernel) rfl
theorem kF_X11_118 : Cond.fieldLink RX11 118 "CleanSeedModel" "reason" "[I" ∈ wall := wl_m 791 (by decide +kernel) rfl
theorem kF_X11_121 : Cond.fieldLink RX11 121 "CleanSeedModel" "rows" "[I" ∈ wall := wl_m 792 (by decide +kernel) rfl
theorem kF_X11_124 : Cond.fieldLink RX11 124 "CleanSeedModel" "goes" "[I" ∈ wall := wl_m 793 (by decide +kernel) rfl
theorem kF_X11_127 : Cond.fieldLink RX11 127 "CleanSeedModel" "best" "[I" ∈ wall := wl_m 794 (by decide +kernel) rfl
theorem kM_L_17 : Cond.methodLink RL 17 yX11_field ∈ wall := wl_m 894 (by decide +kernel) rfl
theorem kI_yX11_field : Cond.instanceMethod yX11_field ∈ wall := wl_m 895 (by decide +kernel) rfl
theorem kV_yX11_field : Cond.selects RX11 yX11_field yX11_field ∈ wall := wl_m 896 (by decide +kernel) rfl
theorem kC_yX11_field : Cond.code yX11_field cX11_field 5 (Option.some Jvm.ClassFile.FieldType.int) ∈ wall := wl_m 897 (by decide +kernel) rfl
theorem kM_X11_134 : Cond.methodLink RX11 134 yX11_in ∈ wall := wl_m 898 (by decide +kernel) rfl
theorem kS_yX11_in : Cond.static yX11_in ∈ wall := wl_m 899 (by decide +kernel) rfl
theorem kC_yX11_in : Cond.code yX11_in cX11_in 3 (Option.some Jvm.ClassFile.FieldType.boolean) ∈ wall := wl_m 900 (by decide +kernel) rfl
theorem kM_X11_144 : Cond.methodLink RX11 144 Lib.Math.min.name ∈ wall := wl_m 901 (by decide +kernel) rfl
theorem kM_X11_150 : Cond.methodLink RX11 150 Lib.Math.max.name ∈ wall := wl_m 902 (by decide +kernel) rfl
theorem kM_L_22 : Cond.methodLink RL 22 yX11_near ∈ wall := wl_m 903 (by decide +kernel) rfl
theorem kI_yX11_near : Cond.instanceMethod yX11_near ∈ wall := wl_m 904 (by decide +kernel) rfl
theorem kV_yX11_near : Cond.selects RX11 yX11_near yX11_near ∈ wall := wl_m 905 (by decide +kernel) rfl
theorem kC_yX11_near : Cond.code yX11_near cX11_near 3 (Option.some Jvm.ClassFile.FieldType.int) ∈ wall := wl_m 906 (by decide +kernel) rfl
theorem kM_X11_153 : Cond.methodLink RX11 153 yX11_isField ∈ wall := wl_m 907 (by decide +kernel) rfl
theorem kI_yX11_isField : Cond.instanceMethod yX11_isField ∈ wall := wl_m 909 (by decide +kernel) rfl
theorem kC_yX11_isField : Cond.code yX11_isField cX11_isField 2 (Option.some Jvm.ClassFile.FieldType.boolean) ∈ wall := wl_m 910 (by decide +kernel) rfl
theorem kM_X11_157 : Cond.methodLink RX11 157 yX11_nearness ∈ wall := wl_m 911 (by decide +kernel) rfl
theorem kI_yX11_nearness : Cond.instanceMethod yX11_nearness ∈ wall := wl_m 913 (by decide +kernel) rfl
theorem kC_yX11_nearness : Cond.code yX11_nearness cX11_nearness 5 (Option.some Jvm.ClassFile.FieldType.int) ∈ wall := wl_m 914 (by decide +kernel) rfl
theorem kM_L_27 : Cond.methodLink RL 27 yX11_stand ∈ wall := wl_m 915 (by decide +kernel) rfl
theorem kI_yX11_stand : Cond.instanceMethod yX11_stand ∈ wall := wl_m 916 (by decide +kernel) rfl
theorem kV_yX11_stand : Cond.selects RX11 yX11_stand yX11_stand ∈ wall := wl_m 917 (by decide +kernel) rfl
theorem kC_yX11_stand : Cond.code yX11_stand cX11_stand 4 (Option.some Jvm.ClassFile.FieldType.boolean) ∈ wall := wl_m 918 (by decide +kernel) rfl
theorem kM_X11_160 : Cond.methodLink RX11 160 yX11_isYear ∈ wall := wl_m 919 (by decide +kernel) rfl
theorem kI_yX11_isYear : Cond.instanceMethod yX11_isYear ∈ wall := wl_m 921 (by decide +kernel) rfl
theorem kC_yX11_isYear : Cond.code yX11_isYear cX11_isYear 2 (Option.some Jvm.ClassFile.FieldType.boolean) ∈ wall := wl_m 922 (by decide +kernel) rfl
theorem kM_L_32 : Cond.methodLink RL 32 yX11_stands ∈ wall := wl_m 923 (by decide +kernel) rfl
theorem kI_yX11_stands : Cond.instanceMethod yX11_stands ∈ wall := wl_m 924 (by decide +kernel) rfl
theorem kV_yX11_stands : Cond.selects RX11 yX11_stands yX11_stands ∈ wall := wl_m 925 (by decide +kernel) rfl
theorem kC_yX11_stands : Cond.code yX11_stands cX11_stands 4 (Option.some Jvm.ClassFile.FieldType.int) ∈ wall := wl_m 926 (by decide +kernel) rfl
theorem kM_X11_169 : Cond.methodLink RX11 169 yX11_standing ∈ wall := wl_m 927 (by decide +kernel) rfl
theorem kI_yX11_standing : Cond.instanceMethod yX11_standing ∈ wall := wl_m 929 (by decide +kernel) rfl
theorem kC_yX11_standing : Cond.code yX11_standing cX11_standing 7 (Option.some Jvm.ClassFile.FieldType.int) ∈ wall := wl_m 930 (by decide +kernel) rfl
theorem kM_X11_166 : Cond.methodLink RX11 166 yX11_lotIn ∈ wall := wl_m 931 (by decide +kernel) rfl
theorem kI_yX11_lotIn : Cond.instanceMethod yX11_lotIn ∈ wall := wl_m 933 (by decide +kernel) rfl
theorem kC_yX11_lotIn : Cond.code yX11_lotIn cX11_lotIn 4 (Option.some Jvm.ClassFile.FieldType.int) ∈ wall := wl_m 934 (by decide +kernel) rfl
theorem kM_L_36 : Cond.methodLink RL 36 yX11_statute ∈ wall := wl_m 935 (by decide +kernel) rfl
theorem kI_yX11_statute : Cond.instanceMethod yX11_statute ∈ wall := wl_m 936 (by decide +kernel) rfl
theorem kV_yX11_statute : Cond.selects RX11 yX11_statute yX11_statute ∈ wall := wl_m 937 (by decide +kernel) rfl
theorem kC_yX11_statute : Cond.code yX11_statute cX11_statute 4 (Option.some Jvm.ClassFile.FieldType.int) ∈ wall := wl_m 938 (by decide +kernel) rfl
theorem kM_X11_173 : Cond.methodLink RX11 173 yX11_isValue ∈ wall := wl_m 939 (by decide +kernel) rfl
theorem kS_yX11_isValue : Cond.static yX11_isValue ∈ wall := wl_m 940 (by decide +kernel) rfl
theorem kC_yX11_isValue : Cond.code yX11_isValue cX11_isValue 2 (Option.some Jvm.ClassFile.FieldType.boolean) ∈ wall := wl_m 941 (by decide +kernel) rfl
theorem kM_L_40 : Cond.methodLink RL 40 yX11_force ∈ wall := wl_m 942 (by decide +kernel) rfl
theorem kI_yX11_force : Cond.instanceMethod yX11_force ∈ wall := wl_m 943 (by decide +kernel) rfl
theorem kV_yX11_force : Cond.selects RX11 yX11_force yX11_force ∈ wall := wl_m 944 (by decide +kernel) rfl
theorem kC_yX11_force : Cond.code yX11_force cX11_force 4 (Option.some Jvm.ClassFile.FieldType.int) ∈ wall := wl_m 945 (by decide +kernel) rfl
theorem kM_X11_180 : Cond.methodLink RX11 180 yX11_inForce ∈ wall := wl_m 946 (by decide +kernel) rfl
theorem kI_yX11_inForce : Cond.instanceMethod yX11_inForce ∈ wall := wl_m 948 (by decide +kernel) rfl
theorem kC_yX11_inForce : Cond.code yX11_inForce cX11_inForce 7 (Option.some Jvm.ClassFile.FieldType.int) ∈ wall := wl_m 949 (by decide +kernel) rfl
theorem kM_L_45 : Cond.methodLink RL 45 yX11_tube ∈ wall := wl_m 950 (by decide +kernel) rfl
theorem kI_yX11_tube : Cond.instanceMethod yX11_tube ∈ wall := wl_m 951 (by decide +kernel) rfl
theorem kV_yX11_tube : Cond.selects RX11 yX11_tube yX11_tube ∈ wall := wl_m 952 (by decide +kernel) rfl
theorem kC_yX11_tube : Cond.code yX11_tube cX11_tube 3 (Option.some Jvm.ClassFile.FieldType.int) ∈ wall := wl_m 953 (by decide +kernel) rfl
theorem kM_X11_183 : Cond.methodLink RX11 183 yX11_lot ∈ wall := wl_m 954 (by decide +kernel) rfl
theorem kI_yX11_lot : Cond.instanceMethod yX11_lot ∈ wall := wl_m 956 (by decide +kernel) rfl
theorem kC_yX11_lot : Cond.code yX11_lot cX11_lot 4 (Option.some Jvm.ClassFile.FieldType.int) ∈ wall := wl_m 957 (by decide +kernel) rfl
theorem kM_L_49 : Cond.methodLink RL 49 yX11_sow ∈ wall := wl_m 958 (by decide +kernel) rfl
theorem kI_yX11_sow : Cond.instanceMethod yX11_sow ∈ wall := wl_m 959 (by decide +kernel) rfl
theorem kV_yX11_sow : Cond.selects RX11 yX11_sow yX11_sow ∈ wall := wl_m 960 (by decide +kernel) rfl
theorem kC_yX11_sow : Cond.code yX11_sow cX11_sow 6 (Option.some Jvm.ClassFile.FieldType.int) ∈ wall := wl_m 961 (by decide +kernel) rfl
theorem kM_X11_186 : Cond.methodLink RX11 186 yX11_isLot ∈ wall := wl_m 962 (by decide +kernel) rfl
theorem kI_yX11_isLot : Cond.instanceMethod yX11_isLot ∈ wall := wl_m 964 (by decide +kernel) rfl
theorem kC_yX11_isLot : Cond.code yX11_isLot cX11_isLot 2 (Option.some Jvm.ClassFile.FieldType.boolean) ∈ wall := wl_m 965 (by decide +kernel) rfl
theorem kM_L_54 : Cond.methodLink RL 54 yX11_harvest ∈ wall := wl_m 966 (by decide +kernel) rfl
theorem kI_yX11_harvest : Cond.instanceMethod yX11_harvest ∈ wall := wl_m 967 (by decide +kernel) rfl
theorem kV_yX11_harvest : Cond.selects RX11 yX11_harvest yX11_harvest ∈ wall := wl_m 968 (by decide +kernel) rfl
theorem kC_yX11_harvest : Cond.code yX11_harvest cX11_harvest 3 (Option.some Jvm.ClassFile.FieldType.boolean) ∈ wall := wl_m 969 (by decide +kernel) rfl
theorem kM_L_58 : Cond.methodLink RL 58 yX11_mix ∈ wall := wl_m 971 (by decide +kernel) rfl
theorem kI_yX11_mix : Cond.instanceMethod yX11_mix ∈ wall := wl_m 972 (by decide +kernel) rfl
theorem kV_yX11_mix : Cond.selects RX11 yX11_mix yX11_mix ∈ wall := wl_m 973 (by decide +kernel) rfl
theorem kC_yX11_mix : Cond.code yX11_mix cX11_mix 7 (Option.some Jvm.ClassFile.FieldType.int) ∈ wall := wl_m 974 (by decide +kernel) rfl
theorem kM_L_62 : Cond.methodLink RL 62 yX11_bag ∈ wall := wl_m 975 (by decide +kernel) rfl
theorem kI_yX11_bag : Cond.instanceMethod yX11_bag ∈ wall := wl_m 976 (by decide +kernel) rfl
theorem kV_yX11_bag : Cond.selects RX11 yX11_bag yX11_bag ∈ wall := wl_m 977 (by decide +kernel) rfl
theorem kC_yX11_bag : Cond.code yX11_bag cX11_bag 3 (Option.some Jvm.ClassFile.FieldType.int) ∈ wall := wl_m 978 (by decide +kernel) rfl
theorem kM_X11_193 : Cond.methodLink RX11 193 yX11_classOf ∈ wall := wl_m 979 (by decide +kernel) rfl
theorem kI_yX11_classOf : Cond.instanceMethod yX11_classOf ∈ wall := wl_m 981 (by decide +kernel) rfl
theorem kC_yX11_classOf : Cond.code yX11_classOf cX11_classOf 5 (Option.some Jvm.ClassFile.FieldType.int) ∈ wall := wl_m 982 (by decide +kernel) rfl
theorem kM_X11_212 : Cond.methodLink RX11 212 yX11_judgeOne ∈ wall := wl_m 983 (by decide +kernel) rfl
theorem kI_yX11_judgeOne : Cond.instanceMethod yX11_judgeOne ∈ wall := wl_m 985 (by decide +kernel) rfl
theorem kC_yX11_judgeOne : Cond.code yX11_judgeOne cX11_judgeOne 5 (Option.none : Option Jvm.ClassFile.FieldType) ∈ wall := wl_m 986 (by decide +kernel) rfl
theorem kM_X11_216 : Cond.methodLink RX11 216 yX11_wrongField ∈ wall := wl_m 987 (by decide +kernel) rfl
theorem kI_yX11_wrongField : Cond.instanceMethod yX11_wrongField ∈ wall := wl_m 989 (by decide +kernel) rfl
theorem kC_yX11_wrongField : Cond.code yX11_wrongField cX11_wrongField 11 (Option.some Jvm.ClassFile.FieldType.int) ∈ wall := wl_m 990 (by decide +kernel) rfl
theorem kM_X11_205 : Cond.methodLink RX11 205 yX11_looksOf ∈ wall := wl_m 991 (by decide +kernel) rfl
theorem kI_yX11_looksOf : Cond.instanceMethod yX11_looksOf ∈ wall := wl_m 993 (by decide +kernel) rfl
theorem kC_yX11_looksOf : Cond.code yX11_looksOf cX11_looksOf 5 (Option.some Jvm.ClassFile.FieldType.int) ∈ wall := wl_m 994 (by decide +kernel) rfl
theorem kM_L_67 : Cond.methodLink RL 67 yX11_open ∈ wall := wl_m 996 (by decide +kernel) rfl
theorem kI_yX11_open : Cond.instanceMethod yX11_open ∈ wall := wl_m 997 (by decide +kernel) rfl
theorem kV_yX11_open : Cond.selects RX11 yX11_open yX11_open ∈ wall := wl_m 998 (by decide +kernel) rfl
theorem kC_yX11_open : Cond.code yX11_open cX11_open 2 (Option.some Jvm.ClassFile.FieldType.boolean) ∈ wall := wl_m 999 (by decide +kernel) rfl
theorem kM_X11_199 : Cond.methodLink RX11 199 yX11_isBag ∈ wall := wl_m 1000 (by decide +kernel) rfl
theorem kI_yX11_isBag : Cond.instanceMethod yX11_isBag ∈ wall := wl_m 1002 (by decide +kernel) rfl
theorem kC_yX11_isBag : Cond.code yX11_isBag cX11_isBag 2 (Option.some Jvm.ClassFile.FieldType.boolean) ∈ wall := wl_m 1003 (by decide +kernel) rfl
theorem kM_L_71 : Cond.methodLink RL 71 yX11_seal ∈ wall := wl_m 1004 (by decide +kernel) rfl
theorem kI_yX11_seal : Cond.instanceMethod yX11_seal ∈ wall := wl_m 1005 (by decide +kernel) rfl
theorem kV_yX11_seal : Cond.selects RX11 yX11_seal yX11_seal ∈ wall := wl_m 1006 (by decide +kernel) rfl
theorem kC_yX11_seal : Cond.code yX11_seal cX11_seal 2 (Option.some Jvm.ClassFile.FieldType.int) ∈ wall := wl_m 1007 (by decide +kernel) rfl
theorem kM_L_75 : Cond.methodLink RL 75 yX11_sell ∈ wall := wl_m 1008 (by decide +kernel) rfl
theorem kI_yX11_sell : Cond.instanceMethod yX11_sell ∈ wall := wl_m 1009 (by decide +kernel) rfl
theorem kV_yX11_sell : Cond.selects RX11 yX11_sell yX11_sell ∈ wall := wl_m 1010 (by decide +kernel) rfl
theorem kC_yX11_sell : Cond.code yX11_sell cX11_sell 3 (Option.some Jvm.ClassFile.FieldType.boolean) ∈ wall := wl_m 1011 (by decide +kernel) rfl
theorem kM_L_79 : Cond.methodLink RL 79 yX11_toss ∈ wall := wl_m 1012 (by decide +kernel) rfl
theorem kI_yX11_toss : Cond.instanceMethod yX11_toss ∈ wall := wl_m 1013 (by decide +kernel) rfl
theorem kV_yX11_toss : Cond.selects RX11 yX11_toss yX11_toss ∈ wall := wl_m 1014 (by decide +kernel) rfl
theorem kC_yX11_toss : Cond.code yX11_toss cX11_toss 3 (Option.some Jvm.ClassFile.FieldType.boolean) ∈ wall := wl_m 1015 (by decide +kernel) rfl
theorem kM_L_83 : Cond.methodLink RL 83 yX11_look ∈ wall := wl_m 1016 (by decide +kernel) rfl
theorem kI_yX11_look : Cond.instanceMethod yX11_look ∈ wall := wl_m 1017 (by decide +kernel) rfl
theorem kV_yX11_look : Cond.selects RX11 yX11_look yX11_look ∈ wall := wl_m 1018 (by decide +kernel) rfl
theorem kC_yX11_look : Cond.code yX11_look cX11_look 4 (Option.some Jvm.ClassFile.FieldType.int) ∈ wall := wl_m 1019 (by decide +kernel) rfl
theorem kM_L_90 : Cond.methodLink RL 90 yX11_drawn ∈ wall := wl_m 1020 (by decide +kernel) rfl
theorem kI_yX11_drawn : Cond.instanceMethod yX11_drawn ∈ wall := wl_m 1021 (by decide +kernel) rfl
theorem kV_yX11_drawn : Cond.selects RX11 yX11_drawn yX11_drawn ∈ wall := wl_m 1022 (by decide +kernel) rfl
theorem kC_yX11_drawn : Cond.code yX11_drawn cX11_drawn 11 (Option.some Jvm.ClassFile.FieldType.int) ∈ wall := wl_m 1023 (by decide +kernel) rfl
theorem kM_L_94 : Cond.methodLink RL 94 yX11_prove ∈ wall := wl_m 1026 (by decide +kernel) rfl
theorem kI_yX11_prove : Cond.instanceMethod yX11_prove ∈ wall := wl_m 1027 (by decide +kernel) rfl
theorem kV_yX11_prove : Cond.selects RX11 yX11_prove yX11_prove ∈ wall := wl_m 1028 (by decide +kernel) rfl
theorem kC_yX11_prove : Cond.code yX11_prove cX11_prove 2 (Option.some Jvm.ClassFile.FieldType.boolean) ∈ wall := wl_m 1029 (by decide +kernel) rfl
theorem kM_L_99 : Cond.methodLink RL 99 yX11_year ∈ wall := wl_m 1030 (by decide +kernel) rfl
theorem kI_yX11_year : Cond.instanceMethod yX11_year ∈ wall := wl_m 1031 (by decide +kernel) rfl
theorem kV_yX11_year : Cond.selects RX11 yX11_year yX11_year ∈ wall := wl_m 1032 (by decide +kernel) rfl
theorem kC_yX11_year : Cond.code yX11_year cX11_year 1 (Option.some Jvm.ClassFile.FieldType.int) ∈ wall := wl_m 1033 (by decide +kernel) rfl
theorem kM_L_103 : Cond.methodLink RL 103 yX11_judge ∈ wall := wl_m 1034 (by decide +kernel) rfl
theorem kI_yX11_judge : Cond.instanceMethod yX11_judge ∈ wall := wl_m 1035 (by decide +kernel) rfl
theorem kV_yX11_judge : Cond.selects RX11 yX11_judge yX11_judge ∈ wall := wl_m 1036 (by decide +kernel) rfl
theorem kC_yX11_judge : Cond.code yX11_judge cX11_judge 3 (Option.some Jvm.ClassFile.FieldType.int) ∈ wall := wl_m 1037 (by decide +kernel) rfl
theorem kM_X11_221 : Cond.methodLink RX11 221 yX11_isJudged ∈ wall := wl_m 1038 (by decide +kernel) rfl
theorem kI_yX11_isJudged : Cond.instanceMethod yX11_isJudged ∈ wall := wl_m 1040 (by decide +kernel) rfl
theorem kC_yX11_isJudged : Cond.code yX11_isJudged cX11_isJudged 3 (Option.some Jvm.ClassFile.FieldType.boolean) ∈ wall := wl_m 1041 (by decide +kernel) rfl
theorem kM_L_107 : Cond.methodLink RL 107 yX11_why ∈ wall := wl_m 1042 (by decide +kernel) rfl
theorem kI_yX11_why : Cond.instanceMethod yX11_why ∈ wall := wl_m 1043 (by decide +kernel) rfl
theorem kV_yX11_why : Cond.selects RX11 yX11_why yX11_why ∈ wall := wl_m 1044 (by decide +kernel) rfl
theorem kC_yX11_why : Cond.code yX11_why cX11_why 3 (Option.some Jvm.ClassFile.FieldType.int) ∈ wall := wl_m 1045 (by decide +kernel) rfl
theorem kM_L_111 : Cond.methodLink RL 111 yX11_ways ∈ wall := wl_m 1046 (by decide +kernel) rfl
theorem kI_yX11_ways : Cond.instanceMethod yX11_ways ∈ wall := wl_m 1047 (by decide +kernel) rfl
theorem kV_yX11_ways : Cond.selects RX11 yX11_ways yX11_ways ∈ wall := wl_m 1048 (by decide +kernel) rfl
theorem kC_yX11_ways : Cond.code yX11_ways cX11_ways 3 (Option.some Jvm.ClassFile.FieldType.int) ∈ wall := wl_m 1049 (by decide +kernel) rfl
theorem kM_X11_225 : Cond.methodLink RX11 225 yX11_rowsTo ∈ wall := wl_m 1050 (by decide +kernel) rfl
theorem kI_yX11_rowsTo : Cond.instanceMethod yX11_rowsTo ∈ wall := wl_m 1052 (by decide +kernel) rfl
theorem kC_yX11_rowsTo : Cond.code yX11_rowsTo cX11_rowsTo 4 (Option.none : Option Jvm.ClassFile.FieldType) ∈ wall := wl_m 1053 (by decide +kernel) rfl
theorem kM_L_115 : Cond.methodLink RL 115 yX11_touched ∈ wall := wl_m 1055 (by decide +kernel) rfl
theorem kI_yX11_touched : Cond.instanceMethod yX11_touched ∈ wall := wl_m 1056 (by decide +kernel) rfl
theorem kV_yX11_touched : Cond.selects RX11 yX11_touched yX11_touched ∈ wall := wl_m 1057 (by decide +kernel) rfl
theorem kC_yX11_touched : Cond.code yX11_touched cX11_touched 6 (Option.some Jvm.ClassFile.FieldType.int) ∈ wall := wl_m 1058 (by decide +kernel) rfl
theorem kM_X11_232 : Cond.methodLink RX11 232 yX11_isIn ∈ wall := wl_m 1059 (by decide +kernel) rfl
theorem kI_yX11_isIn : Cond.instanceMethod yX11_isIn ∈ wall := wl_m 1061 (by decide +kernel) rfl
theorem kC_yX11_isIn : Cond.code yX11_isIn cX11_isIn 5 (Option.some Jvm.ClassFile.FieldType.boolean) ∈ wall := wl_m 1062 (by decide +kernel) rfl
theorem kM_X11_229 : Cond.methodLink RX11 229 yX11_isOf ∈ wall := wl_m 1063 (by decide +kernel) rfl
theorem kI_yX11_isOf : Cond.instanceMethod yX11_isOf ∈ wall := wl_m 1065 (by decide +kernel) rfl
theorem kC_yX11_isOf : Cond.code yX11_isOf cX11_isOf 3 (Option.some Jvm.ClassFile.FieldType.boolean) ∈ wall := wl_m 1066 (by decide +kernel) rfl
theorem kM_L_119 : Cond.methodLink RL 119 yX11_buyers ∈ wall := wl_m 1067 (by decide +kernel) rfl
theorem kI_yX11_buyers : Cond.instanceMethod yX11_buyers ∈ wall := wl_m 1068 (by decide +kernel) rfl
theorem kV_yX11_buyers : Cond.selects RX11 yX11_buyers yX11_buyers ∈ wall := wl_m 1069 (by decide +kernel) rfl
theorem kC_yX11_buyers : Cond.code yX11_buyers cX11_buyers 4 (Option.some Jvm.ClassFile.FieldType.int) ∈ wall := wl_m 1070 (by decide +kernel) rfl
theorem kM_L_123 : Cond.methodLink RL 123 yX11_want ∈ wall := wl_m 1071 (by decide +kernel) rfl
theorem kI_yX11_want : Cond.instanceMethod yX11_want ∈ wall := wl_m 1072 (by decide +kernel) rfl
theorem kV_yX11_want : Cond.selects RX11 yX11_want yX11_want ∈ wall := wl_m 1073 (by decide +kernel) rfl
theorem kC_yX11_want : Cond.code yX11_want cX11_want 3 (Option.some Jvm.ClassFile.FieldType.int) ∈ wall := wl_m 1074 (by decide +kernel) rfl
theorem kM_L_127 : Cond.methodLink RL 127 yX11_plan ∈ wall := wl_m 1075 (by decide +kernel) rfl
theorem kI_yX11_plan : Cond.instanceMethod yX11_plan ∈ wall := wl_m 1076 (by decide +kernel) rfl
theorem kV_yX11_plan : Cond.selects RX11 yX11_plan yX11_plan ∈ wall := wl_m 1077 (by decide +kernel) rfl
theorem kC_yX11_plan : Cond.code yX11_plan cX11_plan 2 (Option.some Jvm.ClassFile.FieldType.int) ∈ wall := wl_m 1078 (by decide +kernel) rfl
theorem kM_X11_244 : Cond.methodLink RX11 244 yX11_findPlan ∈ wall := wl_m 1079 (by decide +kernel) rfl
theorem kI_yX11_findPlan : Cond.instanceMethod yX11_findPlan ∈ wall := wl_m 1081 (by decide +kernel) rfl
theorem kC_yX11_findPlan : Cond.code yX11_findPlan cX11_findPlan 8 (Option.none : Option Jvm.ClassFile.FieldType) ∈ wall := wl_m 1082 (by decide +kernel) rfl
theorem kM_X11_241 : Cond.methodLink RX11 241 yX11_isGood ∈ wall := wl_m 1083 (by decide +kernel) rfl
theorem kI_yX11_isGood : Cond.instanceMethod yX11_isGood ∈ wall := wl_m 1085 (by decide +kernel) rfl
theorem kC_yX11_isGood : Cond.code yX11_isGood cX11_isGood 6 (Option.some Jvm.ClassFile.FieldType.boolean) ∈ wall := wl_m 1086 (by decide +kernel) rfl
theorem kM_X11_238 : Cond.methodLink RX11 238 yX11_isFree ∈ wall := wl_m 1087 (by decide +kernel) rfl
theorem kI_yX11_isFree : Cond.instanceMethod yX11_isFree ∈ wall := wl_m 1089 (by decide +kernel) rfl
theorem kC_yX11_isFree : Cond.code yX11_isFree cX11_isFree 5 (Option.some Jvm.ClassFile.FieldType.boolean) ∈ wall := wl_m 1090 (by decide +kernel) rfl
theorem kM_L_131 : Cond.methodLink RL 131 yX11_told ∈ wall := wl_m 1091 (by decide +kernel) rfl
theorem kI_yX11_told : Cond.instanceMethod yX11_told ∈ wall := wl_m 1092 (by decide +kernel) rfl
theorem kV_yX11_told : Cond.selects RX11 yX11_told yX11_told ∈ wall := wl_m 1093 (by decide +kernel) rfl
theorem kC_yX11_told : Cond.code yX11_told cX11_told 3 (Option.some Jvm.ClassFile.FieldType.int) ∈ wall := wl_m 1094 (by decide +kernel) rfl
theorem kM_L_135 : Cond.methodLink RL 135 yX11_sack ∈ wall := wl_m 1095 (by decide +kernel) rfl
theorem kI_yX11_sack : Cond.instanceMethod yX11_sack ∈ wall := wl_m 1096 (by decide +kernel) rfl
theorem kV_yX11_sack : Cond.selects RX11 yX11_sack yX11_sack ∈ wall := wl_m 1097 (by decide +kernel) rfl
theorem kC_yX11_sack : Cond.code yX11_sack cX11_sack 3 (Option.some Jvm.ClassFile.FieldType.int) ∈ wall := wl_m 1098 (by decide +kernel) rfl
theorem kM_L_139 : Cond.methodLink RL 139 yX11_count ∈ wall := wl_m 1099 (by decide +kernel) rfl
theorem kI_yX11_count : Cond.instanceMethod yX11_count ∈ wall := wl_m 1100 (by decide +kernel) rfl
theorem kV_yX11_count : Cond.selects RX11 yX11_count yX11_count ∈ wall := wl_m 1101 (by decide +kernel) rfl
theorem kC_yX11_count : Cond.code yX11_count cX11_count 2 (Option.some Jvm.ClassFile.FieldType.int) ∈ wall := wl_m 1102 (by decide +kernel) rfl
theorem kM_X11_247 : Cond.methodLink RX11 247 yX11_outs ∈ wall := wl_m 1103 (by decide +kernel) rfl
theorem kI_yX11_outs : Cond.instanceMethod yX11_outs ∈ wall := wl_m 1105 (by decide +kernel) rfl
theorem kC_yX11_outs : Cond.code yX11_outs cX11_outs 3 (Option.some Jvm.ClassFile.FieldType.int) ∈ wall := wl_m 1106 (by decide +kernel) rfl
theorem kV_yX10_isOutNow : Cond.selects RX10 yX10_isOutNow yX10_isOutNow ∈ wall := wl_s 0 (by decide +kernel) rfl
theorem kV_yX0_assess : Cond.selects RX0 yX0_assess yX0_assess ∈ wall := wl_s 1 (by decide +kernel) rfl
theorem kV_yX0_reasonToRefuse : Cond.selects RX0 yX0_reasonToRefuse yX0_reasonToRefuse ∈ wall := wl_s 2 (by decide +kernel) rfl
theorem kV_yX0_reasonInField : Cond.selects RX0 yX0_reasonInField yX0_reasonInField ∈ wall := wl_s 3 (by decide +kernel) rfl
theorem kV_yX0_isCrowded : Cond.selects RX0 yX0_isCrowded yX0_isCrowded ∈ wall := wl_s 4 (by decide +kernel) rfl
theorem kV_yX0_isAsGood : Cond.selects RX0 yX0_isAsGood yX0_isAsGood ∈ wall := wl_s 5 (by decide +kernel) rfl
theorem kV_yX10_lotKnownIn : Cond.selects RX10 yX10_lotKnownIn yX10_lotKnownIn ∈ wall := wl_s 6 (by decide +kernel) rfl
theorem kV_yX4_markAbove : Cond.selects RX4 yX4_markAbove yX4_markAbove ∈ wall := wl_s 7 (by decide +kernel) rfl
theorem kV_yX4_markAkin : Cond.selects RX4 yX4_markAkin yX4_markAkin ∈ wall := wl_s 8 (by decide +kernel) rfl
theorem kV_yX7_markMayTake : Cond.selects RX7 yX7_markMayTake yX7_markMayTake ∈ wall := wl_s 9 (by decide +kernel) rfl
theorem kV_yX7_markTooNear : Cond.selects RX7 yX7_markTooNear yX7_markTooNear ∈ wall := wl_s 10 (by decide +kernel) rfl
theorem kV_yX7_search : Cond.selects RX7 yX7_search yX7_search ∈ wall := wl_s 11 (by decide +kernel) rfl
theorem kV_yX7_fits : Cond.selects RX7 yX7_fits yX7_fits ∈ wall := wl_s 12 (by decide +kernel) rfl
theorem kV_yX11_isField : Cond.selects RX11 yX11_isField yX11_isField ∈ wall := wl_s 13 (by decide +kernel) rfl
theorem kV_yX11_nearness : Cond.selects RX11 yX11_nearness yX11_nearness ∈ wall := wl_s 14 (by decide +kernel) rfl
theorem kV_yX11_isYear : Cond.selects RX11 yX11_isYear yX11_isYear ∈ wall := wl_s 15 (by decide +kernel) rfl
theorem kV_yX11_standing : Cond.selects RX11 yX11_standing yX11_standing ∈ wall := wl_s 16 (by decide +kernel) rfl
theorem kV_yX11_lotIn : Cond.selects RX11 yX11_lotIn yX11_lotIn ∈ wall := wl_s 17 (by decide +kernel) rfl
theorem kV_yX11_inForce : Cond.selects RX11 yX11_inForce yX11_inForce ∈ wall := wl_s 18 (by decide +kernel) rfl
theorem kV_yX11_lot : Cond.selects RX11 yX11_lot yX11_lot ∈ wall := wl_s 19 (by decide +kernel) rfl
theorem kV_yX11_isLot : Cond.selects RX11 yX11_isLot yX11_isLot ∈ wall := wl_s 20 (by decide +kernel) rfl
theorem kV_yX11_classOf : Cond.selects RX11 yX11_classOf yX11_classOf ∈ wall := wl_s 21 (by decide +kernel) rfl
theorem kV_yX11_judgeOne : Cond.selects RX11 yX11_judgeOne yX11_judgeOne ∈ wall := wl_s 22 (by decide +kernel) rfl
theorem kV_yX11_wrongField : Cond.selects RX11 yX11_wrongField yX11_wrongField ∈ wall := wl_s 23 (by decide +kernel) rfl
theorem kV_yX11_looksOf : Cond.selects RX11 yX11_looksOf yX11_looksOf ∈ wall := wl_s 24 (by decide +kernel) rfl
theorem kV_yX11_isBag : Cond.selects RX11 yX11_isBag yX11_isBag ∈ wall := wl_s 25 (by decide +kernel) rfl
theorem kV_yX11_isJudged : Cond.selects RX11 yX11_isJudged yX11_isJudged ∈ wall := wl_s 26 (by decide +kernel) rfl
theorem kV_yX11_rowsTo : Cond.selects RX11 yX11_rowsTo yX11_rowsTo ∈ wall := wl_s 27 (by decide +kernel) rfl
theorem kV_yX11_isIn : Cond.selects RX11 yX11_isIn yX11_isIn ∈ wall := wl_s 28 (by decide +kernel) rfl
theorem kV_yX11_isOf : Cond.selects RX11 yX11_isOf yX11_isOf ∈ wall := wl_s 29 (by decide +kernel) rfl
theorem kV_yX11_findPlan : Cond.selects RX11 yX11_findPlan yX11_findPlan ∈ wall := wl_s 30 (by decide +kernel) rfl
theorem kV_yX11_isGood : Cond.selects RX11 yX11_isGood yX11_isGood ∈ wall := wl_s 31 (by decide +kernel) rfl
theorem kV_yX11_isFree : Cond.selects RX11 yX11_isFree yX11_isFree ∈ wall := wl_s 32 (by decide +kernel) rfl
theorem kV_yX11_outs : Cond.selects RX11 yX11_outs yX11_outs ∈ wall := wl_s 33 (by decide +kernel) rfl
end
section
theorem dX11_init_0 : decode cX11_init 0 = .ok (.aload_n 0, 1) := by decide +kernel
theorem dX11_init_1 : decode cX11_init 1 = .ok (.invokespecial 1, 3) := by decide +kernel
theorem dX11_init_4 : decode cX11_init 4 = .ok (.aload_n 0, 1) := by decide +kernel
theorem dX11_init_5 : decode cX11_init 5 = .ok (.bipush 40, 2) := by decide +kernel
theorem dX11_init_7 : decode cX11_init 7 = .ok (.newarray .int, 2) := by decide +kernel
theorem dX11_init_9 : decode cX11_init 9 = .ok (.putfield 9, 3) := by decide +kernel
theorem dX11_init_12 : decode cX11_init 12 = .ok (.aload_n 0, 1) := by decide +kernel
theorem dX11_init_13 : decode cX11_init 13 = .ok (.bipush 40, 2) := by decide +kernel
theorem dX11_init_15 : decode cX11_init 15 = .ok (.newarray .int, 2) := by decide +kernel
theorem dX11_init_17 : decode cX11_init 17 = .ok (.putfield 13, 3) := by decide +kernel
theorem dX11_init_20 : decode cX11_init 20 = .ok (.aload_n 0, 1) := by decide +kernel
theorem dX11_init_21 : decode cX11_init 21 = .ok (.bipush 40, 2) := by decide +kernel
theorem dX11_init_23 : decode cX11_init 23 = .ok (.newarray .int, 2) := by decide +kernel
theorem dX11_init_25 : decode cX11_init 25 = .ok (.putfield 16, 3) := by decide +kernel
theorem dX11_init_28 : decode cX11_init 28 = .ok (.aload_n 0, 1) := by decide +kernel
theorem dX11_init_29 : decode cX11_init 29 = .ok (.bipush 40, 2) := by decide +kernel
theorem dX11_init_31 : decode cX11_init 31 = .ok (.newarray .int, 2) := by decide +kernel
theorem dX11_init_33 : decode cX11_init 33 = .ok (.putfield 19, 3) := by decide +kernel
theorem dX11_init_36 : decode cX11_init 36 = .ok (.aload_n 0, 1) := by decide +kernel
theorem dX11_init_37 : decode cX11_init 37 = .ok (.sipush 300, 3) := by decide +kernel
theorem dX11_init_40 : decode cX11_init 40 = .ok (.newarray .int, 2) := by decide +kernel
theorem dX11_init_42 : decode cX11_init 42 = .ok (.putfield 22, 3) := by decide +kernel
theorem dX11_init_45 : decode cX11_init 45 = .ok (.aload_n 0, 1) := by decide +kernel
theorem dX11_init_46 : decode cX11_init 46 = .ok (.sipush 300, 3) := by decide +kernel
theorem dX11_init_49 : decode cX11_init 49 = .ok (.newarray .int, 2) := by decide +kernel
theorem dX11_init_51 : decode cX11_init 51 = .ok (.putfield 25, 3) := by decide +kernel
theorem dX11_init_54 : decode cX11_init 54 = .ok (.aload_n 0, 1) := by decide +kernel
theorem dX11_init_55 : decode cX11_init 55 = .ok (.sipush 300, 3) := by decide +kernel
theorem dX11_init_58 : decode cX11_init 58 = .ok (.newarray .int, 2) := by decide +kernel
theorem dX11_init_60 : decode cX11_init 60 = .ok (.putfield 28, 3) := by decide +kernel
theorem dX11_init_63 : decode cX11_init 63 = .ok (.aload_n 0, 1) := by decide +kernel
theorem dX11_init_64 : decode cX11_init 64 = .ok (.sipush 300, 3) := by decide +kernel
theorem dX11_init_67 : decode cX11_init 67 = .ok (.newarray .int, 2) := by decide +kernel
theorem dX11_init_69 : decode cX11_init 69 = .ok (.putfield 31, 3) := by decide +kernel
theorem dX11_init_72 : decode cX11_init 72 = .ok (.aload_n 0, 1) := by decide +kernel
theorem dX11_init_73 : decode cX11_init 73 = .ok (.bipush 100, 2) := by decide +kernel
theorem dX11_init_75 : decode cX11_init 75 = .ok (.newarray .int, 2) := by decide +kernel
theorem dX11_init_77 : decode cX11_init 77 = .ok (.putfield 34, 3) := by decide +kernel
theorem dX11_init_80 : decode cX11_init 80 = .ok (.aload_n 0, 1) := by decide +kernel
theorem dX11_init_81 : decode cX11_init 81 = .ok (.bipush 100, 2) := by decide +kernel
theorem dX11_init_83 : decode cX11_init 83 = .ok (.newarray .int, 2) := by decide +kernel
theorem dX11_init_85 : decode cX11_init 85 = .ok (.putfield 37, 3) := by decide +kernel
theorem dX11_init_88 : decode cX11_init 88 = .ok (.aload_n 0, 1) := by decide +kernel
theorem dX11_init_89 : decode cX11_init 89 = .ok (.bipush 100, 2) := by decide +kernel
theorem dX11_init_91 : decode cX11_init 91 = .ok (.newarray .int, 2) := by decide +kernel
theorem dX11_init_93 : decode cX11_init 93 = .ok (.putfield 40, 3) := by decide +kernel
theorem dX11_init_96 : decode cX11_init 96 = .ok (.aload_n 0, 1) := by decide +kernel
theorem dX11_init_97 : decode cX11_init 97 = .ok (.bipush 100, 2) := by decide +kernel
theorem dX11_init_99 : decode cX11_init 99 = .ok (.newarray .int, 2) := by decide +kernel
theorem dX11_init_101 : decode cX11_init 101 = .ok (.putfield 43, 3) := by decide +kernel
theorem dX11_init_104 : decode cX11_init 104 = .ok (.aload_n 0, 1) := by decide +kernel
theorem dX11_init_105 : decode cX11_init 105 = .ok (.sipush 200, 3) := by decide +kernel
theorem dX11_init_108 : decode cX11_init 108 = .ok (.newarray .int, 2) := by decide +kernel
theorem dX11_init_110 : decode cX11_init 110 = .ok (.putfield 46, 3) := by decide +kernel
theorem dX11_init_113 : decode cX11_init 113 = .ok (.aload_n 0, 1) := by decide +kernel
theorem dX11_init_114 : decode cX11_init 114 = .ok (.sipush 200, 3) := by decide +kernel
theorem dX11_init_117 : decode cX11_init 117 = .ok (.newarray .int, 2) := by decide +kernel
theorem dX11_init_119 : decode cX11_init 119 = .ok (.putfield 49, 3) := by decide +kernel
theorem dX11_init_122 : decode cX11_init 122 = .ok (.aload_n 0, 1) := by decide +kernel
theorem dX11_init_123 : decode cX11_init 123 = .ok (.sipush 200, 3) := by decide +kernel
theorem dX11_init_126 : decode cX11_init 126 = .ok (.newarray .int, 2) := by decide +kernel
theorem dX11_init_128 : decode cX11_init 128 = .ok (.putfield 52, 3) := by decide +kernel
theorem dX11_init_131 : decode cX11_init 131 = .ok (.aload_n 0, 1) := by decide +kernel
theorem dX11_init_132 : decode cX11_init 132 = .ok (.sipush 200, 3) := by decide +kernel
theorem dX11_init_135 : decode cX11_init 135 = .ok (.newarray .int, 2) := by decide +kernel
theorem dX11_init_137 : decode cX11_init 137 = .ok (.putfield 55, 3) := by decide +kernel
theorem dX11_init_140 : decode cX11_init 140 = .ok (.aload_n 0, 1) := by decide +kernel
theorem dX11_init_141 : decode cX11_init 141 = .ok (.sipush 200, 3) := by decide +kernel
theorem dX11_init_144 : decode cX11_init 144 = .ok (.newarray .int, 2) := by decide +kernel
theorem dX11_init_146 : decode cX11_init 146 = .ok (.putfield 58, 3) := by decide +kernel
theorem dX11_init_149 : decode cX11_init 149 = .ok (.aload_n 0, 1) := by decide +kernel
theorem dX11_init_150 : decode cX11_init 150 = .ok (.sipush 200, 3) := by decide +kernel
theorem dX11_init_153 : decode cX11_init 153 = .ok (.newarray .int, 2) := by decide +kernel
theorem dX11_init_155 : decode cX11_init 155 = .ok (.putfield 61, 3) := by decide +kernel
theorem dX11_init_158 : decode cX11_init 158 = .ok (.aload_n 0, 1) := by decide +kernel
theorem dX11_init_159 : decode cX11_init 159 = .ok (.sipush 200, 3) := by decide +kernel
theorem dX11_init_162 : decode cX11_init 162 = .ok (.newarray .int, 2) := by decide +kernel
theorem dX11_init_164 : decode cX11_init 164 = .ok (.putfield 64, 3) := by decide +kernel
theorem dX11_init_167 : decode cX11_init 167 = .ok (.aload_n 0, 1) := by decide +kernel
theorem dX11_init_168 : decode cX11_init 168 = .ok (.sipush 200, 3) := by decide +kernel
theorem dX11_init_171 : decode cX11_init 171 = .ok (.newarray .int, 2) := by decide +kernel
theorem dX11_init_173 : decode cX11_init 173 = .ok (.putfield 67, 3) := by decide +kernel
theorem dX11_init_176 : decode cX11_init 176 = .ok (.aload_n 0, 1) := by decide +kernel
theorem dX11_init_177 : decode cX11_init 177 = .ok (.sipush 200, 3) := by decide +kernel
theorem dX11_init_180 : decode cX11_init 180 = .ok (.newarray .int, 2) := by decide +kernel
theorem dX11_init_182 : decode cX11_init 182 = .ok (.putfield 70, 3) := by decide +kernel
theorem dX11_init_185 : decode cX11_init 185 = .ok (.aload_n 0, 1) := by decide +kernel
theorem dX11_init_186 : decode cX11_init 186 = .ok (.sipush 200, 3) := by decide +kernel
theorem dX11_init_189 : decode cX11_init 189 = .ok (.newarray .int, 2) := by decide +kernel
theorem dX11_init_191 : decode cX11_init 191 = .ok (.putfield 73, 3) := by decide +kernel
theorem dX11_init_194 : decode cX11_init 194 = .ok (.aload_n 0, 1) := by decide +kernel
theorem dX11_init_195 : decode cX11_init 195 = .ok (.sipush 200, 3) := by decide +kernel
theorem dX11_init_198 : decode cX11_init 198 = .ok (.newarray .int, 2) := by decide +kernel
theorem dX11_init_200 : decode cX11_init 200 = .ok (.putfield 76, 3) := by decide +kernel
theorem dX11_init_203 : decode cX11_init 203 = .ok (.aload_n 0, 1) := by decide +kernel
theorem dX11_init_204 : decode cX11_init 204 = .ok (.sipush 200, 3) := by decide +kernel
theorem dX11_init_207 : decode cX11_init 207 = .ok (.newarray .int, 2) := by decide +kernel
theorem dX11_init_209 : decode cX11_init 209 = .ok (.putfield 79, 3) := by decide +kernel
theorem dX11_init_212 : decode cX11_init 212 = .ok (.aload_n 0, 1) := by decide +kernel
theorem dX11_init_213 : decode cX11_init 213 = .ok (.sipush 200, 3) := by decide +kernel
theorem dX11_init_216 : decode cX11_init 216 = .ok (.newarray .int, 2) := by decide +kernel
theorem dX11_init_218 : decode cX11_init 218 = .ok (.putfield 82, 3) := by decide +kernel
theorem dX11_init_221 : decode cX11_init 221 = .ok (.aload_n 0, 1) := by decide +kernel
theorem dX11_init_222 : decode cX11_init 222 = .ok (.sipush 300, 3) := by decide +kernel
theorem dX11_init_225 : decode cX11_init 225 = .ok (.newarray .int, 2) := by decide +kernel
theorem dX11_init_227 : decode cX11_init 227 = .ok (.putfield 85, 3) := by decide +kernel
theorem dX11_init_230 : decode cX11_init 230 = .ok (.aload_n 0, 1) := by decide +kernel
theorem dX11_init_231 : decode cX11_init 231 = .ok (.sipush 300, 3) := by decide +kernel
theorem dX11_init_234 : decode cX11_init 234 = .ok (.newarray .int, 2) := by decide +kernel
theorem dX11_init_236 : decode cX11_init 236 = .ok (.putfield 88, 3) := by decide +kernel
theorem dX11_init_239 : decode cX11_init 239 = .ok (.aload_n 0, 1) := by decide +kernel
theorem dX11_init_240 : decode cX11_init 240 = .ok (.sipush 300, 3) := by decide +kernel
theorem dX11_init_243 : decode cX11_init 243 = .ok (.newarray .int, 2) := by decide +kernel
theorem dX11_init_245 : decode cX11_init 245 = .ok (.putfield 91, 3) := by decide +kernel
theorem dX11_init_248 : decode cX11_init 248 = .ok (.aload_n 0, 1) := by decide +kernel
theorem dX11_init_249 : decode cX11_init 249 = .ok (.sipush 300, 3) := by decide +kernel
theorem dX11_init_252 : decode cX11_init 252 = .ok (.newarray .int, 2) := by decide +kernel
theorem dX11_init_254 : decode cX11_init 254 = .ok (.putfield 94, 3) := by decide +kernel
theorem dX11_init_257 : decode cX11_init 257 = .ok (.aload_n 0, 1) := by decide +kernel
theorem dX11_init_258 : decode cX11_init 258 = .ok (.sipush 200, 3) := by decide +kernel
theorem dX11_init_261 : decode cX11_init 261 = .ok (.newarray .int, 2) := by decide +kernel
theorem dX11_init_263 : decode cX11_init 263 = .ok (.putfield 97, 3) := by decide +kernel
theorem dX11_init_266 : decode cX11_init 266 = .ok (.aload_n 0, 1) := by decide +kernel
theorem dX11_init_267 : decode cX11_init 267 = .ok (.sipush 200, 3) := by decide +kernel
theorem dX11_init_270 : decode cX11_init 270 = .ok (.newarray .int, 2) := by decide +kernel
theorem dX11_init_272 : decode cX11_init 272 = .ok (.putfield 100, 3) := by decide +kernel
theorem dX11_init_275 : decode cX11_init 275 = .ok (.aload_n 0, 1) := by decide +kernel
theorem dX11_init_276 : decode cX11_init 276 = .ok (.sipush 200, 3) := by decide +kernel
theorem dX11_init_279 : decode cX11_init 279 = .ok (.newarray .int, 2) := by decide +kernel
theorem dX11_init_281 : decode cX11_init 281 = .ok (.putfield 103, 3) := by decide +kernel
theorem dX11_init_284 : decode cX11_init 284 = .ok (.aload_n 0, 1) := by decide +kernel
theorem dX11_init_285 : decode cX11_init 285 = .ok (.sipush 200, 3) := by decide +kernel
theorem dX11_init_288 : decode cX11_init 288 = .ok (.newarray .int, 2) := by decide +kernel
theorem dX11_init_290 : decode cX11_init 290 = .ok (.putfield 106, 3) := by decide +kernel
theorem dX11_init_293 : decode cX11_init 293 = .ok (.aload_n 0, 1) := by decide +kernel
theorem dX11_init_294 : decode cX11_init 294 = .ok (.iconst 5, 1) := by decide +kernel
theorem dX11_init_295 : decode cX11_init 295 = .ok (.newarray .int, 2) := by decide +kernel
theorem dX11_init_297 : decode cX11_init 297 = .ok (.putfield 109, 3) := by decide +kernel
theorem dX11_init_300 : decode cX11_init 300 = .ok (.aload_n 0, 1) := by decide +kernel
theorem dX11_init_301 : decode cX11_init 301 = .ok (.sipush 500, 3) := by decide +kernel
theorem dX11_init_304 : decode cX11_init 304 = .ok (.newarray .int, 2) := by decide +kernel
theorem dX11_init_306 : decode cX11_init 306 = .ok (.putfield 112, 3) := by decide +kernel
theorem dX11_init_309 : decode cX11_init 309 = .ok (.aload_n 0, 1) := by decide +kernel
theorem dX11_init_310 : decode cX11_init 310 = .ok (.sipush 200, 3) := by decide +kernel
theorem dX11_init_313 : decode cX11_init 313 = .ok (.newarray .int, 2) := by decide +kernel
theorem dX11_init_315 : decode cX11_init 315 = .ok (.putfield 115, 3) := by decide +kernel
theorem dX11_init_318 : decode cX11_init 318 = .ok (.aload_n 0, 1) := by decide +kernel
theorem dX11_init_319 : decode cX11_init 319 = .ok (.sipush 200, 3) := by decide +kernel
theorem dX11_init_322 : decode cX11_init 322 = .ok (.newarray .int, 2) := by decide +kernel
theorem dX11_init_324 : decode cX11_init 324 = .ok (.putfield 118, 3) := by decide +kernel
theorem dX11_init_327 : decode cX11_init 327 = .ok (.aload_n 0, 1) := by decide +kernel
theorem dX11_init_328 : decode cX11_init 328 = .ok (.sipush 200, 3) := by decide +kernel
theorem dX11_init_331 : decode cX11_init 331 = .ok (.newarray .int, 2) := by decide +kernel
theorem dX11_init_333 : decode cX11_init 333 = .ok (.putfield 121, 3) := by decide +kernel
theorem dX11_init_336 : decode cX11_init 336 = .ok (.aload_n 0, 1) := by decide +kernel
theorem dX11_init_337 : decode cX11_init 337 = .ok (.iconst 5, 1) := by decide +kernel
theorem dX11_init_338 : decode cX11_init 338 = .ok (.newarray .int, 2) := by decide +kernel
theorem dX11_init_340 : decode cX11_init 340 = .ok (.putfield 124, 3) := by decide +kernel
theorem dX11_init_343 : decode cX11_init 343 = .ok (.aload_n 0, 1) := by decide +kernel
theorem dX11_init_344 : decode cX11_init 344 = .ok (.iconst 5, 1) := by decide +kernel
theorem dX11_init_345 : decode cX11_init 345 = .ok (.newarray .int, 2) := by decide +kernel
theorem dX11_init_347 : decode cX11_init 347 = .ok (.putfield 127, 3) := by decide +kernel
theorem dX11_init_350 : decode cX11_init 350 = .ok (.return_, 1) := by decide +kernel
theorem dX11_in_0 : decode cX11_in 0 = .ok (.iload_n 0, 1) := by decide +kernel
theorem dX11_in_1 : decode cX11_in 1 = .ok (.iload_n 1, 1) := by decide +kernel
theorem dX11_in_2 : decode cX11_in 2 = .ok (.if_icmp .lt 12, 3) := by decide +kernel
theorem dX11_in_5 : decode cX11_in 5 = .ok (.iload_n 0, 1) := by decide +kernel
theorem dX11_in_6 : decode cX11_in 6 = .ok (.iload_n 2, 1) := by decide +kernel
theorem dX11_in_7 : decode cX11_in 7 = .ok (.if_icmp .gt 7, 3) := by decide +kernel
theorem dX11_in_10 : decode cX11_in 10 = .ok (.iconst 1, 1) := by decide +kernel
theorem dX11_in_11 : decode cX11_in 11 = .ok (.goto 4, 3) := by decide +kernel
theorem dX11_in_14 : decode cX11_in 14 = .ok (.iconst 0, 1) := by decide +kernel
theorem dX11_in_15 : decode cX11_in 15 = .ok (.ireturn, 1) := by decide +kernel
theorem dX11_isField_0 : decode cX11_isField 0 = .ok (.iload_n 1, 1) := by decide +kernel
theorem dX11_isField_1 : decode cX11_isField 1 = .ok (.iconst 0, 1) := by decide +kernel
theorem dX11_isField_2 : decode cX11_isField 2 = .ok (.aload_n 0, 1) := by decide +kernel
theorem dX11_isField_3 : decode cX11_isField 3 = .ok (.getfield 130, 3) := by decide +kernel
theorem dX11_isField_6 : decode cX11_isField 6 = .ok (.iconst 1, 1) := by decide +kernel
theorem dX11_isField_7 : decode cX11_isField 7 = .ok (.isub, 1) := by decide +kernel
theorem dX11_isField_8 : decode cX11_isField 8 = .ok (.invokestatic 134, 3) := by decide +kernel
theorem dX11_isField_11 : decode cX11_isField 11 = .ok (.ireturn, 1) := by decide +kernel
theorem dX11_isLot_0 : decode cX11_isLot 0 = .ok (.iload_n 1, 1) := by decide +kernel
theorem dX11_isLot_1 : decode cX11_isLot 1 = .ok (.iconst 0, 1) := by decide +kernel
theorem dX11_isLot_2 : decode cX11_isLot 2 = .ok (.aload_n 0, 1) := by decide +kernel
theorem dX11_isLot_3 : decode cX11_isLot 3 = .ok (.getfield 138, 3) := by decide +kernel
theorem dX11_isLot_6 : decode cX11_isLot 6 = .ok (.iconst 1, 1) := by decide +kernel
theorem dX11_isLot_7 : decode cX11_isLot 7 = .ok (.isub, 1) := by decide +kernel
theorem dX11_isLot_8 : decode cX11_isLot 8 = .ok (.invokestatic 134, 3) := by decide +kernel
theorem dX11_isLot_11 : decode cX11_isLot 11 = .ok (.ireturn, 1) := by decide +kernel
theorem dX11_isYear_0 : decode cX11_isYear 0 = .ok (.iload_n 1, 1) := by decide +kernel
theorem dX11_isYear_1 : decode cX11_isYear 1 = .ok (.iconst 0, 1) := by decide +kernel
theorem dX11_isYear_2 : decode cX11_isYear 2 = .ok (.aload_n 0, 1) := by decide +kernel
theorem dX11_isYear_3 : decode cX11_isYear 3 = .ok (.getfield 141, 3) := by decide +kernel
theorem dX11_isYear_6 : decode cX11_isYear 6 = .ok (.invokestatic 134, 3) := by decide +kernel
theorem dX11_isYear_9 : decode cX11_isYear 9 = .ok (.ireturn, 1) := by decide +kernel
theorem dX11_field_0 : decode cX11_field 0 = .ok (.aload_n 0, 1) := by decide +kernel
theorem dX11_field_1 : decode cX11_field 1 = .ok (.getfield 130, 3) := by decide +kernel
theorem dX11_field_4 : decode cX11_field 4 = .ok (.bipush 40, 2) := by decide +kernel
theorem dX11_field_6 : decode cX11_field 6 = .ok (.if_icmp .eq 59, 3) := by decide +kernel
theorem dX11_field_9 : decode cX11_field 9 = .ok (.iload_n 1, 1) := by decide +kernel
theorem dX11_field_10 : decode cX11_field 10 = .ok (.iconst 0, 1) := by decide +kernel
theorem dX11_field_11 : decode cX11_field 11 = .ok (.sipush 1000, 3) := by decide +kernel
theorem dX11_field_14 : decode cX11_field 14 = .ok (.invokestatic 134, 3) := by decide +kernel
theorem dX11_field_17 : decode cX11_field 17 = .ok (.ifCond .eq 48, 3) := by decide +kernel
theorem dX11_field_20 : decode cX11_field 20 = .ok (.iload_n 2, 1) := by decide +kernel
theorem dX11_field_21 : decode cX11_field 21 = .ok (.iconst 0, 1) := by decide +kernel
theorem dX11_field_22 : decode cX11_field 22 = .ok (.sipush 1000, 3) := by decide +kernel
theorem dX11_field_25 : decode cX11_field 25 = .ok (.invokestatic 134, 3) := by decide +kernel
theorem dX11_field_28 : decode cX11_field 28 = .ok (.ifCond .eq 37, 3) := by decide +kernel
theorem dX11_field_31 : decode cX11_field 31 = .ok (.iload_n 3, 1) := by decide +kernel
theorem dX11_field_32 : decode cX11_field 32 = .ok (.iconst 0, 1) := by decide +kernel
theorem dX11_field_33 : decode cX11_field 33 = .ok (.sipush 1000, 3) := by decide +kernel
theorem dX11_field_36 : decode cX11_field 36 = .ok (.invokestatic 134, 3) := by decide +kernel
theorem dX11_field_39 : decode cX11_field 39 = .ok (.ifCond .eq 26, 3) := by decide +kernel
theorem dX11_field_42 : decode cX11_field 42 = .ok (.iload 4, 2) := by decide +kernel
theorem dX11_field_44 : decode cX11_field 44 = .ok (.iconst 0, 1) := by decide +kernel
theorem dX11_field_45 : decode cX11_field 45 = .ok (.sipush 1000, 3) := by decide +kernel
theorem dX11_field_48 : decode cX11_field 48 = .ok (.invokestatic 134, 3) := by decide +kernel
theorem dX11_field_51 : decode cX11_field 51 = .ok (.ifCond .eq 14, 3) := by decide +kernel
theorem dX11_field_54 : decode cX11_field 54 = .ok (.iload_n 1, 1) := by decide +kernel
theorem dX11_field_55 : decode cX11_field 55 = .ok (.iload_n 3, 1) := by decide +kernel
theorem dX11_field_56 : decode cX11_field 56 = .ok (.if_icmp .eq 9, 3) := by decide +kernel
theorem dX11_field_59 : decode cX11_field 59 = .ok (.iload_n 2, 1) := by decide +kernel
theorem dX11_field_60 : decode cX11_field 60 = .ok (.iload 4, 2) := by decide +kernel
theorem dX11_field_62 : decode cX11_field 62 = .ok (.if_icmp .ne 5, 3) := by decide +kernel
theorem dX11_field_65 : decode cX11_field 65 = .ok (.iconst (-1), 1) := by decide +kernel
theorem dX11_field_66 : decode cX11_field 66 = .ok (.ireturn, 1) := by decide +kernel
theorem dX11_field_67 : decode cX11_field 67 = .ok (.aload_n 0, 1) := by decide +kernel
theorem dX11_field_68 : decode cX11_field 68 = .ok (.getfield 9, 3) := by decide +kernel
theorem dX11_field_71 : decode cX11_field 71 = .ok (.aload_n 0, 1) := by decide +kernel
theorem dX11_field_72 : decode cX11_field 72 = .ok (.getfield 130, 3) := by decide +kernel
theorem dX11_field_75 : decode cX11_field 75 = .ok (.iload_n 1, 1) := by decide +kernel
theorem dX11_field_76 : decode cX11_field 76 = .ok (.iload_n 3, 1) := by decide +kernel
theorem dX11_field_77 : decode cX11_field 77 = .ok (.invokestatic 144, 3) := by decide +kernel
theorem dX11_field_80 : decode cX11_field 80 = .ok (.iastore, 1) := by decide +kernel
theorem dX11_field_81 : decode cX11_field 81 = .ok (.aload_n 0, 1) := by decide +kernel
theorem dX11_field_82 : decode cX11_field 82 = .ok (.getfield 16, 3) := by decide +kernel
theorem dX11_field_85 : decode cX11_field 85 = .ok (.aload_n 0, 1) := by decide +kernel
theorem dX11_field_86 : decode cX11_field 86 = .ok (.getfield 130, 3) := by decide +kernel
theorem dX11_field_89 : decode cX11_field 89 = .ok (.iload_n 1, 1) := by decide +kernel
theorem dX11_field_90 : decode cX11_field 90 = .ok (.iload_n 3, 1) := by decide +kernel
theorem dX11_field_91 : decode cX11_field 91 = .ok (.invokestatic 150, 3) := by decide +kernel
theorem dX11_field_94 : decode cX11_field 94 = .ok (.iastore, 1) := by decide +kernel
theorem dX11_field_95 : decode cX11_field 95 = .ok (.aload_n 0, 1) := by decide +kernel
theorem dX11_field_96 : decode cX11_field 96 = .ok (.getfield 13, 3) := by decide +kernel
theorem dX11_field_99 : decode cX11_field 99 = .ok (.aload_n 0, 1) := by decide +kernel
theorem dX11_field_100 : decode cX11_field 100 = .ok (.getfield 130, 3) := by decide +kernel
theorem dX11_field_103 : decode cX11_field 103 = .ok (.iload_n 2, 1) := by decide +kernel
theorem dX11_field_104 : decode cX11_field 104 = .ok (.iload 4, 2) := by decide +kernel
theorem dX11_field_106 : decode cX11_field 106 = .ok (.invokestatic 144, 3) := by decide +kernel
theorem dX11_field_109 : decode cX11_field 109 = .ok (.iastore, 1) := by decide +kernel
theorem dX11_field_110 : decode cX11_field 110 = .ok (.aload_n 0, 1) := by decide +kernel
theorem dX11_field_111 : decode cX11_field 111 = .ok (.getfield 19, 3) := by decide +kernel
theorem dX11_field_114 : decode cX11_field 114 = .ok (.aload_n 0, 1) := by decide +kernel
theorem dX11_field_115 : decode cX11_field 115 = .ok (.getfield 130, 3) := by decide +kernel
theorem dX11_field_118 : decode cX11_field 118 = .ok (.iload_n 2, 1) := by decide +kernel
theorem dX11_field_119 : decode cX11_field 119 = .ok (.iload 4, 2) := by decide +kernel
theorem dX11_field_121 : decode cX11_field 121 = .ok (.invokestatic 150, 3) := by decide +kernel
theorem dX11_field_124 : decode cX11_field 124 = .ok (.iastore, 1) := by decide +kernel
theorem dX11_field_125 : decode cX11_field 125 = .ok (.aload_n 0, 1) := by decide +kernel
theorem dX11_field_126 : decode cX11_field 126 = .ok (.dup, 1) := by decide +kernel
theorem dX11_field_127 : decode cX11_field 127 = .ok (.getfield 130, 3) := by decide +kernel
theorem dX11_field_130 : decode cX11_field 130 = .ok (.iconst 1, 1) := by decide +kernel
theorem dX11_field_131 : decode cX11_field 131 = .ok (.iadd, 1) := by decide +kernel
theorem dX11_field_132 : decode cX11_field 132 = .ok (.putfield 130, 3) := by decide +kernel
theorem dX11_field_135 : decode cX11_field 135 = .ok (.aload_n 0, 1) := by decide +kernel
theorem dX11_field_136 : decode cX11_field 136 = .ok (.getfield 130, 3) := by decide +kernel
theorem dX11_field_139 : decode cX11_field 139 = .ok (.iconst 1, 1) := by decide +kernel
theorem dX11_field_140 : decode cX11_field 140 = .ok (.isub, 1) := by decide +kernel
theorem dX11_field_141 : decode cX11_field 141 = .ok (.ireturn, 1) := by decide +kernel
theorem dX11_nearness_0 : decode cX11_nearness 0 = .ok (.iconst 0, 1) := by decide +kernel
theorem dX11_nearness_1 : decode cX11_nearness 1 = .ok (.aload_n 0, 1) := by decide +kernel
theorem dX11_nearness_2 : decode cX11_nearness 2 = .ok (.getfield 9, 3) := by decide +kernel
theorem dX11_nearness_5 : decode cX11_nearness 5 = .ok (.iload_n 1, 1) := by decide +kernel
theorem dX11_nearness_6 : decode cX11_nearness 6 = .ok (.iaload, 1) := by decide +kernel
theorem dX11_nearness_7 : decode cX11_nearness 7 = .ok (.aload_n 0, 1) := by decide +kernel
theorem dX11_nearness_8 : decode cX11_nearness 8 = .ok (.getfield 16, 3) := by decide +kernel
theorem dX11_nearness_11 : decode cX11_nearness 11 = .ok (.iload_n 2, 1) := by decide +kernel
theorem dX11_nearness_12 : decode cX11_nearness 12 = .ok (.iaload, 1) := by decide +kernel
theorem dX11_nearness_13 : decode cX11_nearness 13 = .ok (.isub, 1) := by decide +kernel
theorem dX11_nearness_14 : decode cX11_nearness 14 = .ok (.aload_n 0, 1) := by decide +kernel
theorem dX11_nearness_15 : decode cX11_nearness 15 = .ok (.getfield 9, 3) := by decide +kernel
theorem dX11_nearness_18 : decode cX11_nearness 18 = .ok (.iload_n 2, 1) := by decide +kernel
theorem dX11_nearness_19 : decode cX11_nearness 19 = .ok (.iaload, 1) := by decide +kernel
theorem dX11_nearness_20 : decode cX11_nearness 20 = .ok (.aload_n 0, 1) := by decide +kernel
theorem dX11_nearness_21 : decode cX11_nearness 21 = .ok (.getfield 16, 3) := by decide +kernel
theorem dX11_nearness_24 : decode cX11_nearness 24 = .ok (.iload_n 1, 1) := by decide +kernel
theorem dX11_nearness_25 : decode cX11_nearness 25 = .ok (.iaload, 1) := by decide +kernel
theorem dX11_nearness_26 : decode cX11_nearness 26 = .ok (.isub, 1) := by decide +kernel
theorem dX11_nearness_27 : decode cX11_nearness 27 = .ok (.invokestatic 150, 3) := by decide +kernel
theorem dX11_nearness_30 : decode cX11_nearness 30 = .ok (.invokestatic 150, 3) := by decide +kernel
theorem dX11_nearness_33 : decode cX11_nearness 33 = .ok (.istore_n 3, 1) := by decide +kernel
theorem dX11_nearness_34 : decode cX11_nearness 34 = .ok (.iconst 0, 1) := by decide +kernel
theorem dX11_nearness_35 : decode cX11_nearness 35 = .ok (.aload_n 0, 1) := by decide +kernel
theorem dX11_nearness_36 : decode cX11_nearness 36 = .ok (.getfield 13, 3) := by decide +kernel
theorem dX11_nearness_39 : decode cX11_nearness 39 = .ok (.iload_n 1, 1) := by decide +kernel
theorem dX11_nearness_40 : decode cX11_nearness 40 = .ok (.iaload, 1) := by decide +kernel
theorem dX11_nearness_41 : decode cX11_nearness 41 = .ok (.aload_n 0, 1) := by decide +kernel
theorem dX11_nearness_42 : decode cX11_nearness 42 = .ok (.getfield 19, 3) := by decide +kernel
theorem dX11_nearness_45 : decode cX11_nearness 45 = .ok (.iload_n 2, 1) := by decide +kernel
theorem dX11_nearness_46 : decode cX11_nearness 46 = .ok (.iaload, 1) := by decide +kernel
theorem dX11_nearness_47 : decode cX11_nearness 47 = .ok (.isub, 1) := by decide +kernel
theorem dX11_nearness_48 : decode cX11_nearness 48 = .ok (.aload_n 0, 1) := by decide +kernel
theorem dX11_nearness_49 : decode cX11_nearness 49 = .ok (.getfield 13, 3) := by decide +kernel
theorem dX11_nearness_52 : decode cX11_nearness 52 = .ok (.iload_n 2, 1) := by decide +kernel
theorem dX11_nearness_53 : decode cX11_nearness 53 = .ok (.iaload, 1) := by decide +kernel
theorem dX11_nearness_54 : decode cX11_nearness 54 = .ok (.aload_n 0, 1) := by decide +kernel
theorem dX11_nearness_55 : decode cX11_nearness 55 = .ok (.getfield 19, 3) := by decide +kernel
theorem dX11_nearness_58 : decode cX11_nearness 58 = .ok (.iload_n 1, 1) := by decide +kernel
theorem dX11_nearness_59 : decode cX11_nearness 59 = .ok (.iaload, 1) := by decide +kernel
theorem dX11_nearness_60 : decode cX11_nearness 60 = .ok (.isub, 1) := by decide +kernel
theorem dX11_nearness_61 : decode cX11_nearness 61 = .ok (.invokestatic 150, 3) := by decide +kernel
theorem dX11_nearness_64 : decode cX11_nearness 64 = .ok (.invokestatic 150, 3) := by decide +kernel
theorem dX11_nearness_67 : decode cX11_nearness 67 = .ok (.istore 4, 2) := by decide +kernel
theorem dX11_nearness_69 : decode cX11_nearness 69 = .ok (.iload_n 3, 1) := by decide +kernel
theorem dX11_nearness_70 : decode cX11_nearness 70 = .ok (.iload_n 3, 1) := by decide +kernel
theorem dX11_nearness_71 : decode cX11_nearness 71 = .ok (.imul, 1) := by decide +kernel
theorem dX11_nearness_72 : decode cX11_nearness 72 = .ok (.iload 4, 2) := by decide +kernel
theorem dX11_nearness_74 : decode cX11_nearness 74 = .ok (.iload 4, 2) := by decide +kernel
theorem dX11_nearness_76 : decode cX11_nearness 76 = .ok (.imul, 1) := by decide +kernel
theorem dX11_nearness_77 : decode cX11_nearness 77 = .ok (.iadd, 1) := by decide +kernel
theorem dX11_nearness_78 : decode cX11_nearness 78 = .ok (.ireturn, 1) := by decide +kernel
theorem dX11_near_0 : decode cX11_near 0 = .ok (.aload_n 0, 1) := by decide +kernel
theorem dX11_near_1 : decode cX11_near 1 = .ok (.iload_n 1, 1) := by decide +kernel
theorem dX11_near_2 : decode cX11_near 2 = .ok (.invokevirtual 153, 3) := by decide +kernel
theorem dX11_near_5 : decode cX11_near 5 = .ok (.ifCond .eq 20, 3) := by decide +kernel
theorem dX11_near_8 : decode cX11_near 8 = .ok (.aload_n 0, 1) := by decide +kernel
theorem dX11_near_9 : decode cX11_near 9 = .ok (.iload_n 2, 1) := by decide +kernel
theorem dX11_near_10 : decode cX11_near 10 = .ok (.invokevirtual 153, 3) := by decide +kernel
theorem dX11_near_13 : decode cX11_near 13 = .ok (.ifCond .eq 12, 3) := by decide +kernel
theorem dX11_near_16 : decode cX11_near 16 = .ok (.aload_n 0, 1) := by decide +kernel
theorem dX11_near_17 : decode cX11_near 17 = .ok (.iload_n 1, 1) := by decide +kernel
theorem dX11_near_18 : decode cX11_near 18 = .ok (.iload_n 2, 1) := by decide +kernel
theorem dX11_near_19 : decode cX11_near 19 = .ok (.invokevirtual 157, 3) := by decide +kernel
theorem dX11_near_22 : decode cX11_near 22 = .ok (.goto 4, 3) := by decide +kernel
theorem dX11_near_25 : decode cX11_near 25 = .ok (.iconst (-1), 1) := by decide +kernel
theorem dX11_near_26 : decode cX11_near 26 = .ok (.ireturn, 1) := by decide +kernel
theorem dX11_stand_0 : decode cX11_stand 0 = .ok (.aload_n 0, 1) := by decide +kernel
theorem dX11_stand_1 : decode cX11_stand 1 = .ok (.iload_n 1, 1) := by decide +kernel
theorem dX11_stand_2 : decode cX11_stand 2 = .ok (.invokevirtual 153, 3) := by decide +kernel
theorem dX11_stand_5 : decode cX11_stand 5 = .ok (.ifCond .eq 30, 3) := by decide +kernel
theorem dX11_stand_8 : decode cX11_stand 8 = .ok (.aload_n 0, 1) := by decide +kernel
theorem dX11_stand_9 : decode cX11_stand 9 = .ok (.iload_n 2, 1) := by decide +kernel
theorem dX11_stand_10 : decode cX11_stand 10 = .ok (.invokevirtual 160, 3) := by decide +kernel
theorem dX11_stand_13 : decode cX11_stand 13 = .ok (.ifCond .eq 22, 3) := by decide +kernel
theorem dX11_stand_16 : decode cX11_stand 16 = .ok (.iload_n 3, 1) := by decide +kernel
theorem dX11_stand_17 : decode cX11_stand 17 = .ok (.iconst 0, 1) := by decide +kernel
theorem dX11_stand_18 : decode cX11_stand 18 = .ok (.iconst 4, 1) := by decide +kernel
theorem dX11_stand_19 : decode cX11_stand 19 = .ok (.invokestatic 134, 3) := by decide +kernel
theorem dX11_stand_22 : decode cX11_stand 22 = .ok (.ifCond .eq 13, 3) := by decide +kernel
theorem dX11_stand_25 : decode cX11_stand 25 = .ok (.aload_n 0, 1) := by decide +kernel
theorem dX11_stand_26 : decode cX11_stand 26 = .ok (.getfield 163, 3) := by decide +kernel
theorem dX11_stand_29 : decode cX11_stand 29 = .ok (.sipush 300, 3) := by decide +kernel
theorem dX11_stand_32 : decode cX11_stand 32 = .ok (.if_icmp .ne 5, 3) := by decide +kernel
theorem dX11_stand_35 : decode cX11_stand 35 = .ok (.iconst 0, 1) := by decide +kernel
theorem dX11_stand_36 : decode cX11_stand 36 = .ok (.ireturn, 1) := by decide +kernel
theorem dX11_stand_37 : decode cX11_stand 37 = .ok (.aload_n 0, 1) := by decide +kernel
theorem dX11_stand_38 : decode cX11_stand 38 = .ok (.getfield 22, 3) := by decide +kernel
theorem dX11_stand_41 : decode cX11_stand 41 = .ok (.aload_n 0, 1) := by decide +kernel
theorem dX11_stand_42 : decode cX11_stand 42 = .ok (.getfield 163, 3) := by decide +kernel
theorem dX11_stand_45 : decode cX11_stand 45 = .ok (.iload_n 1, 1) := by decide +kernel
theorem dX11_stand_46 : decode cX11_stand 46 = .ok (.iastore, 1) := by decide +kernel
theorem dX11_stand_47 : decode cX11_stand 47 = .ok (.aload_n 0, 1) := by decide +kernel
theorem dX11_stand_48 : decode cX11_stand 48 = .ok (.getfield 25, 3) := by decide +kernel
theorem dX11_stand_51 : decode cX11_stand 51 = .ok (.aload_n 0, 1) := by decide +kernel
theorem dX11_stand_52 : decode cX11_stand 52 = .ok (.getfield 163, 3) := by decide +kernel
theorem dX11_stand_55 : decode cX11_stand 55 = .ok (.iload_n 2, 1) := by decide +kernel
theorem dX11_stand_56 : decode cX11_stand 56 = .ok (.iastore, 1) := by decide +kernel
theorem dX11_stand_57 : decode cX11_stand 57 = .ok (.aload_n 0, 1) := by decide +kernel
theorem dX11_stand_58 : decode cX11_stand 58 = .ok (.getfield 28, 3) := by decide +kernel
theorem dX11_stand_61 : decode cX11_stand 61 = .ok (.aload_n 0, 1) := by decide +kernel
theorem dX11_stand_62 : decode cX11_stand 62 = .ok (.getfield 163, 3) := by decide +kernel
theorem dX11_stand_65 : decode cX11_stand 65 = .ok (.iload_n 3, 1) := by decide +kernel
theorem dX11_stand_66 : decode cX11_stand 66 = .ok (.iastore, 1) := by decide +kernel
theorem dX11_stand_67 : decode cX11_stand 67 = .ok (.aload_n 0, 1) := by decide +kernel
theorem dX11_stand_68 : decode cX11_stand 68 = .ok (.getfield 31, 3) := by decide +kernel
theorem dX11_stand_71 : decode cX11_stand 71 = .ok (.aload_n 0, 1) := by decide +kernel
theorem dX11_stand_72 : decode cX11_stand 72 = .ok (.getfield 163, 3) := by decide +kernel
theorem dX11_stand_75 : decode cX11_stand 75 = .ok (.aload_n 0, 1) := by decide +kernel
theorem dX11_stand_76 : decode cX11_stand 76 = .ok (.getfield 141, 3) := by decide +kernel
theorem dX11_stand_79 : decode cX11_stand 79 = .ok (.iastore, 1) := by decide +kernel
theorem dX11_stand_80 : decode cX11_stand 80 = .ok (.aload_n 0, 1) := by decide +kernel
theorem dX11_stand_81 : decode cX11_stand 81 = .ok (.dup, 1) := by decide +kernel
theorem dX11_stand_82 : decode cX11_stand 82 = .ok (.getfield 163, 3) := by decide +kernel
theorem dX11_stand_85 : decode cX11_stand 85 = .ok (.iconst 1, 1) := by decide +kernel
theorem dX11_stand_86 : decode cX11_stand 86 = .ok (.iadd, 1) := by decide +kernel
theorem dX11_stand_87 : decode cX11_stand 87 = .ok (.putfield 163, 3) := by decide +kernel
theorem dX11_stand_90 : decode cX11_stand 90 = .ok (.iconst 1, 1) := by decide +kernel
theorem dX11_stand_91 : decode cX11_stand 91 = .ok (.ireturn, 1) := by decide +kernel
theorem dX11_lotIn_0 : decode cX11_lotIn 0 = .ok (.iconst 0, 1) := by decide +kernel
theorem dX11_lotIn_1 : decode cX11_lotIn 1 = .ok (.istore_n 3, 1) := by decide +kernel
theorem dX11_lotIn_2 : decode cX11_lotIn 2 = .ok (.iload_n 3, 1) := by decide +kernel
theorem dX11_lotIn_3 : decode cX11_lotIn 3 = .ok (.aload_n 0, 1) := by decide +kernel
theorem dX11_lotIn_4 : decode cX11_lotIn 4 = .ok (.getfield 138, 3) := by decide +kernel
theorem dX11_lotIn_7 : decode cX11_lotIn 7 = .ok (.if_icmp .ge 41, 3) := by decide +kernel
theorem dX11_lotIn_10 : decode cX11_lotIn 10 = .ok (.aload_n 0, 1) := by decide +kernel
theorem dX11_lotIn_11 : decode cX11_lotIn 11 = .ok (.getfield 46, 3) := by decide +kernel
theorem dX11_lotIn_14 : decode cX11_lotIn 14 = .ok (.iload_n 3, 1) := by decide +kernel
theorem dX11_lotIn_15 : decode cX11_lotIn 15 = .ok (.iaload, 1) := by decide +kernel
theorem dX11_lotIn_16 : decode cX11_lotIn 16 = .ok (.iconst 1, 1) := by decide +kernel
theorem dX11_lotIn_17 : decode cX11_lotIn 17 = .ok (.if_icmp .ne 25, 3) := by decide +kernel
theorem dX11_lotIn_20 : decode cX11_lotIn 20 = .ok (.aload_n 0, 1) := by decide +kernel
theorem dX11_lotIn_21 : decode cX11_lotIn 21 = .ok (.getfield 58, 3) := by decide +kernel
theorem dX11_lotIn_24 : decode cX11_lotIn 24 = .ok (.iload_n 3, 1) := by decide +kernel
theorem dX11_lotIn_25 : decode cX11_lotIn 25 = .ok (.iaload, 1) := by decide +kernel
theorem dX11_lotIn_26 : decode cX11_lotIn 26 = .ok (.iload_n 1, 1) := by decide +kernel
theorem dX11_lotIn_27 : decode cX11_lotIn 27 = .ok (.if_icmp .ne 15, 3) := by decide +kernel
theorem dX11_lotIn_30 : decode cX11_lotIn 30 = .ok (.aload_n 0, 1) := by decide +kernel
theorem dX11_lotIn_31 : decode cX11_lotIn 31 = .ok (.getfield 55, 3) := by decide +kernel
theorem dX11_lotIn_34 : decode cX11_lotIn 34 = .ok (.iload_n 3, 1) := by decide +kernel
theorem dX11_lotIn_35 : decode cX11_lotIn 35 = .ok (.iaload, 1) := by decide +kernel
theorem dX11_lotIn_36 : decode cX11_lotIn 36 = .ok (.iload_n 2, 1) := by decide +kernel
theorem dX11_lotIn_37 : decode cX11_lotIn 37 = .ok (.if_icmp .ne 5, 3) := by decide +kernel
theorem dX11_lotIn_40 : decode cX11_lotIn 40 = .ok (.iload_n 3, 1) := by decide +kernel
theorem dX11_lotIn_41 : decode cX11_lotIn 41 = .ok (.ireturn, 1) := by decide +kernel
theorem dX11_lotIn_42 : decode cX11_lotIn 42 = .ok (.iinc 3 1, 3) := by decide +kernel
theorem dX11_lotIn_45 : decode cX11_lotIn 45 = .ok (.goto (-43), 3) := by decide +kernel
theorem dX11_lotIn_48 : decode cX11_lotIn 48 = .ok (.iconst (-1), 1) := by decide +kernel
theorem dX11_lotIn_49 : decode cX11_lotIn 49 = .ok (.ireturn, 1) := by decide +kernel
theorem dX11_standing_0 : decode cX11_standing 0 = .ok (.iload_n 2, 1) := by decide +kernel
theorem dX11_standing_1 : decode cX11_standing 1 = .ok (.iload_n 3, 1) := by decide +kernel
theorem dX11_standing_2 : decode cX11_standing 2 = .ok (.if_icmp .gt 12, 3) := by decide +kernel
theorem dX11_standing_5 : decode cX11_standing 5 = .ok (.aload_n 0, 1) := by decide +kernel
theorem dX11_standing_6 : decode cX11_standing 6 = .ok (.iload_n 1, 1) := by decide +kernel
theorem dX11_standing_7 : decode cX11_standing 7 = .ok (.iload_n 2, 1) := by decide +kernel
theorem dX11_standing_8 : decode cX11_standing 8 = .ok (.invokevirtual 166, 3) := by decide +kernel
theorem dX11_standing_11 : decode cX11_standing 11 = .ok (.goto 4, 3) := by decide +kernel
theorem dX11_standing_14 : decode cX11_standing 14 = .ok (.iconst (-1), 1) := by decide +kernel
theorem dX11_standing_15 : decode cX11_standing 15 = .ok (.istore 4, 2) := by decide +kernel
theorem dX11_standing_17 : decode cX11_standing 17 = .ok (.iload 4, 2) := by decide +kernel
theorem dX11_standing_19 : decode cX11_standing 19 = .ok (.iconst (-1), 1) := by decide +kernel
theorem dX11_standing_20 : decode cX11_standing 20 = .ok (.if_icmp .eq 11, 3) := by decide +kernel
theorem dX11_standing_23 : decode cX11_standing 23 = .ok (.aload_n 0, 1) := by decide +kernel
theorem dX11_standing_24 : decode cX11_standing 24 = .ok (.getfield 49, 3) := by decide +kernel
theorem dX11_standing_27 : decode cX11_standing 27 = .ok (.iload 4, 2) := by decide +kernel
theorem dX11_standing_29 : decode cX11_standing 29 = .ok (.iaload, 1) := by decide +kernel
theorem dX11_standing_30 : decode cX11_standing 30 = .ok (.ireturn, 1) := by decide +kernel
theorem dX11_standing_31 : decode cX11_standing 31 = .ok (.iconst 0, 1) := by decide +kernel
theorem dX11_standing_32 : decode cX11_standing 32 = .ok (.istore 5, 2) := by decide +kernel
theorem dX11_standing_34 : decode cX11_standing 34 = .ok (.iconst 0, 1) := by decide +kernel
theorem dX11_standing_35 : decode cX11_standing 35 = .ok (.istore 6, 2) := by decide +kernel
theorem dX11_standing_37 : decode cX11_standing 37 = .ok (.iload 6, 2) := by decide +kernel
theorem dX11_standing_39 : decode cX11_standing 39 = .ok (.aload_n 0, 1) := by decide +kernel
theorem dX11_standing_40 : decode cX11_standing 40 = .ok (.getfield 163, 3) := by decide +kernel
theorem dX11_standing_43 : decode cX11_standing 43 = .ok (.if_icmp .ge 51, 3) := by decide +kernel
theorem dX11_standing_46 : decode cX11_standing 46 = .ok (.aload_n 0, 1) := by decide +kernel
theorem dX11_standing_47 : decode cX11_standing 47 = .ok (.getfield 22, 3) := by decide +kernel
theorem dX11_standing_50 : decode cX11_standing 50 = .ok (.iload 6, 2) := by decide +kernel
theorem dX11_standing_52 : decode cX11_standing 52 = .ok (.iaload, 1) := by decide +kernel
theorem dX11_standing_53 : decode cX11_standing 53 = .ok (.iload_n 1, 1) := by decide +kernel
theorem dX11_standing_54 : decode cX11_standing 54 = .ok (.if_icmp .ne 34, 3) := by decide +kernel
theorem dX11_standing_57 : decode cX11_standing 57 = .ok (.aload_n 0, 1) := by decide +kernel
theorem dX11_standing_58 : decode cX11_standing 58 = .ok (.getfield 25, 3) := by decide +kernel
theorem dX11_standing_61 : decode cX11_standing 61 = .ok (.iload 6, 2) := by decide +kernel
theorem dX11_standing_63 : decode cX11_standing 63 = .ok (.iaload, 1) := by decide +kernel
theorem dX11_standing_64 : decode cX11_standing 64 = .ok (.iload_n 2, 1) := by decide +kernel
theorem dX11_standing_65 : decode cX11_standing 65 = .ok (.if_icmp .ne 23, 3) := by decide +kernel
theorem dX11_standing_68 : decode cX11_standing 68 = .ok (.aload_n 0, 1) := by decide +kernel
theorem dX11_standing_69 : decode cX11_standing 69 = .ok (.getfield 31, 3) := by decide +kernel
theorem dX11_standing_72 : decode cX11_standing 72 = .ok (.iload 6, 2) := by decide +kernel
theorem dX11_standing_74 : decode cX11_standing 74 = .ok (.iaload, 1) := by decide +kernel
theorem dX11_standing_75 : decode cX11_standing 75 = .ok (.iload_n 3, 1) := by decide +kernel
theorem dX11_standing_76 : decode cX11_standing 76 = .ok (.if_icmp .gt 12, 3) := by decide +kernel
theorem dX11_standing_79 : decode cX11_standing 79 = .ok (.aload_n 0, 1) := by decide +kernel
theorem dX11_standing_80 : decode cX11_standing 80 = .ok (.getfield 28, 3) := by decide +kernel
theorem dX11_standing_83 : decode cX11_standing 83 = .ok (.iload 6, 2) := by decide +kernel
theorem dX11_standing_85 : decode cX11_standing 85 = .ok (.iaload, 1) := by decide +kernel
theorem dX11_standing_86 : decode cX11_standing 86 = .ok (.istore 5, 2) := by decide +kernel
theorem dX11_standing_88 : decode cX11_standing 88 = .ok (.iinc 6 1, 3) := by decide +kernel
theorem dX11_standing_91 : decode cX11_standing 91 = .ok (.goto (-54), 3) := by decide +kernel
theorem dX11_standing_94 : decode cX11_standing 94 = .ok (.iload 5, 2) := by decide +kernel
theorem dX11_standing_96 : decode cX11_standing 96 = .ok (.ireturn, 1) := by decide +kernel
theorem dX11_stands_0 : decode cX11_stands 0 = .ok (.aload_n 0, 1) := by decide +kernel
theorem dX11_stands_1 : decode cX11_stands 1 = .ok (.iload_n 1, 1) := by decide +kernel
theorem dX11_stands_2 : decode cX11_stands 2 = .ok (.invokevirtual 153, 3) := by decide +kernel
theorem dX11_stands_5 : decode cX11_stands 5 = .ok (.ifCond .eq 29, 3) := by decide +kernel
theorem dX11_stands_8 : decode cX11_stands 8 = .ok (.aload_n 0, 1) := by decide +kernel
theorem dX11_stands_9 : decode cX11_stands 9 = .ok (.iload_n 2, 1) := by decide +kernel
theorem dX11_stands_10 : decode cX11_stands 10 = .ok (.invokevirtual 160, 3) := by decide +kernel
theorem dX11_stands_13 : decode cX11_stands 13 = .ok (.ifCond .eq 21, 3) := by decide +kernel
theorem dX11_stands_16 : decode cX11_stands 16 = .ok (.aload_n 0, 1) := by decide +kernel
theorem dX11_stands_17 : decode cX11_stands 17 = .ok (.iload_n 3, 1) := by decide +kernel
theorem dX11_stands_18 : decode cX11_stands 18 = .ok (.invokevirtual 160, 3) := by decide +kernel
theorem dX11_stands_21 : decode cX11_stands 21 = .ok (.ifCond .eq 13, 3) := by decide +kernel
theorem dX11_stands_24 : decode cX11_stands 24 = .ok (.aload_n 0, 1) := by decide +kernel
theorem dX11_stands_25 : decode cX11_stands 25 = .ok (.iload_n 1, 1) := by decide +kernel
theorem dX11_stands_26 : decode cX11_stands 26 = .ok (.iload_n 2, 1) := by decide +kernel
theorem dX11_stands_27 : decode cX11_stands 27 = .ok (.iload_n 3, 1) := by decide +kernel
theorem dX11_stands_28 : decode cX11_stands 28 = .ok (.invokevirtual 169, 3) := by decide +kernel
theorem dX11_stands_31 : decode cX11_stands 31 = .ok (.goto 4, 3) := by decide +kernel
theorem dX11_stands_34 : decode cX11_stands 34 = .ok (.iconst (-1), 1) := by decide +kernel
theorem dX11_stands_35 : decode cX11_stands 35 = .ok (.ireturn, 1) := by decide +kernel
theorem dX11_isValue_0 : decode cX11_isValue 0 = .ok (.iload_n 0, 1) := by decide +kernel
theorem dX11_isValue_1 : decode cX11_isValue 1 = .ok (.tableswitch 76 0 4 #[35, 44, 52, 59, 68], 35) := by decide +kernel
theorem dX11_isValue_36 : decode cX11_isValue 36 = .ok (.iload_n 1, 1) := by decide +kernel
theorem dX11_isValue_37 : decode cX11_isValue 37 = .ok (.iconst 0, 1) := by decide +kernel
theorem dX11_isValue_38 : decode cX11_isValue 38 = .ok (.sipush 1000, 3) := by decide +kernel
theorem dX11_isValue_41 : decode cX11_isValue 41 = .ok (.invokestatic 134, 3) := by decide +kernel
theorem dX11_isValue_44 : decode cX11_isValue 44 = .ok (.ireturn, 1) := by decide +kernel
theorem dX11_isValue_45 : decode cX11_isValue 45 = .ok (.iload_n 1, 1) := by decide +kernel
theorem dX11_isValue_46 : decode cX11_isValue 46 = .ok (.iconst 0, 1) := by decide +kernel
theorem dX11_isValue_47 : decode cX11_isValue 47 = .ok (.bipush 10, 2) := by decide +kernel
theorem dX11_isValue_49 : decode cX11_isValue 49 = .ok (.invokestatic 134, 3) := by decide +kernel
theorem dX11_isValue_52 : decode cX11_isValue 52 = .ok (.ireturn, 1) := by decide +kernel
theorem dX11_isValue_53 : decode cX11_isValue 53 = .ok (.iload_n 1, 1) := by decide +kernel
theorem dX11_isValue_54 : decode cX11_isValue 54 = .ok (.iconst 0, 1) := by decide +kernel
theorem dX11_isValue_55 : decode cX11_isValue 55 = .ok (.iconst 5, 1) := by decide +kernel
theorem dX11_isValue_56 : decode cX11_isValue 56 = .ok (.invokestatic 134, 3) := by decide +kernel
theorem dX11_isValue_59 : decode cX11_isValue 59 = .ok (.ireturn, 1) := by decide +kernel
theorem dX11_isValue_60 : decode cX11_isValue 60 = .ok (.iload_n 1, 1) := by decide +kernel
theorem dX11_isValue_61 : decode cX11_isValue 61 = .ok (.iconst 0, 1) := by decide +kernel
theorem dX11_isValue_62 : decode cX11_isValue 62 = .ok (.sipush 1000, 3) := by decide +kernel
theorem dX11_isValue_65 : decode cX11_isValue 65 = .ok (.invokestatic 134, 3) := by decide +kernel
theorem dX11_isValue_68 : decode cX11_isValue 68 = .ok (.ireturn, 1) := by decide +kernel
theorem dX11_isValue_69 : decode cX11_isValue 69 = .ok (.iload_n 1, 1) := by decide +kernel
theorem dX11_isValue_70 : decode cX11_isValue 70 = .ok (.iconst 0, 1) := by decide +kernel
theorem dX11_isValue_71 : decode cX11_isValue 71 = .ok (.bipush 8, 2) := by decide +kernel
theorem dX11_isValue_73 : decode cX11_isValue 73 = .ok (.invokestatic 134, 3) := by decide +kernel
theorem dX11_isValue_76 : decode cX11_isValue 76 = .ok (.ireturn, 1) := by decide +kernel
theorem dX11_isValue_77 : decode cX11_isValue 77 = .ok (.iconst 0, 1) := by decide +kernel
theorem dX11_isValue_78 : decode cX11_isValue 78 = .ok (.ireturn, 1) := by decide +kernel
theorem dX11_statute_0 : decode cX11_statute 0 = .ok (.iload_n 1, 1) := by decide +kernel
theorem dX11_statute_1 : decode cX11_statute 1 = .ok (.iload_n 3, 1) := by decide +kernel
theorem dX11_statute_2 : decode cX11_statute 2 = .ok (.invokestatic 173, 3) := by decide +kernel
theorem dX11_statute_5 : decode cX11_statute 5 = .ok (.ifCond .eq 22, 3) := by decide +kernel
theorem dX11_statute_8 : decode cX11_statute 8 = .ok (.iload_n 2, 1) := by decide +kernel
theorem dX11_statute_9 : decode cX11_statute 9 = .ok (.iconst 0, 1) := by decide +kernel
theorem dX11_statute_10 : decode cX11_statute 10 = .ok (.bipush 60, 2) := by decide +kernel
theorem dX11_statute_12 : decode cX11_statute 12 = .ok (.invokestatic 134, 3) := by decide +kernel
theorem dX11_statute_15 : decode cX11_statute 15 = .ok (.ifCond .eq 12, 3) := by decide +kernel
theorem dX11_statute_18 : decode cX11_statute 18 = .ok (.aload_n 0, 1) := by decide +kernel
theorem dX11_statute_19 : decode cX11_statute 19 = .ok (.getfield 177, 3) := by decide +kernel
theorem dX11_statute_22 : decode cX11_statute 22 = .ok (.bipush 100, 2) := by decide +kernel
theorem dX11_statute_24 : decode cX11_statute 24 = .ok (.if_icmp .ne 5, 3) := by decide +kernel
theorem dX11_statute_27 : decode cX11_statute 27 = .ok (.iconst (-1), 1) := by decide +kernel
theorem dX11_statute_28 : decode cX11_statute 28 = .ok (.ireturn, 1) := by decide +kernel
theorem dX11_statute_29 : decode cX11_statute 29 = .ok (.aload_n 0, 1) := by decide +kernel
theorem dX11_statute_30 : decode cX11_statute 30 = .ok (.getfield 34, 3) := by decide +kernel
theorem dX11_statute_33 : decode cX11_statute 33 = .ok (.aload_n 0, 1) := by decide +kernel
theorem dX11_statute_34 : decode cX11_statute 34 = .ok (.getfield 177, 3) := by decide +kernel
theorem dX11_statute_37 : decode cX11_statute 37 = .ok (.iload_n 1, 1) := by decide +kernel
theorem dX11_statute_38 : decode cX11_statute 38 = .ok (.iastore, 1) := by decide +kernel
theorem dX11_statute_39 : decode cX11_statute 39 = .ok (.aload_n 0, 1) := by decide +kernel
theorem dX11_statute_40 : decode cX11_statute 40 = .ok (.getfield 37, 3) := by decide +kernel
theorem dX11_statute_43 : decode cX11_statute 43 = .ok (.aload_n 0, 1) := by decide +kernel
theorem dX11_statute_44 : decode cX11_statute 44 = .ok (.getfield 177, 3) := by decide +kernel
theorem dX11_statute_47 : decode cX11_statute 47 = .ok (.iload_n 2, 1) := by decide +kernel
theorem dX11_statute_48 : decode cX11_statute 48 = .ok (.iastore, 1) := by decide +kernel
theorem dX11_statute_49 : decode cX11_statute 49 = .ok (.aload_n 0, 1) := by decide +kernel
theorem dX11_statute_50 : decode cX11_statute 50 = .ok (.getfield 40, 3) := by decide +kernel
theorem dX11_statute_53 : decode cX11_statute 53 = .ok (.aload_n 0, 1) := by decide +kernel
theorem dX11_statute_54 : decode cX11_statute 54 = .ok (.getfield 177, 3) := by decide +kernel
theorem dX11_statute_57 : decode cX11_statute 57 = .ok (.iload_n 3, 1) := by decide +kernel
theorem dX11_statute_58 : decode cX11_statute 58 = .ok (.iastore, 1) := by decide +kernel
theorem dX11_statute_59 : decode cX11_statute 59 = .ok (.aload_n 0, 1) := by decide +kernel
theorem dX11_statute_60 : decode cX11_statute 60 = .ok (.getfield 43, 3) := by decide +kernel
theorem dX11_statute_63 : decode cX11_statute 63 = .ok (.aload_n 0, 1) := by decide +kernel
theorem dX11_statute_64 : decode cX11_statute 64 = .ok (.getfield 177, 3) := by decide +kernel
theorem dX11_statute_67 : decode cX11_statute 67 = .ok (.aload_n 0, 1) := by decide +kernel
theorem dX11_statute_68 : decode cX11_statute 68 = .ok (.getfield 141, 3) := by decide +kernel
theorem dX11_statute_71 : decode cX11_statute 71 = .ok (.iastore, 1) := by decide +kernel
theorem dX11_statute_72 : decode cX11_statute 72 = .ok (.aload_n 0, 1) := by decide +kernel
theorem dX11_statute_73 : decode cX11_statute 73 = .ok (.dup, 1) := by decide +kernel
theorem dX11_statute_74 : decode cX11_statute 74 = .ok (.getfield 177, 3) := by decide +kernel
theorem dX11_statute_77 : decode cX11_statute 77 = .ok (.iconst 1, 1) := by decide +kernel
theorem dX11_statute_78 : decode cX11_statute 78 = .ok (.iadd, 1) := by decide +kernel
theorem dX11_statute_79 : decode cX11_statute 79 = .ok (.putfield 177, 3) := by decide +kernel
theorem dX11_statute_82 : decode cX11_statute 82 = .ok (.aload_n 0, 1) := by decide +kernel
theorem dX11_statute_83 : decode cX11_statute 83 = .ok (.getfield 177, 3) := by decide +kernel
theorem dX11_statute_86 : decode cX11_statute 86 = .ok (.ireturn, 1) := by decide +kernel
theorem dX11_inForce_0 : decode cX11_inForce 0 = .ok (.iload_n 1, 1) := by decide +kernel
theorem dX11_inForce_1 : decode cX11_inForce 1 = .ok (.ifCond .ne 8, 3) := by decide +kernel
theorem dX11_inForce_4 : decode cX11_inForce 4 = .ok (.bipush 50, 2) := by decide +kernel
theorem dX11_inForce_6 : decode cX11_inForce 6 = .ok (.goto 33, 3) := by decide +kernel
theorem dX11_inForce_9 : decode cX11_inForce 9 = .ok (.iload_n 1, 1) := by decide +kernel
theorem dX11_inForce_10 : decode cX11_inForce 10 = .ok (.iconst 1, 1) := by decide +kernel
theorem dX11_inForce_11 : decode cX11_inForce 11 = .ok (.if_icmp .ne 7, 3) := by decide +kernel
theorem dX11_inForce_14 : decode cX11_inForce 14 = .ok (.iconst 2, 1) := by decide +kernel
theorem dX11_inForce_15 : decode cX11_inForce 15 = .ok (.goto 24, 3) := by decide +kernel
theorem dX11_inForce_18 : decode cX11_inForce 18 = .ok (.iload_n 1, 1) := by decide +kernel
theorem dX11_inForce_19 : decode cX11_inForce 19 = .ok (.iconst 2, 1) := by decide +kernel
theorem dX11_inForce_20 : decode cX11_inForce 20 = .ok (.if_icmp .ne 7, 3) := by decide +kernel
theorem dX11_inForce_23 : decode cX11_inForce 23 = .ok (.iconst 1, 1) := by decide +kernel
theorem dX11_inForce_24 : decode cX11_inForce 24 = .ok (.goto 15, 3) := by decide +kernel
theorem dX11_inForce_27 : decode cX11_inForce 27 = .ok (.iload_n 1, 1) := by decide +kernel
theorem dX11_inForce_28 : decode cX11_inForce 28 = .ok (.iconst 3, 1) := by decide +kernel
theorem dX11_inForce_29 : decode cX11_inForce 29 = .ok (.if_icmp .ne 8, 3) := by decide +kernel
theorem dX11_inForce_32 : decode cX11_inForce 32 = .ok (.bipush 10, 2) := by decide +kernel
theorem dX11_inForce_34 : decode cX11_inForce 34 = .ok (.goto 5, 3) := by decide +kernel
theorem dX11_inForce_37 : decode cX11_inForce 37 = .ok (.bipush 6, 2) := by decide +kernel
theorem dX11_inForce_39 : decode cX11_inForce 39 = .ok (.istore 4, 2) := by decide +kernel
theorem dX11_inForce_41 : decode cX11_inForce 41 = .ok (.iconst (-1), 1) := by decide +kernel
theorem dX11_inForce_42 : decode cX11_inForce 42 = .ok (.istore 5, 2) := by decide +kernel
theorem dX11_inForce_44 : decode cX11_inForce 44 = .ok (.iconst 0, 1) := by decide +kernel
theorem dX11_inForce_45 : decode cX11_inForce 45 = .ok (.istore 6, 2) := by decide +kernel
theorem dX11_inForce_47 : decode cX11_inForce 47 = .ok (.iload 6, 2) := by decide +kernel
theorem dX11_inForce_49 : decode cX11_inForce 49 = .ok (.aload_n 0, 1) := by decide +kernel
theorem dX11_inForce_50 : decode cX11_inForce 50 = .ok (.getfield 177, 3) := by decide +kernel
theorem dX11_inForce_53 : decode cX11_inForce 53 = .ok (.if_icmp .ge 72, 3) := by decide +kernel
theorem dX11_inForce_56 : decode cX11_inForce 56 = .ok (.aload_n 0, 1) := by decide +kernel
theorem dX11_inForce_57 : decode cX11_inForce 57 = .ok (.getfield 34, 3) := by decide +kernel
theorem dX11_inForce_60 : decode cX11_inForce 60 = .ok (.iload 6, 2) := by decide +kernel
theorem dX11_inForce_62 : decode cX11_inForce 62 = .ok (.iaload, 1) := by decide +kernel
theorem dX11_inForce_63 : decode cX11_inForce 63 = .ok (.iload_n 1, 1) := by decide +kernel
theorem dX11_inForce_64 : decode cX11_inForce 64 = .ok (.if_icmp .ne 55, 3) := by decide +kernel
theorem dX11_inForce_67 : decode cX11_inForce 67 = .ok (.aload_n 0, 1) := by decide +kernel
theorem dX11_inForce_68 : decode cX11_inForce 68 = .ok (.getfield 43, 3) := by decide +kernel
theorem dX11_inForce_71 : decode cX11_inForce 71 = .ok (.iload 6, 2) := by decide +kernel
theorem dX11_inForce_73 : decode cX11_inForce 73 = .ok (.iaload, 1) := by decide +kernel
theorem dX11_inForce_74 : decode cX11_inForce 74 = .ok (.iload_n 3, 1) := by decide +kernel
theorem dX11_inForce_75 : decode cX11_inForce 75 = .ok (.if_icmp .gt 44, 3) := by decide +kernel
theorem dX11_inForce_78 : decode cX11_inForce 78 = .ok (.aload_n 0, 1) := by decide +kernel
theorem dX11_inForce_79 : decode cX11_inForce 79 = .ok (.getfield 37, 3) := by decide +kernel
theorem dX11_inForce_82 : decode cX11_inForce 82 = .ok (.iload 6, 2) := by decide +kernel
theorem dX11_inForce_84 : decode cX11_inForce 84 = .ok (.iaload, 1) := by decide +kernel
theorem dX11_inForce_85 : decode cX11_inForce 85 = .ok (.iload_n 2, 1) := by decide +kernel
theorem dX11_inForce_86 : decode cX11_inForce 86 = .ok (.if_icmp .gt 33, 3) := by decide +kernel
theorem dX11_inForce_89 : decode cX11_inForce 89 = .ok (.aload_n 0, 1) := by decide +kernel
theorem dX11_inForce_90 : decode cX11_inForce 90 = .ok (.getfield 37, 3) := by decide +kernel
theorem dX11_inForce_93 : decode cX11_inForce 93 = .ok (.iload 6, 2) := by decide +kernel
theorem dX11_inForce_95 : decode cX11_inForce 95 = .ok (.iaload, 1) := by decide +kernel
theorem dX11_inForce_96 : decode cX11_inForce 96 = .ok (.iload 5, 2) := by decide +kernel
theorem dX11_inForce_98 : decode cX11_inForce 98 = .ok (.if_icmp .lt 21, 3) := by decide +kernel
theorem dX11_inForce_101 : decode cX11_inForce 101 = .ok (.aload_n 0, 1) := by decide +kernel
theorem dX11_inForce_102 : decode cX11_inForce 102 = .ok (.getfield 40, 3) := by decide +kernel
theorem dX11_inForce_105 : decode cX11_inForce 105 = .ok (.iload 6, 2) := by decide +kernel
theorem dX11_inForce_107 : decode cX11_inForce 107 = .ok (.iaload, 1) := by decide +kernel
theorem dX11_inForce_108 : decode cX11_inForce 108 = .ok (.istore 4, 2) := by decide +kernel
theorem dX11_inForce_110 : decode cX11_inForce 110 = .ok (.aload_n 0, 1) := by decide +kernel
theorem dX11_inForce_111 : decode cX11_inForce 111 = .ok (.getfield 37, 3) := by decide +kernel
theorem dX11_inForce_114 : decode cX11_inForce 114 = .ok (.iload 6, 2) := by decide +kernel
theorem dX11_inForce_116 : decode cX11_inForce 116 = .ok (.iaload, 1) := by decide +kernel
theorem dX11_inForce_117 : decode cX11_inForce 117 = .ok (.istore 5, 2) := by decide +kernel
theorem dX11_inForce_119 : decode cX11_inForce 119 = .ok (.iinc 6 1, 3) := by decide +kernel
theorem dX11_inForce_122 : decode cX11_inForce 122 = .ok (.goto (-75), 3) := by decide +kernel
theorem dX11_inForce_125 : decode cX11_inForce 125 = .ok (.iload 4, 2) := by decide +kernel
theorem dX11_inForce_127 : decode cX11_inForce 127 = .ok (.ireturn, 1) := by decide +kernel
theorem dX11_force_0 : decode cX11_force 0 = .ok (.iload_n 1, 1) := by decide +kernel
theorem dX11_force_1 : decode cX11_force 1 = .ok (.iconst 0, 1) := by decide +kernel
theorem dX11_force_2 : decode cX11_force 2 = .ok (.iconst 4, 1) := by decide +kernel
theorem dX11_force_3 : decode cX11_force 3 = .ok (.invokestatic 134, 3) := by decide +kernel
theorem dX11_force_6 : decode cX11_force 6 = .ok (.ifCond .eq 31, 3) := by decide +kernel
theorem dX11_force_9 : decode cX11_force 9 = .ok (.iload_n 2, 1) := by decide +kernel
theorem dX11_force_10 : decode cX11_force 10 = .ok (.iconst 0, 1) := by decide +kernel
theorem dX11_force_11 : decode cX11_force 11 = .ok (.bipush 60, 2) := by decide +kernel
theorem dX11_force_13 : decode cX11_force 13 = .ok (.invokestatic 134, 3) := by decide +kernel
theorem dX11_force_16 : decode cX11_force 16 = .ok (.ifCond .eq 21, 3) := by decide +kernel
theorem dX11_force_19 : decode cX11_force 19 = .ok (.aload_n 0, 1) := by decide +kernel
theorem dX11_force_20 : decode cX11_force 20 = .ok (.iload_n 3, 1) := by decide +kernel
theorem dX11_force_21 : decode cX11_force 21 = .ok (.invokevirtual 160, 3) := by decide +kernel
theorem dX11_force_24 : decode cX11_force 24 = .ok (.ifCond .eq 13, 3) := by decide +kernel
theorem dX11_force_27 : decode cX11_force 27 = .ok (.aload_n 0, 1) := by decide +kernel
theorem dX11_force_28 : decode cX11_force 28 = .ok (.iload_n 1, 1) := by decide +kernel
theorem dX11_force_29 : decode cX11_force 29 = .ok (.iload_n 2, 1) := by decide +kernel
theorem dX11_force_30 : decode cX11_force 30 = .ok (.iload_n 3, 1) := by decide +kernel
theorem dX11_force_31 : decode cX11_force 31 = .ok (.invokevirtual 180, 3) := by decide +kernel
theorem dX11_force_34 : decode cX11_force 34 = .ok (.goto 4, 3) := by decide +kernel
theorem dX11_force_37 : decode cX11_force 37 = .ok (.iconst (-1), 1) := by decide +kernel
theorem dX11_force_38 : decode cX11_force 38 = .ok (.ireturn, 1) := by decide +kernel
theorem dX11_lot_0 : decode cX11_lot 0 = .ok (.aload_n 0, 1) := by decide +kernel
theorem dX11_lot_1 : decode cX11_lot 1 = .ok (.getfield 138, 3) := by decide +kernel
theorem dX11_lot_4 : decode cX11_lot 4 = .ok (.istore_n 3, 1) := by decide +kernel
theorem dX11_lot_5 : decode cX11_lot 5 = .ok (.aload_n 0, 1) := by decide +kernel
theorem dX11_lot_6 : decode cX11_lot 6 = .ok (.dup, 1) := by decide +kernel
theorem dX11_lot_7 : decode cX11_lot 7 = .ok (.getfield 138, 3) := by decide +kernel
theorem dX11_lot_10 : decode cX11_lot 10 = .ok (.iconst 1, 1) := by decide +kernel
theorem dX11_lot_11 : decode cX11_lot 11 = .ok (.iadd, 1) := by decide +kernel
theorem dX11_lot_12 : decode cX11_lot 12 = .ok (.putfield 138, 3) := by decide +kernel
theorem dX11_lot_15 : decode cX11_lot 15 = .ok (.aload_n 0, 1) := by decide +kernel
theorem dX11_lot_16 : decode cX11_lot 16 = .ok (.getfield 46, 3) := by decide +kernel
theorem dX11_lot_19 : decode cX11_lot 19 = .ok (.iload_n 3, 1) := by decide +kernel
theorem dX11_lot_20 : decode cX11_lot 20 = .ok (.iload_n 1, 1) := by decide +kernel
theorem dX11_lot_21 : decode cX11_lot 21 = .ok (.iastore, 1) := by decide +kernel
theorem dX11_lot_22 : decode cX11_lot 22 = .ok (.aload_n 0, 1) := by decide +kernel
theorem dX11_lot_23 : decode cX11_lot 23 = .ok (.getfield 49, 3) := by decide +kernel
theorem dX11_lot_26 : decode cX11_lot 26 = .ok (.iload_n 3, 1) := by decide +kernel
theorem dX11_lot_27 : decode cX11_lot 27 = .ok (.iload_n 2, 1) := by decide +kernel
theorem dX11_lot_28 : decode cX11_lot 28 = .ok (.iastore, 1) := by decide +kernel
theorem dX11_lot_29 : decode cX11_lot 29 = .ok (.aload_n 0, 1) := by decide +kernel
theorem dX11_lot_30 : decode cX11_lot 30 = .ok (.getfield 52, 3) := by decide +kernel
theorem dX11_lot_33 : decode cX11_lot 33 = .ok (.iload_n 3, 1) := by decide +kernel
theorem dX11_lot_34 : decode cX11_lot 34 = .ok (.iconst 0, 1) := by decide +kernel
theorem dX11_lot_35 : decode cX11_lot 35 = .ok (.iastore, 1) := by decide +kernel
theorem dX11_lot_36 : decode cX11_lot 36 = .ok (.aload_n 0, 1) := by decide +kernel
theorem dX11_lot_37 : decode cX11_lot 37 = .ok (.getfield 55, 3) := by decide +kernel
theorem dX11_lot_40 : decode cX11_lot 40 = .ok (.iload_n 3, 1) := by decide +kernel
theorem dX11_lot_41 : decode cX11_lot 41 = .ok (.aload_n 0, 1) := by decide +kernel
theorem dX11_lot_42 : decode cX11_lot 42 = .ok (.getfield 141, 3) := by decide +kernel
theorem dX11_lot_45 : decode cX11_lot 45 = .ok (.iastore, 1) := by decide +kernel
theorem dX11_lot_46 : decode cX11_lot 46 = .ok (.aload_n 0, 1) := by decide +kernel
theorem dX11_lot_47 : decode cX11_lot 47 = .ok (.getfield 58, 3) := by decide +kernel
theorem dX11_lot_50 : decode cX11_lot 50 = .ok (.iload_n 3, 1) := by decide +kernel
theorem dX11_lot_51 : decode cX11_lot 51 = .ok (.iconst (-1), 1) := by decide +kernel
theorem dX11_lot_52 : decode cX11_lot 52 = .ok (.iastore, 1) := by decide +kernel
theorem dX11_lot_53 : decode cX11_lot 53 = .ok (.aload_n 0, 1) := by decide +kernel
theorem dX11_lot_54 : decode cX11_lot 54 = .ok (.getfield 61, 3) := by decide +kernel
theorem dX11_lot_57 : decode cX11_lot 57 = .ok (.iload_n 3, 1) := by decide +kernel
theorem dX11_lot_58 : decode cX11_lot 58 = .ok (.iconst (-1), 1) := by decide +kernel
theorem dX11_lot_59 : decode cX11_lot 59 = .ok (.iastore, 1) := by decide +kernel
theorem dX11_lot_60 : decode cX11_lot 60 = .ok (.aload_n 0, 1) := by decide +kernel
theorem dX11_lot_61 : decode cX11_lot 61 = .ok (.getfield 64, 3) := by decide +kernel
theorem dX11_lot_64 : decode cX11_lot 64 = .ok (.iload_n 3, 1) := by decide +kernel
theorem dX11_lot_65 : decode cX11_lot 65 = .ok (.iconst (-1), 1) := by decide +kernel
theorem dX11_lot_66 : decode cX11_lot 66 = .ok (.iastore, 1) := by decide +kernel
theorem dX11_lot_67 : decode cX11_lot 67 = .ok (.aload_n 0, 1) := by decide +kernel
theorem dX11_lot_68 : decode cX11_lot 68 = .ok (.getfield 67, 3) := by decide +kernel
theorem dX11_lot_71 : decode cX11_lot 71 = .ok (.iload_n 3, 1) := by decide +kernel
theorem dX11_lot_72 : decode cX11_lot 72 = .ok (.iconst (-1), 1) := by decide +kernel
theorem dX11_lot_73 : decode cX11_lot 73 = .ok (.iastore, 1) := by decide +kernel
theorem dX11_lot_74 : decode cX11_lot 74 = .ok (.aload_n 0, 1) := by decide +kernel
theorem dX11_lot_75 : decode cX11_lot 75 = .ok (.getfield 82, 3) := by decide +kernel
theorem dX11_lot_78 : decode cX11_lot 78 = .ok (.iload_n 3, 1) := by decide +kernel
theorem dX11_lot_79 : decode cX11_lot 79 = .ok (.iconst (-1), 1) := by decide +kernel
theorem dX11_lot_80 : decode cX11_lot 80 = .ok (.iastore, 1) := by decide +kernel
theorem dX11_lot_81 : decode cX11_lot 81 = .ok (.iload_n 3, 1) := by decide +kernel
theorem dX11_lot_82 : decode cX11_lot 82 = .ok (.ireturn, 1) := by decide +kernel
theorem dX11_tube_0 : decode cX11_tube 0 = .ok (.iload_n 1, 1) := by decide +kernel
theorem dX11_tube_1 : decode cX11_tube 1 = .ok (.iconst 1, 1) := by decide +kernel
theorem dX11_tube_2 : decode cX11_tube 2 = .ok (.iconst 4, 1) := by decide +kernel
theorem dX11_tube_3 : decode cX11_tube 3 = .ok (.invokestatic 134, 3) := by decide +kernel
theorem dX11_tube_6 : decode cX11_tube 6 = .ok (.ifCond .eq 13, 3) := by decide +kernel
theorem dX11_tube_9 : decode cX11_tube 9 = .ok (.aload_n 0, 1) := by decide +kernel
theorem dX11_tube_10 : decode cX11_tube 10 = .ok (.getfield 138, 3) := by decide +kernel
theorem dX11_tube_13 : decode cX11_tube 13 = .ok (.sipush 200, 3) := by decide +kernel
theorem dX11_tube_16 : decode cX11_tube 16 = .ok (.if_icmp .ne 5, 3) := by decide +kernel
theorem dX11_tube_19 : decode cX11_tube 19 = .ok (.iconst (-1), 1) := by decide +kernel
theorem dX11_tube_20 : decode cX11_tube 20 = .ok (.ireturn, 1) := by decide +kernel
theorem dX11_tube_21 : decode cX11_tube 21 = .ok (.aload_n 0, 1) := by decide +kernel
theorem dX11_tube_22 : decode cX11_tube 22 = .ok (.iconst 0, 1) := by decide +kernel
theorem dX11_tube_23 : decode cX11_tube 23 = .ok (.iload_n 1, 1) := by decide +kernel
theorem dX11_tube_24 : decode cX11_tube 24 = .ok (.invokevirtual 183, 3) := by decide +kernel
theorem dX11_tube_27 : decode cX11_tube 27 = .ok (.istore_n 2, 1) := by decide +kernel
theorem dX11_tube_28 : decode cX11_tube 28 = .ok (.aload_n 0, 1) := by decide +kernel
theorem dX11_tube_29 : decode cX11_tube 29 = .ok (.getfield 52, 3) := by decide +kernel
theorem dX11_tube_32 : decode cX11_tube 32 = .ok (.iload_n 2, 1) := by decide +kernel
theorem dX11_tube_33 : decode cX11_tube 33 = .ok (.bipush 100, 2) := by decide +kernel
theorem dX11_tube_35 : decode cX11_tube 35 = .ok (.iastore, 1) := by decide +kernel
theorem dX11_tube_36 : decode cX11_tube 36 = .ok (.aload_n 0, 1) := by decide +kernel
theorem dX11_tube_37 : decode cX11_tube 37 = .ok (.getfield 67, 3) := by decide +kernel
theorem dX11_tube_40 : decode cX11_tube 40 = .ok (.iload_n 2, 1) := by decide +kernel
theorem dX11_tube_41 : decode cX11_tube 41 = .ok (.bipush 100, 2) := by decide +kernel
theorem dX11_tube_43 : decode cX11_tube 43 = .ok (.iastore, 1) := by decide +kernel
theorem dX11_tube_44 : decode cX11_tube 44 = .ok (.iload_n 2, 1) := by decide +kernel
theorem dX11_tube_45 : decode cX11_tube 45 = .ok (.ireturn, 1) := by decide +kernel
theorem dX11_sow_0 : decode cX11_sow 0 = .ok (.aload_n 0, 1) := by decide +kernel
theorem dX11_sow_1 : decode cX11_sow 1 = .ok (.iload_n 1, 1) := by decide +kernel
theorem dX11_sow_2 : decode cX11_sow 2 = .ok (.invokevirtual 186, 3) := by decide +kernel
theorem dX11_sow_5 : decode cX11_sow 5 = .ok (.ifCond .eq 30, 3) := by decide +kernel
theorem dX11_sow_8 : decode cX11_sow 8 = .ok (.aload_n 0, 1) := by decide +kernel
theorem dX11_sow_9 : decode cX11_sow 9 = .ok (.iload_n 2, 1) := by decide +kernel
theorem dX11_sow_10 : decode cX11_sow 10 = .ok (.invokevirtual 153, 3) := by decide +kernel
theorem dX11_sow_13 : decode cX11_sow 13 = .ok (.ifCond .eq 22, 3) := by decide +kernel
theorem dX11_sow_16 : decode cX11_sow 16 = .ok (.iload_n 3, 1) := by decide +kernel
theorem dX11_sow_17 : decode cX11_sow 17 = .ok (.iconst 1, 1) := by decide +kernel
theorem dX11_sow_18 : decode cX11_sow 18 = .ok (.if_icmp .lt 17, 3) := by decide +kernel
theorem dX11_sow_21 : decode cX11_sow 21 = .ok (.aload_n 0, 1) := by decide +kernel
theorem dX11_sow_22 : decode cX11_sow 22 = .ok (.getfield 138, 3) := by decide +kernel
theorem dX11_sow_25 : decode cX11_sow 25 = .ok (.sipush 200, 3) := by decide +kernel
theorem dX11_sow_28 : decode cX11_sow 28 = .ok (.if_icmp .ge 7, 3) := by decide +kernel
theorem dX11_sow_31 : decode cX11_sow 31 = .ok (.iconst 1, 1) := by decide +kernel
theorem dX11_sow_32 : decode cX11_sow 32 = .ok (.goto 4, 3) := by decide +kernel
theorem dX11_sow_35 : decode cX11_sow 35 = .ok (.iconst 0, 1) := by decide +kernel
theorem dX11_sow_36 : decode cX11_sow 36 = .ok (.istore 4, 2) := by decide +kernel
theorem dX11_sow_38 : decode cX11_sow 38 = .ok (.iload 4, 2) := by decide +kernel
theorem dX11_sow_40 : decode cX11_sow 40 = .ok (.ifCond .eq 48, 3) := by decide +kernel
theorem dX11_sow_43 : decode cX11_sow 43 = .ok (.iload_n 3, 1) := by decide +kernel
theorem dX11_sow_44 : decode cX11_sow 44 = .ok (.aload_n 0, 1) := by decide +kernel
theorem dX11_sow_45 : decode cX11_sow 45 = .ok (.getfield 52, 3) := by decide +kernel
theorem dX11_sow_48 : decode cX11_sow 48 = .ok (.iload_n 1, 1) := by decide +kernel
theorem dX11_sow_49 : decode cX11_sow 49 = .ok (.iaload, 1) := by decide +kernel
theorem dX11_sow_50 : decode cX11_sow 50 = .ok (.if_icmp .gt 38, 3) := by decide +kernel
theorem dX11_sow_53 : decode cX11_sow 53 = .ok (.aload_n 0, 1) := by decide +kernel
theorem dX11_sow_54 : decode cX11_sow 54 = .ok (.getfield 46, 3) := by decide +kernel
theorem dX11_sow_57 : decode cX11_sow 57 = .ok (.iload_n 1, 1) := by decide +kernel
theorem dX11_sow_58 : decode cX11_sow 58 = .ok (.iaload, 1) := by decide +kernel
theorem dX11_sow_59 : decode cX11_sow 59 = .ok (.ifCond .eq 16, 3) := by decide +kernel
theorem dX11_sow_62 : decode cX11_sow 62 = .ok (.aload_n 0, 1) := by decide +kernel
theorem dX11_sow_63 : decode cX11_sow 63 = .ok (.getfield 55, 3) := by decide +kernel
theorem dX11_sow_66 : decode cX11_sow 66 = .ok (.iload_n 1, 1) := by decide +kernel
theorem dX11_sow_67 : decode cX11_sow 67 = .ok (.iaload, 1) := by decide +kernel
theorem dX11_sow_68 : decode cX11_sow 68 = .ok (.aload_n 0, 1) := by decide +kernel
theorem dX11_sow_69 : decode cX11_sow 69 = .ok (.getfield 141, 3) := by decide +kernel
theorem dX11_sow_72 : decode cX11_sow 72 = .ok (.if_icmp .eq 16, 3) := by decide +kernel
theorem dX11_sow_75 : decode cX11_sow 75 = .ok (.aload_n 0, 1) := by decide +kernel
theorem dX11_sow_76 : decode cX11_sow 76 = .ok (.iload_n 2, 1) := by decide +kernel
theorem dX11_sow_77 : decode cX11_sow 77 = .ok (.aload_n 0, 1) := by decide +kernel
theorem dX11_sow_78 : decode cX11_sow 78 = .ok (.getfield 141, 3) := by decide +kernel
theorem dX11_sow_81 : decode cX11_sow 81 = .ok (.invokevirtual 166, 3) := by decide +kernel
theorem dX11_sow_84 : decode cX11_sow 84 = .ok (.iconst (-1), 1) := by decide +kernel
theorem dX11_sow_85 : decode cX11_sow 85 = .ok (.if_icmp .eq 5, 3) := by decide +kernel
theorem dX11_sow_88 : decode cX11_sow 88 = .ok (.iconst (-1), 1) := by decide +kernel
theorem dX11_sow_89 : decode cX11_sow 89 = .ok (.ireturn, 1) := by decide +kernel
theorem dX11_sow_90 : decode cX11_sow 90 = .ok (.aload_n 0, 1) := by decide +kernel
theorem dX11_sow_91 : decode cX11_sow 91 = .ok (.iconst 1, 1) := by decide +kernel
theorem dX11_sow_92 : decode cX11_sow 92 = .ok (.aload_n 0, 1) := by decide +kernel
theorem dX11_sow_93 : decode cX11_sow 93 = .ok (.getfield 49, 3) := by decide +kernel
theorem dX11_sow_96 : decode cX11_sow 96 = .ok (.iload_n 1, 1) := by decide +kernel
theorem dX11_sow_97 : decode cX11_sow 97 = .ok (.iaload, 1) := by decide +kernel
theorem dX11_sow_98 : decode cX11_sow 98 = .ok (.invokevirtual 183, 3) := by decide +kernel
theorem dX11_sow_101 : decode cX11_sow 101 = .ok (.istore 5, 2) := by decide +kernel
theorem dX11_sow_103 : decode cX11_sow 103 = .ok (.aload_n 0, 1) := by decide +kernel
theorem dX11_sow_104 : decode cX11_sow 104 = .ok (.getfield 52, 3) := by decide +kernel
theorem dX11_sow_107 : decode cX11_sow 107 = .ok (.iload_n 1, 1) := by decide +kernel
theorem dX11_sow_108 : decode cX11_sow 108 = .ok (.dup2, 1) := by decide +kernel
theorem dX11_sow_109 : decode cX11_sow 109 = .ok (.iaload, 1) := by decide +kernel
theorem dX11_sow_110 : decode cX11_sow 110 = .ok (.iload_n 3, 1) := by decide +kernel
theorem dX11_sow_111 : decode cX11_sow 111 = .ok (.isub, 1) := by decide +kernel
theorem dX11_sow_112 : decode cX11_sow 112 = .ok (.iastore, 1) := by decide +kernel
theorem dX11_sow_113 : decode cX11_sow 113 = .ok (.aload_n 0, 1) := by decide +kernel
theorem dX11_sow_114 : decode cX11_sow 114 = .ok (.getfield 70, 3) := by decide +kernel
theorem dX11_sow_117 : decode cX11_sow 117 = .ok (.iload_n 1, 1) := by decide +kernel
theorem dX11_sow_118 : decode cX11_sow 118 = .ok (.dup2, 1) := by decide +kernel
theorem dX11_sow_119 : decode cX11_sow 119 = .ok (.iaload, 1) := by decide +kernel
theorem dX11_sow_120 : decode cX11_sow 120 = .ok (.iload_n 3, 1) := by decide +kernel
theorem dX11_sow_121 : decode cX11_sow 121 = .ok (.iadd, 1) := by decide +kernel
theorem dX11_sow_122 : decode cX11_sow 122 = .ok (.iastore, 1) := by decide +kernel
theorem dX11_sow_123 : decode cX11_sow 123 = .ok (.aload_n 0, 1) := by decide +kernel
theorem dX11_sow_124 : decode cX11_sow 124 = .ok (.getfield 61, 3) := by decide +kernel
theorem dX11_sow_127 : decode cX11_sow 127 = .ok (.iload 5, 2) := by decide +kernel
theorem dX11_sow_129 : decode cX11_sow 129 = .ok (.iload_n 1, 1) := by decide +kernel
theorem dX11_sow_130 : decode cX11_sow 130 = .ok (.iastore, 1) := by decide +kernel
theorem dX11_sow_131 : decode cX11_sow 131 = .ok (.aload_n 0, 1) := by decide +kernel
theorem dX11_sow_132 : decode cX11_sow 132 = .ok (.getfield 58, 3) := by decide +kernel
theorem dX11_sow_135 : decode cX11_sow 135 = .ok (.iload 5, 2) := by decide +kernel
theorem dX11_sow_137 : decode cX11_sow 137 = .ok (.iload_n 2, 1) := by decide +kernel
theorem dX11_sow_138 : decode cX11_sow 138 = .ok (.iastore, 1) := by decide +kernel
theorem dX11_sow_139 : decode cX11_sow 139 = .ok (.iload 5, 2) := by decide +kernel
theorem dX11_sow_141 : decode cX11_sow 141 = .ok (.ireturn, 1) := by decide +kernel
theorem dX11_harvest_0 : decode cX11_harvest 0 = .ok (.aload_n 0, 1) := by decide +kernel
theorem dX11_harvest_1 : decode cX11_harvest 1 = .ok (.iload_n 1, 1) := by decide +kernel
theorem dX11_harvest_2 : decode cX11_harvest 2 = .ok (.invokevirtual 186, 3) := by decide +kernel
theorem dX11_harvest_5 : decode cX11_harvest 5 = .ok (.ifCond .eq 33, 3) := by decide +kernel
theorem dX11_harvest_8 : decode cX11_harvest 8 = .ok (.aload_n 0, 1) := by decide +kernel
theorem dX11_harvest_9 : decode cX11_harvest 9 = .ok (.getfield 46, 3) := by decide +kernel
theorem dX11_harvest_12 : decode cX11_harvest 12 = .ok (.iload_n 1, 1) := by decide +kernel
theorem dX11_harvest_13 : decode cX11_harvest 13 = .ok (.iaload, 1) := by decide +kernel
theorem dX11_harvest_14 : decode cX11_harvest 14 = .ok (.iconst 1, 1) := by decide +kernel
theorem dX11_harvest_15 : decode cX11_harvest 15 = .ok (.if_icmp .ne 23, 3) := by decide +kernel
theorem dX11_harvest_18 : decode cX11_harvest 18 = .ok (.aload_n 0, 1) := by decide +kernel
theorem dX11_harvest_19 : decode cX11_harvest 19 = .ok (.getfield 67, 3) := by decide +kernel
theorem dX11_harvest_22 : decode cX11_harvest 22 = .ok (.iload_n 1, 1) := by decide +kernel
theorem dX11_harvest_23 : decode cX11_harvest 23 = .ok (.iaload, 1) := by decide +kernel
theorem dX11_harvest_24 : decode cX11_harvest 24 = .ok (.iconst (-1), 1) := by decide +kernel
theorem dX11_harvest_25 : decode cX11_harvest 25 = .ok (.if_icmp .ne 13, 3) := by decide +kernel
theorem dX11_harvest_28 : decode cX11_harvest 28 = .ok (.iload_n 2, 1) := by decide +kernel
theorem dX11_harvest_29 : decode cX11_harvest 29 = .ok (.iconst 1, 1) := by decide +kernel
theorem dX11_harvest_30 : decode cX11_harvest 30 = .ok (.ldc 189, 2) := by decide +kernel
theorem dX11_harvest_32 : decode cX11_harvest 32 = .ok (.invokestatic 134, 3) := by decide +kernel
theorem dX11_harvest_35 : decode cX11_harvest 35 = .ok (.ifCond .ne 5, 3) := by decide +kernel
theorem dX11_harvest_38 : decode cX11_harvest 38 = .ok (.iconst 0, 1) := by decide +kernel
theorem dX11_harvest_39 : decode cX11_harvest 39 = .ok (.ireturn, 1) := by decide +kernel
theorem dX11_harvest_40 : decode cX11_harvest 40 = .ok (.aload_n 0, 1) := by decide +kernel
theorem dX11_harvest_41 : decode cX11_harvest 41 = .ok (.getfield 52, 3) := by decide +kernel
theorem dX11_harvest_44 : decode cX11_harvest 44 = .ok (.iload_n 1, 1) := by decide +kernel
theorem dX11_harvest_45 : decode cX11_harvest 45 = .ok (.iload_n 2, 1) := by decide +kernel
theorem dX11_harvest_46 : decode cX11_harvest 46 = .ok (.iastore, 1) := by decide +kernel
theorem dX11_harvest_47 : decode cX11_harvest 47 = .ok (.aload_n 0, 1) := by decide +kernel
theorem dX11_harvest_48 : decode cX11_harvest 48 = .ok (.getfield 67, 3) := by decide +kernel
theorem dX11_harvest_51 : decode cX11_harvest 51 = .ok (.iload_n 1, 1) := by decide +kernel
theorem dX11_harvest_52 : decode cX11_harvest 52 = .ok (.iload_n 2, 1) := by decide +kernel
theorem dX11_harvest_53 : decode cX11_harvest 53 = .ok (.iastore, 1) := by decide +kernel
theorem dX11_harvest_54 : decode cX11_harvest 54 = .ok (.iconst 1, 1) := by decide +kernel
theorem dX11_harvest_55 : decode cX11_harvest 55 = .ok (.ireturn, 1) := by decide +kernel
theorem dX11_mix_0 : decode cX11_mix 0 = .ok (.aload_n 0, 1) := by decide +kernel
theorem dX11_mix_1 : decode cX11_mix 1 = .ok (.iload_n 1, 1) := by decide +kernel
theorem dX11_mix_2 : decode cX11_mix 2 = .ok (.invokevirtual 186, 3) := by decide +kernel
theorem dX11_mix_5 : decode cX11_mix 5 = .ok (.ifCond .eq 41, 3) := by decide +kernel
theorem dX11_mix_8 : decode cX11_mix 8 = .ok (.aload_n 0, 1) := by decide +kernel
theorem dX11_mix_9 : decode cX11_mix 9 = .ok (.iload_n 3, 1) := by decide +kernel
theorem dX11_mix_10 : decode cX11_mix 10 = .ok (.invokevirtual 186, 3) := by decide +kernel
theorem dX11_mix_13 : decode cX11_mix 13 = .ok (.ifCond .eq 33, 3) := by decide +kernel
theorem dX11_mix_16 : decode cX11_mix 16 = .ok (.iload_n 1, 1) := by decide +kernel
theorem dX11_mix_17 : decode cX11_mix 17 = .ok (.iload_n 3, 1) := by decide +kernel
theorem dX11_mix_18 : decode cX11_mix 18 = .ok (.if_icmp .eq 28, 3) := by decide +kernel
theorem dX11_mix_21 : decode cX11_mix 21 = .ok (.iload_n 2, 1) := by decide +kernel
theorem dX11_mix_22 : decode cX11_mix 22 = .ok (.iconst 1, 1) := by decide +kernel
theorem dX11_mix_23 : decode cX11_mix 23 = .ok (.if_icmp .lt 23, 3) := by decide +kernel
theorem dX11_mix_26 : decode cX11_mix 26 = .ok (.iload 4, 2) := by decide +kernel
theorem dX11_mix_28 : decode cX11_mix 28 = .ok (.iconst 1, 1) := by decide +kernel
theorem dX11_mix_29 : decode cX11_mix 29 = .ok (.if_icmp .lt 17, 3) := by decide +kernel
theorem dX11_mix_32 : decode cX11_mix 32 = .ok (.aload_n 0, 1) := by decide +kernel
theorem dX11_mix_33 : decode cX11_mix 33 = .ok (.getfield 138, 3) := by decide +kernel
theorem dX11_mix_36 : decode cX11_mix 36 = .ok (.sipush 200, 3) := by decide +kernel
theorem dX11_mix_39 : decode cX11_mix 39 = .ok (.if_icmp .ge 7, 3) := by decide +kernel
theorem dX11_mix_42 : decode cX11_mix 42 = .ok (.iconst 1, 1) := by decide +kernel
theorem dX11_mix_43 : decode cX11_mix 43 = .ok (.goto 4, 3) := by decide +kernel
theorem dX11_mix_46 : decode cX11_mix 46 = .ok (.iconst 0, 1) := by decide +kernel
theorem dX11_mix_47 : decode cX11_mix 47 = .ok (.istore 5, 2) := by decide +kernel
theorem dX11_mix_49 : decode cX11_mix 49 = .ok (.iload 5, 2) := by decide +kernel
theorem dX11_mix_51 : decode cX11_mix 51 = .ok (.ifCond .eq 39, 3) := by decide +kernel
theorem dX11_mix_54 : decode cX11_mix 54 = .ok (.aload_n 0, 1) := by decide +kernel
theorem dX11_mix_55 : decode cX11_mix 55 = .ok (.getfield 49, 3) := by decide +kernel
theorem dX11_mix_58 : decode cX11_mix 58 = .ok (.iload_n 1, 1) := by decide +kernel
theorem dX11_mix_59 : decode cX11_mix 59 = .ok (.iaload, 1) := by decide +kernel
theorem dX11_mix_60 : decode cX11_mix 60 = .ok (.aload_n 0, 1) := by decide +kernel
theorem dX11_mix_61 : decode cX11_mix 61 = .ok (.getfield 49, 3) := by decide +kernel
theorem dX11_mix_64 : decode cX11_mix 64 = .ok (.iload_n 3, 1) := by decide +kernel
theorem dX11_mix_65 : decode cX11_mix 65 = .ok (.iaload, 1) := by decide +kernel
theorem dX11_mix_66 : decode cX11_mix 66 = .ok (.if_icmp .ne 24, 3) := by decide +kernel
theorem dX11_mix_69 : decode cX11_mix 69 = .ok (.iload_n 2, 1) := by decide +kernel
theorem dX11_mix_70 : decode cX11_mix 70 = .ok (.aload_n 0, 1) := by decide +kernel
theorem dX11_mix_71 : decode cX11_mix 71 = .ok (.getfield 52, 3) := by decide +kernel
theorem dX11_mix_74 : decode cX11_mix 74 = .ok (.iload_n 1, 1) := by decide +kernel
theorem dX11_mix_75 : decode cX11_mix 75 = .ok (.iaload, 1) := by decide +kernel
theorem dX11_mix_76 : decode cX11_mix 76 = .ok (.if_icmp .gt 14, 3) := by decide +kernel
theorem dX11_mix_79 : decode cX11_mix 79 = .ok (.iload 4, 2) := by decide +kernel
theorem dX11_mix_81 : decode cX11_mix 81 = .ok (.aload_n 0, 1) := by decide +kernel
theorem dX11_mix_82 : decode cX11_mix 82 = .ok (.getfield 52, 3) := by decide +kernel
theorem dX11_mix_85 : decode cX11_mix 85 = .ok (.iload_n 3, 1) := by decide +kernel
theorem dX11_mix_86 : decode cX11_mix 86 = .ok (.iaload, 1) := by decide +kernel
theorem dX11_mix_87 : decode cX11_mix 87 = .ok (.if_icmp .le 5, 3) := by decide +kernel
theorem dX11_mix_90 : decode cX11_mix 90 = .ok (.iconst (-1), 1) := by decide +kernel
theorem dX11_mix_91 : decode cX11_mix 91 = .ok (.ireturn, 1) := by decide +kernel
theorem dX11_mix_92 : decode cX11_mix 92 = .ok (.aload_n 0, 1) := by decide +kernel
theorem dX11_mix_93 : decode cX11_mix 93 = .ok (.iconst 2, 1) := by decide +kernel
theorem dX11_mix_94 : decode cX11_mix 94 = .ok (.aload_n 0, 1) := by decide +kernel
theorem dX11_mix_95 : decode cX11_mix 95 = .ok (.getfield 49, 3) := by decide +kernel
theorem dX11_mix_98 : decode cX11_mix 98 = .ok (.iload_n 1, 1) := by decide +kernel
theorem dX11_mix_99 : decode cX11_mix 99 = .ok (.iaload, 1) := by decide +kernel
theorem dX11_mix_100 : decode cX11_mix 100 = .ok (.invokevirtual 183, 3) := by decide +kernel
theorem dX11_mix_103 : decode cX11_mix 103 = .ok (.istore 6, 2) := by decide +kernel
theorem dX11_mix_105 : decode cX11_mix 105 = .ok (.aload_n 0, 1) := by decide +kernel
theorem dX11_mix_106 : decode cX11_mix 106 = .ok (.getfield 52, 3) := by decide +kernel
theorem dX11_mix_109 : decode cX11_mix 109 = .ok (.iload_n 1, 1) := by decide +kernel
theorem dX11_mix_110 : decode cX11_mix 110 = .ok (.dup2, 1) := by decide +kernel
theorem dX11_mix_111 : decode cX11_mix 111 = .ok (.iaload, 1) := by decide +kernel
theorem dX11_mix_112 : decode cX11_mix 112 = .ok (.iload_n 2, 1) := by decide +kernel
theorem dX11_mix_113 : decode cX11_mix 113 = .ok (.isub, 1) := by decide +kernel
theorem dX11_mix_114 : decode cX11_mix 114 = .ok (.iastore, 1) := by decide +kernel
theorem dX11_mix_115 : decode cX11_mix 115 = .ok (.aload_n 0, 1) := by decide +kernel
theorem dX11_mix_116 : decode cX11_mix 116 = .ok (.getfield 52, 3) := by decide +kernel
theorem dX11_mix_119 : decode cX11_mix 119 = .ok (.iload_n 3, 1) := by decide +kernel
theorem dX11_mix_120 : decode cX11_mix 120 = .ok (.dup2, 1) := by decide +kernel
theorem dX11_mix_121 : decode cX11_mix 121 = .ok (.iaload, 1) := by decide +kernel
theorem dX11_mix_122 : decode cX11_mix 122 = .ok (.iload 4, 2) := by decide +kernel
theorem dX11_mix_124 : decode cX11_mix 124 = .ok (.isub, 1) := by decide +kernel
theorem dX11_mix_125 : decode cX11_mix 125 = .ok (.iastore, 1) := by decide +kernel
theorem dX11_mix_126 : decode cX11_mix 126 = .ok (.aload_n 0, 1) := by decide +kernel
theorem dX11_mix_127 : decode cX11_mix 127 = .ok (.getfield 73, 3) := by decide +kernel
theorem dX11_mix_130 : decode cX11_mix 130 = .ok (.iload_n 1, 1) := by decide +kernel
theorem dX11_mix_131 : decode cX11_mix 131 = .ok (.dup2, 1) := by decide +kernel
theorem dX11_mix_132 : decode cX11_mix 132 = .ok (.iaload, 1) := by decide +kernel
theorem dX11_mix_133 : decode cX11_mix 133 = .ok (.iload_n 2, 1) := by decide +kernel
theorem dX11_mix_134 : decode cX11_mix 134 = .ok (.iadd, 1) := by decide +kernel
theorem dX11_mix_135 : decode cX11_mix 135 = .ok (.iastore, 1) := by decide +kernel
theorem dX11_mix_136 : decode cX11_mix 136 = .ok (.aload_n 0, 1) := by decide +kernel
theorem dX11_mix_137 : decode cX11_mix 137 = .ok (.getfield 73, 3) := by decide +kernel
theorem dX11_mix_140 : decode cX11_mix 140 = .ok (.iload_n 3, 1) := by decide +kernel
theorem dX11_mix_141 : decode cX11_mix 141 = .ok (.dup2, 1) := by decide +kernel
theorem dX11_mix_142 : decode cX11_mix 142 = .ok (.iaload, 1) := by decide +kernel
theorem dX11_mix_143 : decode cX11_mix 143 = .ok (.iload 4, 2) := by decide +kernel
theorem dX11_mix_145 : decode cX11_mix 145 = .ok (.iadd, 1) := by decide +kernel
theorem dX11_mix_146 : decode cX11_mix 146 = .ok (.iastore, 1) := by decide +kernel
theorem dX11_mix_147 : decode cX11_mix 147 = .ok (.aload_n 0, 1) := by decide +kernel
theorem dX11_mix_148 : decode cX11_mix 148 = .ok (.getfield 52, 3) := by decide +kernel
theorem dX11_mix_151 : decode cX11_mix 151 = .ok (.iload 6, 2) := by decide +kernel
theorem dX11_mix_153 : decode cX11_mix 153 = .ok (.iload_n 2, 1) := by decide +kernel
theorem dX11_mix_154 : decode cX11_mix 154 = .ok (.iload 4, 2) := by decide +kernel
theorem dX11_mix_156 : decode cX11_mix 156 = .ok (.iadd, 1) := by decide +kernel
theorem dX11_mix_157 : decode cX11_mix 157 = .ok (.iastore, 1) := by decide +kernel
theorem dX11_mix_158 : decode cX11_mix 158 = .ok (.aload_n 0, 1) := by decide +kernel
theorem dX11_mix_159 : decode cX11_mix 159 = .ok (.getfield 67, 3) := by decide +kernel
theorem dX11_mix_162 : decode cX11_mix 162 = .ok (.iload 6, 2) := by decide +kernel
theorem dX11_mix_164 : decode cX11_mix 164 = .ok (.iload_n 2, 1) := by decide +kernel
theorem dX11_mix_165 : decode cX11_mix 165 = .ok (.iload 4, 2) := by decide +kernel
theorem dX11_mix_167 : decode cX11_mix 167 = .ok (.iadd, 1) := by decide +kernel
theorem dX11_mix_168 : decode cX11_mix 168 = .ok (.iastore, 1) := by decide +kernel
theorem dX11_mix_169 : decode cX11_mix 169 = .ok (.aload_n 0, 1) := by decide +kernel
theorem dX11_mix_170 : decode cX11_mix 170 = .ok (.getfield 61, 3) := by decide +kernel
theorem dX11_mix_173 : decode cX11_mix 173 = .ok (.iload 6, 2) := by decide +kernel
theorem dX11_mix_175 : decode cX11_mix 175 = .ok (.iload_n 1, 1) := by decide +kernel
theorem dX11_mix_176 : decode cX11_mix 176 = .ok (.iastore, 1) := by decide +kernel
theorem dX11_mix_177 : decode cX11_mix 177 = .ok (.aload_n 0, 1) := by decide +kernel
theorem dX11_mix_178 : decode cX11_mix 178 = .ok (.getfield 64, 3) := by decide +kernel
theorem dX11_mix_181 : decode cX11_mix 181 = .ok (.iload 6, 2) := by decide +kernel
theorem dX11_mix_183 : decode cX11_mix 183 = .ok (.iload_n 3, 1) := by decide +kernel
theorem dX11_mix_184 : decode cX11_mix 184 = .ok (.iastore, 1) := by decide +kernel
theorem dX11_mix_185 : decode cX11_mix 185 = .ok (.iload 6, 2) := by decide +kernel
theorem dX11_mix_187 : decode cX11_mix 187 = .ok (.ireturn, 1) := by decide +kernel
theorem dX11_bag_0 : decode cX11_bag 0 = .ok (.aload_n 0, 1) := by decide +kernel
theorem dX11_bag_1 : decode cX11_bag 1 = .ok (.iload_n 1, 1) := by decide +kernel
theorem dX11_bag_2 : decode cX11_bag 2 = .ok (.invokevirtual 186, 3) := by decide +kernel
theorem dX11_bag_5 : decode cX11_bag 5 = .ok (.ifCond .eq 42, 3) := by decide +kernel
theorem dX11_bag_8 : decode cX11_bag 8 = .ok (.iload_n 2, 1) := by decide +kernel
theorem dX11_bag_9 : decode cX11_bag 9 = .ok (.iconst 1, 1) := by decide +kernel
theorem dX11_bag_10 : decode cX11_bag 10 = .ok (.if_icmp .lt 37, 3) := by decide +kernel
theorem dX11_bag_13 : decode cX11_bag 13 = .ok (.iload_n 2, 1) := by decide +kernel
theorem dX11_bag_14 : decode cX11_bag 14 = .ok (.aload_n 0, 1) := by decide +kernel
theorem dX11_bag_15 : decode cX11_bag 15 = .ok (.getfield 52, 3) := by decide +kernel
theorem dX11_bag_18 : decode cX11_bag 18 = .ok (.iload_n 1, 1) := by decide +kernel
theorem dX11_bag_19 : decode cX11_bag 19 = .ok (.iaload, 1) := by decide +kernel
theorem dX11_bag_20 : decode cX11_bag 20 = .ok (.if_icmp .gt 27, 3) := by decide +kernel
theorem dX11_bag_23 : decode cX11_bag 23 = .ok (.aload_n 0, 1) := by decide +kernel
theorem dX11_bag_24 : decode cX11_bag 24 = .ok (.getfield 190, 3) := by decide +kernel
theorem dX11_bag_27 : decode cX11_bag 27 = .ok (.sipush 200, 3) := by decide +kernel
theorem dX11_bag_30 : decode cX11_bag 30 = .ok (.if_icmp .eq 17, 3) := by decide +kernel
theorem dX11_bag_33 : decode cX11_bag 33 = .ok (.aload_n 0, 1) := by decide +kernel
theorem dX11_bag_34 : decode cX11_bag 34 = .ok (.iload_n 1, 1) := by decide +kernel
theorem dX11_bag_35 : decode cX11_bag 35 = .ok (.aload_n 0, 1) := by decide +kernel
theorem dX11_bag_36 : decode cX11_bag 36 = .ok (.getfield 141, 3) := by decide +kernel
theorem dX11_bag_39 : decode cX11_bag 39 = .ok (.invokevirtual 193, 3) := by decide +kernel
theorem dX11_bag_42 : decode cX11_bag 42 = .ok (.bipush 9, 2) := by decide +kernel
theorem dX11_bag_44 : decode cX11_bag 44 = .ok (.if_icmp .ne 5, 3) := by decide +kernel
theorem dX11_bag_47 : decode cX11_bag 47 = .ok (.iconst (-1), 1) := by decide +kernel
theorem dX11_bag_48 : decode cX11_bag 48 = .ok (.ireturn, 1) := by decide +kernel
theorem dX11_bag_49 : decode cX11_bag 49 = .ok (.aload_n 0, 1) := by decide +kernel
theorem dX11_bag_50 : decode cX11_bag 50 = .ok (.getfield 52, 3) := by decide +kernel
theorem dX11_bag_53 : decode cX11_bag 53 = .ok (.iload_n 1, 1) := by decide +kernel
theorem dX11_bag_54 : decode cX11_bag 54 = .ok (.dup2, 1) := by decide +kernel
theorem dX11_bag_55 : decode cX11_bag 55 = .ok (.iaload, 1) := by decide +kernel
theorem dX11_bag_56 : decode cX11_bag 56 = .ok (.iload_n 2, 1) := by decide +kernel
theorem dX11_bag_57 : decode cX11_bag 57 = .ok (.isub, 1) := by decide +kernel
theorem dX11_bag_58 : decode cX11_bag 58 = .ok (.iastore, 1) := by decide +kernel
theorem dX11_bag_59 : decode cX11_bag 59 = .ok (.aload_n 0, 1) := by decide +kernel
theorem dX11_bag_60 : decode cX11_bag 60 = .ok (.getfield 76, 3) := by decide +kernel
theorem dX11_bag_63 : decode cX11_bag 63 = .ok (.iload_n 1, 1) := by decide +kernel
theorem dX11_bag_64 : decode cX11_bag 64 = .ok (.dup2, 1) := by decide +kernel
theorem dX11_bag_65 : decode cX11_bag 65 = .ok (.iaload, 1) := by decide +kernel
theorem dX11_bag_66 : decode cX11_bag 66 = .ok (.iload_n 2, 1) := by decide +kernel
theorem dX11_bag_67 : decode cX11_bag 67 = .ok (.iadd, 1) := by decide +kernel
theorem dX11_bag_68 : decode cX11_bag 68 = .ok (.iastore, 1) := by decide +kernel
theorem dX11_bag_69 : decode cX11_bag 69 = .ok (.aload_n 0, 1) := by decide +kernel
theorem dX11_bag_70 : decode cX11_bag 70 = .ok (.dup, 1) := by decide +kernel
theorem dX11_bag_71 : decode cX11_bag 71 = .ok (.getfield 196, 3) := by decide +kernel
theorem dX11_bag_74 : decode cX11_bag 74 = .ok (.iconst 1, 1) := by decide +kernel
theorem dX11_bag_75 : decode cX11_bag 75 = .ok (.iadd, 1) := by decide +kernel
theorem dX11_bag_76 : decode cX11_bag 76 = .ok (.putfield 196, 3) := by decide +kernel
theorem dX11_bag_79 : decode cX11_bag 79 = .ok (.aload_n 0, 1) := by decide +kernel
theorem dX11_bag_80 : decode cX11_bag 80 = .ok (.getfield 97, 3) := by decide +kernel
theorem dX11_bag_83 : decode cX11_bag 83 = .ok (.aload_n 0, 1) := by decide +kernel
theorem dX11_bag_84 : decode cX11_bag 84 = .ok (.getfield 190, 3) := by decide +kernel
theorem dX11_bag_87 : decode cX11_bag 87 = .ok (.iload_n 1, 1) := by decide +kernel
theorem dX11_bag_88 : decode cX11_bag 88 = .ok (.iastore, 1) := by decide +kernel
theorem dX11_bag_89 : decode cX11_bag 89 = .ok (.aload_n 0, 1) := by decide +kernel
theorem dX11_bag_90 : decode cX11_bag 90 = .ok (.getfield 100, 3) := by decide +kernel
theorem dX11_bag_93 : decode cX11_bag 93 = .ok (.aload_n 0, 1) := by decide +kernel
theorem dX11_bag_94 : decode cX11_bag 94 = .ok (.getfield 190, 3) := by decide +kernel
theorem dX11_bag_97 : decode cX11_bag 97 = .ok (.iload_n 2, 1) := by decide +kernel
theorem dX11_bag_98 : decode cX11_bag 98 = .ok (.iastore, 1) := by decide +kernel
theorem dX11_bag_99 : decode cX11_bag 99 = .ok (.aload_n 0, 1) := by decide +kernel
theorem dX11_bag_100 : decode cX11_bag 100 = .ok (.getfield 103, 3) := by decide +kernel
theorem dX11_bag_103 : decode cX11_bag 103 = .ok (.aload_n 0, 1) := by decide +kernel
theorem dX11_bag_104 : decode cX11_bag 104 = .ok (.getfield 190, 3) := by decide +kernel
theorem dX11_bag_107 : decode cX11_bag 107 = .ok (.aload_n 0, 1) := by decide +kernel
theorem dX11_bag_108 : decode cX11_bag 108 = .ok (.getfield 196, 3) := by decide +kernel
theorem dX11_bag_111 : decode cX11_bag 111 = .ok (.iastore, 1) := by decide +kernel
theorem dX11_bag_112 : decode cX11_bag 112 = .ok (.aload_n 0, 1) := by decide +kernel
theorem dX11_bag_113 : decode cX11_bag 113 = .ok (.getfield 106, 3) := by decide +kernel
theorem dX11_bag_116 : decode cX11_bag 116 = .ok (.aload_n 0, 1) := by decide +kernel
theorem dX11_bag_117 : decode cX11_bag 117 = .ok (.getfield 190, 3) := by decide +kernel
theorem dX11_bag_120 : decode cX11_bag 120 = .ok (.iconst (-1), 1) := by decide +kernel
theorem dX11_bag_121 : decode cX11_bag 121 = .ok (.iastore, 1) := by decide +kernel
theorem dX11_bag_122 : decode cX11_bag 122 = .ok (.aload_n 0, 1) := by decide +kernel
theorem dX11_bag_123 : decode cX11_bag 123 = .ok (.dup, 1) := by decide +kernel
theorem dX11_bag_124 : decode cX11_bag 124 = .ok (.getfield 190, 3) := by decide +kernel
theorem dX11_bag_127 : decode cX11_bag 127 = .ok (.iconst 1, 1) := by decide +kernel
theorem dX11_bag_128 : decode cX11_bag 128 = .ok (.iadd, 1) := by decide +kernel
theorem dX11_bag_129 : decode cX11_bag 129 = .ok (.putfield 190, 3) := by decide +kernel
theorem dX11_bag_132 : decode cX11_bag 132 = .ok (.aload_n 0, 1) := by decide +kernel
theorem dX11_bag_133 : decode cX11_bag 133 = .ok (.getfield 190, 3) := by decide +kernel
theorem dX11_bag_136 : decode cX11_bag 136 = .ok (.iconst 1, 1) := by decide +kernel
theorem dX11_bag_137 : decode cX11_bag 137 = .ok (.isub, 1) := by decide +kernel
theorem dX11_bag_138 : decode cX11_bag 138 = .ok (.ireturn, 1) := by decide +kernel
theorem dX11_isBag_0 : decode cX11_isBag 0 = .ok (.iload_n 1, 1) := by decide +kernel
theorem dX11_isBag_1 : decode cX11_isBag 1 = .ok (.iconst 0, 1) := by decide +kernel
theorem dX11_isBag_2 : decode cX11_isBag 2 = .ok (.aload_n 0, 1) := by decide +kernel
theorem dX11_isBag_3 : decode cX11_isBag 3 = .ok (.getfield 190, 3) := by decide +kernel
theorem dX11_isBag_6 : decode cX11_isBag 6 = .ok (.iconst 1, 1) := by decide +kernel
theorem dX11_isBag_7 : decode cX11_isBag 7 = .ok (.isub, 1) := by decide +kernel
theorem dX11_isBag_8 : decode cX11_isBag 8 = .ok (.invokestatic 134, 3) := by decide +kernel
theorem dX11_isBag_11 : decode cX11_isBag 11 = .ok (.ireturn, 1) := by decide +kernel
theorem dX11_open_0 : decode cX11_open 0 = .ok (.aload_n 0, 1) := by decide +kernel
theorem dX11_open_1 : decode cX11_open 1 = .ok (.iload_n 1, 1) := by decide +kernel
theorem dX11_open_2 : decode cX11_open 2 = .ok (.invokevirtual 199, 3) := by decide +kernel
theorem dX11_open_5 : decode cX11_open 5 = .ok (.ifCond .eq 12, 3) := by decide +kernel
theorem dX11_open_8 : decode cX11_open 8 = .ok (.aload_n 0, 1) := by decide +kernel
theorem dX11_open_9 : decode cX11_open 9 = .ok (.getfield 103, 3) := by decide +kernel
theorem dX11_open_12 : decode cX11_open 12 = .ok (.iload_n 1, 1) := by decide +kernel
theorem dX11_open_13 : decode cX11_open 13 = .ok (.iaload, 1) := by decide +kernel
theorem dX11_open_14 : decode cX11_open 14 = .ok (.ifCond .ne 5, 3) := by decide +kernel
theorem dX11_open_17 : decode cX11_open 17 = .ok (.iconst 0, 1) := by decide +kernel
theorem dX11_open_18 : decode cX11_open 18 = .ok (.ireturn, 1) := by decide +kernel
theorem dX11_open_19 : decode cX11_open 19 = .ok (.aload_n 0, 1) := by decide +kernel
theorem dX11_open_20 : decode cX11_open 20 = .ok (.getfield 103, 3) := by decide +kernel
theorem dX11_open_23 : decode cX11_open 23 = .ok (.iload_n 1, 1) := by decide +kernel
theorem dX11_open_24 : decode cX11_open 24 = .ok (.iconst 0, 1) := by decide +kernel
theorem dX11_open_25 : decode cX11_open 25 = .ok (.iastore, 1) := by decide +kernel
theorem dX11_open_26 : decode cX11_open 26 = .ok (.iconst 1, 1) := by decide +kernel
theorem dX11_open_27 : decode cX11_open 27 = .ok (.ireturn, 1) := by decide +kernel
theorem dX11_seal_0 : decode cX11_seal 0 = .ok (.aload_n 0, 1) := by decide +kernel
theorem dX11_seal_1 : decode cX11_seal 1 = .ok (.iload_n 1, 1) := by decide +kernel
theorem dX11_seal_2 : decode cX11_seal 2 = .ok (.invokevirtual 199, 3) := by decide +kernel
theorem dX11_seal_5 : decode cX11_seal 5 = .ok (.ifCond .eq 41, 3) := by decide +kernel
theorem dX11_seal_8 : decode cX11_seal 8 = .ok (.aload_n 0, 1) := by decide +kernel
theorem dX11_seal_9 : decode cX11_seal 9 = .ok (.getfield 103, 3) := by decide +kernel
theorem dX11_seal_12 : decode cX11_seal 12 = .ok (.iload_n 1, 1) := by decide +kernel
theorem dX11_seal_13 : decode cX11_seal 13 = .ok (.iaload, 1) := by decide +kernel
theorem dX11_seal_14 : decode cX11_seal 14 = .ok (.ifCond .ne 32, 3) := by decide +kernel
theorem dX11_seal_17 : decode cX11_seal 17 = .ok (.aload_n 0, 1) := by decide +kernel
theorem dX11_seal_18 : decode cX11_seal 18 = .ok (.getfield 106, 3) := by decide +kernel
theorem dX11_seal_21 : decode cX11_seal 21 = .ok (.iload_n 1, 1) := by decide +kernel
theorem dX11_seal_22 : decode cX11_seal 22 = .ok (.iaload, 1) := by decide +kernel
theorem dX11_seal_23 : decode cX11_seal 23 = .ok (.iconst (-1), 1) := by decide +kernel
theorem dX11_seal_24 : decode cX11_seal 24 = .ok (.if_icmp .ne 22, 3) := by decide +kernel
theorem dX11_seal_27 : decode cX11_seal 27 = .ok (.aload_n 0, 1) := by decide +kernel
theorem dX11_seal_28 : decode cX11_seal 28 = .ok (.aload_n 0, 1) := by decide +kernel
theorem dX11_seal_29 : decode cX11_seal 29 = .ok (.getfield 97, 3) := by decide +kernel
theorem dX11_seal_32 : decode cX11_seal 32 = .ok (.iload_n 1, 1) := by decide +kernel
theorem dX11_seal_33 : decode cX11_seal 33 = .ok (.iaload, 1) := by decide +kernel
theorem dX11_seal_34 : decode cX11_seal 34 = .ok (.aload_n 0, 1) := by decide +kernel
theorem dX11_seal_35 : decode cX11_seal 35 = .ok (.getfield 141, 3) := by decide +kernel
theorem dX11_seal_38 : decode cX11_seal 38 = .ok (.invokevirtual 193, 3) := by decide +kernel
theorem dX11_seal_41 : decode cX11_seal 41 = .ok (.bipush 9, 2) := by decide +kernel
theorem dX11_seal_43 : decode cX11_seal 43 = .ok (.if_icmp .ne 5, 3) := by decide +kernel
theorem dX11_seal_46 : decode cX11_seal 46 = .ok (.iconst (-1), 1) := by decide +kernel
theorem dX11_seal_47 : decode cX11_seal 47 = .ok (.ireturn, 1) := by decide +kernel
theorem dX11_seal_48 : decode cX11_seal 48 = .ok (.aload_n 0, 1) := by decide +kernel
theorem dX11_seal_49 : decode cX11_seal 49 = .ok (.dup, 1) := by decide +kernel
theorem dX11_seal_50 : decode cX11_seal 50 = .ok (.getfield 196, 3) := by decide +kernel
theorem dX11_seal_53 : decode cX11_seal 53 = .ok (.iconst 1, 1) := by decide +kernel
theorem dX11_seal_54 : decode cX11_seal 54 = .ok (.iadd, 1) := by decide +kernel
theorem dX11_seal_55 : decode cX11_seal 55 = .ok (.putfield 196, 3) := by decide +kernel
theorem dX11_seal_58 : decode cX11_seal 58 = .ok (.aload_n 0, 1) := by decide +kernel
theorem dX11_seal_59 : decode cX11_seal 59 = .ok (.getfield 103, 3) := by decide +kernel
theorem dX11_seal_62 : decode cX11_seal 62 = .ok (.iload_n 1, 1) := by decide +kernel
theorem dX11_seal_63 : decode cX11_seal 63 = .ok (.aload_n 0, 1) := by decide +kernel
theorem dX11_seal_64 : decode cX11_seal 64 = .ok (.getfield 196, 3) := by decide +kernel
theorem dX11_seal_67 : decode cX11_seal 67 = .ok (.iastore, 1) := by decide +kernel
theorem dX11_seal_68 : decode cX11_seal 68 = .ok (.aload_n 0, 1) := by decide +kernel
theorem dX11_seal_69 : decode cX11_seal 69 = .ok (.getfield 196, 3) := by decide +kernel
theorem dX11_seal_72 : decode cX11_seal 72 = .ok (.ireturn, 1) := by decide +kernel
theorem dX11_sell_0 : decode cX11_sell 0 = .ok (.aload_n 0, 1) := by decide +kernel
theorem dX11_sell_1 : decode cX11_sell 1 = .ok (.iload_n 1, 1) := by decide +kernel
theorem dX11_sell_2 : decode cX11_sell 2 = .ok (.invokevirtual 199, 3) := by decide +kernel
theorem dX11_sell_5 : decode cX11_sell 5 = .ok (.ifCond .eq 32, 3) := by decide +kernel
theorem dX11_sell_8 : decode cX11_sell 8 = .ok (.iload_n 2, 1) := by decide +kernel
theorem dX11_sell_9 : decode cX11_sell 9 = .ok (.iconst 0, 1) := by decide +kernel
theorem dX11_sell_10 : decode cX11_sell 10 = .ok (.bipush 19, 2) := by decide +kernel
theorem dX11_sell_12 : decode cX11_sell 12 = .ok (.invokestatic 134, 3) := by decide +kernel
theorem dX11_sell_15 : decode cX11_sell 15 = .ok (.ifCond .eq 22, 3) := by decide +kernel
theorem dX11_sell_18 : decode cX11_sell 18 = .ok (.aload_n 0, 1) := by decide +kernel
theorem dX11_sell_19 : decode cX11_sell 19 = .ok (.getfield 103, 3) := by decide +kernel
theorem dX11_sell_22 : decode cX11_sell 22 = .ok (.iload_n 1, 1) := by decide +kernel
theorem dX11_sell_23 : decode cX11_sell 23 = .ok (.iaload, 1) := by decide +kernel
theorem dX11_sell_24 : decode cX11_sell 24 = .ok (.ifCond .eq 13, 3) := by decide +kernel
theorem dX11_sell_27 : decode cX11_sell 27 = .ok (.aload_n 0, 1) := by decide +kernel
theorem dX11_sell_28 : decode cX11_sell 28 = .ok (.getfield 106, 3) := by decide +kernel
theorem dX11_sell_31 : decode cX11_sell 31 = .ok (.iload_n 1, 1) := by decide +kernel
theorem dX11_sell_32 : decode cX11_sell 32 = .ok (.iaload, 1) := by decide +kernel
theorem dX11_sell_33 : decode cX11_sell 33 = .ok (.iconst (-1), 1) := by decide +kernel
theorem dX11_sell_34 : decode cX11_sell 34 = .ok (.if_icmp .eq 5, 3) := by decide +kernel
theorem dX11_sell_37 : decode cX11_sell 37 = .ok (.iconst 0, 1) := by decide +kernel
theorem dX11_sell_38 : decode cX11_sell 38 = .ok (.ireturn, 1) := by decide +kernel
theorem dX11_sell_39 : decode cX11_sell 39 = .ok (.aload_n 0, 1) := by decide +kernel
theorem dX11_sell_40 : decode cX11_sell 40 = .ok (.getfield 106, 3) := by decide +kernel
theorem dX11_sell_43 : decode cX11_sell 43 = .ok (.iload_n 1, 1) := by decide +kernel
theorem dX11_sell_44 : decode cX11_sell 44 = .ok (.iload_n 2, 1) := by decide +kernel
theorem dX11_sell_45 : decode cX11_sell 45 = .ok (.iastore, 1) := by decide +kernel
theorem dX11_sell_46 : decode cX11_sell 46 = .ok (.iconst 1, 1) := by decide +kernel
theorem dX11_sell_47 : decode cX11_sell 47 = .ok (.ireturn, 1) := by decide +kernel
end
section
/-! the heap of the system as functions: addresses, kind of each (0..11 objects, 12 rows of ints, 13.. rows of references), lengths, int fields, reference fields, int rows, reference rows -/
def jH : Type := List Nat × (Nat → Nat) × (Nat → Nat) × (Nat → Nat → Int32) × (Nat → Nat → Option Nat) × (Nat → Nat → Int32) × (Nat → Nat → Option Nat)
def h_L (h : jH) : List Nat := h.1
def h_K (h : jH) (a : Nat) : Nat := h.2.1 a
def h_N (h : jH) (a : Nat) : Nat := h.2.2.1 a
def h_I (h : jH) (f a : Nat) : Int32 := h.2.2.2.1 f a
def h_R (h : jH) (f a : Nat) : Option Nat := h.2.2.2.2.1 f a
def h_A (h : jH) (a i : Nat) : Int32 := h.2.2.2.2.2.1 a i
def h_B (h : jH) (a i : Nat) : Option Nat := h.2.2.2.2.2.2 a i
def u2 {α : Type} (g : Nat → Nat → α) (f a : Nat) (v : α) : Nat → Nat → α := fun f' a' => if f' = f then (if a' = a then v else g f' a') else g f' a'
def z2 {α : Type} (g : Nat → Nat → α) (a : Nat) (v : α) : Nat → Nat → α := fun f' a' => if a' = a then v else g f' a'
def r2 {α : Type} (g : Nat → Nat → α) (a : Nat) (v : α) : Nat → Nat → α := fun a' i => if a' = a then v else g a' i
def s_I (h : jH) (f a : Nat) (v : Int32) : jH := (h.1, h.2.1, h.2.2.1, u2 h.2.2.2.1 f a v, h.2.2.2.2.1, h.2.2.2.2.2.1, h.2.2.2.2.2.2)
def s_R (h : jH) (f a : Nat) (v : Option Nat) : jH := (h.1, h.2.1, h.2.2.1, h.2.2.2.1, u2 h.2.2.2.2.1 f a v, h.2.2.2.2.2.1, h.2.2.2.2.2.2)
def s_A (h : jH) (a i : Nat) (v : Int32) : jH := (h.1, h.2.1, h.2.2.1, h.2.2.2.1, h.2.2.2.2.1, u2 h.2.2.2.2.2.1 a i v, h.2.2.2.2.2.2)
def s_B (h : jH) (a i : Nat) (v : Option Nat) : jH := (h.1, h.2.1, h.2.2.1, h.2.2.2.1, h.2.2.2.2.1, h.2.2.2.2.2.1, u2 h.2.2.2.2.2.2 a i v)
def s_O (h : jH) (q k : Nat) : jH := (h.1 ++ [q], va_up h.2.1 q k, h.2.2.1, z2 h.2.2.2.1 q 0, z2 h.2.2.2.2.1 q none, h.2.2.2.2.2.1, h.2.2.2.2.2.2)
def s_N (h : jH) (q k n : Nat) : jH := (h.1 ++ [q], va_up h.2.1 q k, va_up h.2.2.1 q n, h.2.2.2.1, h.2.2.2.2.1, r2 h.2.2.2.2.2.1 q 0, r2 h.2.2.2.2.2.2 q none)
theorem g_LI (h : jH) (f0 a : Nat) (v : Int32) : h_L (s_I h f0 a v) = h_L h := rfl
theorem g_KI (h : jH) (f0 a : Nat) (v : Int32) (b : Nat) : h_K (s_I h f0 a v) b = h_K h b := rfl
theorem g_NI (h : jH) (f0 a : Nat) (v : Int32) (b : Nat) : h_N (s_I h f0 a v) b = h_N h b := rfl
theorem g_II (h : jH) (f0 a : Nat) (v : Int32) (f b : Nat) : h_I (s_I h f0 a v) f b = if f = f0 then (if b = a then v else h_I h f b) else h_I h f b := rfl
theorem g_RI (h : jH) (f0 a : Nat) (v : Int32) (f b : Nat) : h_R (s_I h f0 a v) f b = h_R h f b := rfl
theorem g_AI (h : jH) (f0 a : Nat) (v : Int32) (b j : Nat) : h_A (s_I h f0 a v) b j = h_A h b j := rfl
theorem g_BI (h : jH) (f0 a : Nat) (v : Int32) (b j : Nat) : h_B (s_I h f0 a v) b j = h_B h b j := rfl
theorem g_LR (h : jH) (f0 a : Nat) (v : Option Nat) : h_L (s_R h f0 a v) = h_L h := rfl
theorem g_KR (h : jH) (f0 a : Nat) (v : Option Nat) (b : Nat) : h_K (s_R h f0 a v) b = h_K h b := rfl
theorem g_NR (h : jH) (f0 a : Nat) (v : Option Nat) (b : Nat) : h_N (s_R h f0 a v) b = h_N h b := rfl
theorem g_IR (h : jH) (f0 a : Nat) (v : Option Nat) (f b : Nat) : h_I (s_R h f0 a v) f b = h_I h f b := rfl
theorem g_RR (h : jH) (f0 a : Nat) (v : Option Nat) (f b : Nat) : h_R (s_R h f0 a v) f b = if f = f0 then (if b = a then v else h_R h f b) else h_R h f b := rfl
theorem g_AR (h : jH) (f0 a : Nat) (v : Option Nat) (b j : Nat) : h_A (s_R h f0 a v) b j = h_A h b j := rfl
theorem g_BR (h : jH) (f0 a : Nat) (v : Option Nat) (b j : Nat) : h_B (s_R h f0 a v) b j = h_B h b j := rfl
theorem g_LA (h : jH) (a i : Nat) (v : Int32) : h_L (s_A h a i v) = h_L h := rfl
theorem g_KA (h : jH) (a i : Nat) (v : Int32) (b : Nat) : h_K (s_A h a i v) b = h_K h b := rfl
theorem g_NA (h : jH) (a i : Nat) (v : Int32) (b : Nat) : h_N (s_A h a i v) b = h_N h b := rfl
theorem g_IA (h : jH) (a i : Nat) (v : Int32) (f b : Nat) : h_I (s_A h a i v) f b = h_I h f b := rfl
theorem g_RA (h : jH) (a i : Nat) (v : Int32) (f b : Nat) : h_R (s_A h a i v) f b = h_R h f b := rfl
theorem g_AA (h : jH) (a i : Nat) (v : Int32) (b j : Nat) : h_A (s_A h a i v) b j = if b = a then (if j = i then v else h_A h b j) else h_A h b j := rfl
theorem g_BA (h : jH) (a i : Nat) (v : Int32) (b j : Nat) : h_B (s_A h a i v) b j = h_B h b j := rfl
theorem g_LB (h : jH) (a i : Nat) (v : Option Nat) : h_L (s_B h a i v) = h_L h := rfl
theorem g_KB (h : jH) (a i : Nat) (v : Option Nat) (b : Nat) : h_K (s_B h a i v) b = h_K h b := rfl
theorem g_NB (h : jH) (a i : Nat) (v : Option Nat) (b : Nat) : h_N (s_B h a i v) b = h_N h b := rfl
theorem g_IB (h : jH) (a i : Nat) (v : Option Nat) (f b : Nat) : h_I (s_B h a i v) f b = h_I h f b := rfl
theorem g_RB (h : jH) (a i : Nat) (v : Option Nat) (f b : Nat) : h_R (s_B h a i v) f b = h_R h f b := rfl
theorem g_AB (h : jH) (a i : Nat) (v : Option Nat) (b j : Nat) : h_A (s_B h a i v) b j = h_A h b j := rfl
theorem g_BB (h : jH) (a i : Nat) (v : Option Nat) (b j : Nat) : h_B (s_B h a i v) b j = if b = a then (if j = i then v else h_B h b j) else h_B h b j := rfl
theorem g_LO (h : jH) (q k : Nat) : h_L (s_O h q k) = h_L h ++ [q] := rfl
theorem g_KO (h : jH) (q k b : Nat) : h_K (s_O h q k) b = if b = q then k else h_K h b := rfl
theorem g_NO (h : jH) (q k b : Nat) : h_N (s_O h q k) b = h_N h b := rfl
theorem g_IO (h : jH) (q k f b : Nat) : h_I (s_O h q k) f b = if b = q then 0 else h_I h f b := rfl
theorem g_RO (h : jH) (q k f b : Nat) : h_R (s_O h q k) f b = if b = q then none else h_R h f b := rfl
theorem g_AO (h : jH) (q k b j : Nat) : h_A (s_O h q k) b j = h_A h b j := rfl
theorem g_BO (h : jH) (q k b j : Nat) : h_B (s_O h q k) b j = h_B h b j := rfl
theorem g_LN (h : jH) (q k n : Nat) : h_L (s_N h q k n) = h_L h ++ [q] := rfl
theorem g_KN (h : jH) (q k n b : Nat) : h_K (s_N h q k n) b = if b = q then k else h_K h b := rfl
theorem g_NN (h : jH) (q k n b : Nat) : h_N (s_N h q k n) b = if b = q then n else h_N h b := rfl
theorem g_IN (h : jH) (q k n f b : Nat) : h_I (s_N h q k n) f b = h_I h f b := rfl
theorem g_RN (h : jH) (q k n f b : Nat) : h_R (s_N h q k n) f b = h_R h f b := rfl
theorem g_AN (h : jH) (q k n b j : Nat) : h_A (s_N h q k n) b j = if b = q then 0 else h_A h b j := rfl
theorem g_BN (h : jH) (q k n b j : Nat) : h_B (s_N h q k n) b j = if b = q then none else h_B h b j := rfl
def nf (c : Nat) : Nat := ([1, 4, 12, 7, 1, 5, 20, 8, 4, 3, 5, 49] : List Nat).getD c 0
def rfb (c k : Nat) : Bool := (([[true], [true, false, false, false], [false, true, false, true, false, true, false, false, true, false, false, false], [false, false, false, false, false, true, true], [true], [true, false, false, false, false], [false, false, false, false, true, true, true, false, false, false, false, false, false, true, false, false, false, false, false, false], [true, true, true, true, true, true, false, false], [true, false, false, false], [true, false, false], [true, true, true, true, true], [false, false, false, false, false, false, false, false, false, true, true, true, true, true, true, true, true, true, true, true, true, true, true, true, true, true, true, true, true, true, true, true, true, true, true, true, true, true, true, true, true, true, true, true, true, true, true, true, true]] : List (List Bool)).getD c []).getD k false
def fv (c k : Nat) (h : jH) (a : Nat) : Value := if rfb c k = true then va_rf (h_R h (64 * c + k) a) else .int (h_I h (64 * c + k) a)
def fl (c : Nat) (h : jH) (a : Nat) : List Value := (List.range (nf c)).map (fun k => fv c k h a)
def pf (cy : Nat → ClassId) (h : jH) (a : Nat) : va_E := if h_K h a < 12 then .inr (h_K h a, fl (h_K h a) h a) else if h_K h a = 12 then .inl (cy 12, h_N h a, .inl (h_A h a)) else .inl (cy (h_K h a), h_N h a, .inr (.inr (.inr (.inr (h_B h a)))))
def pool (cy : Nat → ClassId) (h : jH) : va_W := [] ++ va_pl (h_L h) (pf cy h)
def h_ok (h : jH) (a k : Nat) : Prop := a ∈ h_L h ∧ h_K h a = k
theorem fl_len (c : Nat) (h : jH) (a : Nat) : (fl c h a).length = nf c := by simp [fl]
theorem fl_get {c k : Nat} (h : jH) (a : Nat) (hk : k < nf c) : (fl c h a)[k]? = some (fv c k h a) := by simp [fl, hk]
theorem fl_set {c k : Nat} {h h' : jH} {a : Nat} {v : Value} (hk : k < nf c) (h1 : fv c k h' a = v) (h2 : ∀ j, j < nf c → j ≠ k → fv c j h' a = fv c j h a) : (fl c h a).set k v = fl c h' a := by
  apply List.ext_getElem?
  intro j
  rw [List.getElem?_set, fl_len]
  by_cases hj : k = j
  · subst hj
    rw [if_pos rfl, if_pos hk, fl_get h' a hk, h1]
  · rw [if_neg hj]
    by_cases hl : j < nf c
    · rw [fl_get h a hl, fl_get h' a hl, h2 j hl (fun e => hj e.symm)]
    · rw [List.getElem?_eq_none (by rw [fl_len]; omega), List.getElem?_eq_none (by rw [fl_len]; omega)]
theorem fv_congr {c k : Nat} {h h' : jH} {a : Nat} (h1 : ∀ f, h_I h' f a = h_I h f a) (h2 : ∀ f, h_R h' f a = h_R h f a) : fv c k h' a = fv c k h a := by unfold fv; rw [h1, h2]
theorem fl_congr {c : Nat} {h h' : jH} {a : Nat} (h1 : ∀ f, h_I h' f a = h_I h f a) (h2 : ∀ f, h_R h' f a = h_R h f a) : fl c h' a = fl c h a := by
  unfold fl
  exact List.map_congr_left (fun k _ => fv_congr h1 h2)
theorem pf_obj {cy : Nat → ClassId} {h : jH} {a c : Nat} (hk : h_K h a = c) (hc : c < 12) : pf cy h a = .inr (c, fl c h a) := by
  subst hk
  unfold pf
  rw [if_pos hc]
theorem pf_int {cy : Nat → ClassId} {h : jH} {a : Nat} (hk : h_K h a = 12) : pf cy h a = .inl (cy 12, h_N h a, .inl (h_A h a)) := by
  unfold pf
  rw [if_neg (by rw [hk]; decide), if_pos hk]
theorem pf_ref {cy : Nat → ClassId} {h : jH} {a k : Nat} (hk : h_K h a = k) (hc : 12 < k) : pf cy h a = .inl (cy k, h_N h a, .inr (.inr (.inr (.inr (h_B h a))))) := by
  subst hk
  unfold pf
  rw [if_neg (by omega), if_neg (by omega)]
theorem pf_congr {cy : Nat → ClassId} {h h' : jH} {a : Nat} (h0 : h_K h' a = h_K h a) (h00 : h_N h' a = h_N h a) (h1 : ∀ f, h_I h' f a = h_I h f a) (h2 : ∀ f, h_R h' f a = h_R h f a) (h3 : ∀ j, h_A h' a j = h_A h a j) (h4 : ∀ j, h_B h' a j = h_B h a j) : pf cy h' a = pf cy h a := by
  unfold pf
  rw [h0, h00, fl_congr h1 h2, show h_A h' a = h_A h a from funext h3, show h_B h' a = h_B h a from funext h4]
theorem pool_get {cy : Nat → ClassId} {h : jH} {a : Nat} (hL : a ∈ h_L h) : ∃ k : Nat, (pool cy h)[k]? = some (a, pf cy h a) := va_pl_get hL
theorem pool_set {cy : Nat → ClassId} {h h' : jH} {A : Nat → Prop} {a k : Nat} {e : va_E} (hD : va_D A (pool cy h)) (hL : a ∈ h_L h) (hk : (pool cy h)[k]? = some (a, pf cy h a)) (hl : h_L h' = h_L h) (he : pf cy h' a = e) (ho : ∀ b, b ≠ a → pf cy h' b = pf cy h b) : (pool cy h).set k (a, e) = pool cy h' := by
  unfold pool
  rw [va_pl_set hD hL hk, hl]
  refine congrArg (fun l => [] ++ l) (va_pl_congr (fun b => ?_))
  by_cases hb : b = a
  · subst hb; rw [va_up_self, he]
  · rw [va_up_ne _ _ hb, ho b hb]
theorem pool_push {cy : Nat → ClassId} {h h' : jH} {q : Nat} {e : va_E} (hq : q ∉ h_L h) (hl : h_L h' = h_L h ++ [q]) (he : pf cy h' q = e) (ho : ∀ b, b ≠ q → pf cy h' b = pf cy h b) : pool cy h ++ [(q, e)] = pool cy h' := by
  unfold pool
  rw [List.append_assoc, va_pl_push hq, hl]
  refine congrArg (fun l => [] ++ l) (va_pl_congr (fun b => ?_))
  by_cases hb : b = q
  · subst hb; rw [va_up_self, he]
  · rw [va_up_ne _ _ hb, ho b hb]
theorem pool_fresh {cy : Nat → ClassId} {h : jH} {A : Nat → Prop} {q : Nat} {e : va_E} (hD : va_D A (pool cy h ++ [(q, e)])) : q ∉ h_L h := va_pl_fresh2 hD
theorem fid_ne {c j k : Nat} (h : j ≠ k) : ¬ (64 * c + j = 64 * c + k) := fun e => h (by omega)
theorem pset_I {cy : Nat → ClassId} {h : jH} {A : Nat → Prop} {a k c i : Nat} {v : Int32} (hD : va_D A (pool cy h)) (hL : h_ok h a c) (hc : c < 12) (hi : i < nf c) (hb : rfb c i = false) (hk : (pool cy h)[k]? = some (a, pf cy h a)) : (pool cy h).set k (a, .inr (c, (fl c h a).set i (.int v))) = pool cy (s_I h (64 * c + i) a v) := by
  refine pool_set hD hL.1 hk rfl ?_ (fun b hb => pf_congr rfl rfl (fun f => by rw [g_II]; simp [hb]) (fun _ => rfl) (fun _ => rfl) (fun _ => rfl))
  rw [pf_obj (c := c) (by exact hL.2) hc, fl_set (h' := s_I h (64 * c + i) a v) hi]
  · unfold fv; rw [hb, g_II]; simp
  · intro j hj hne
    unfold fv
    rw [g_RI, g_II, if_neg (fid_ne hne)]
theorem pset_R {cy : Nat → ClassId} {h : jH} {A : Nat → Prop} {a k c i : Nat} {v : Option Nat} (hD : va_D A (pool cy h)) (hL : h_ok h a c) (hc : c < 12) (hi : i < nf c) (hb : rfb c i = true) (hk : (pool cy h)[k]? = some (a, pf cy h a)) : (pool cy h).set k (a, .inr (c, (fl c h a).set i (va_rf v))) = pool cy (s_R h (64 * c + i) a v) := by
  refine pool_set hD hL.1 hk rfl ?_ (fun b hb => pf_congr rfl rfl (fun _ => rfl) (fun f => by rw [g_RR]; simp [hb]) (fun _ => rfl) (fun _ => rfl))
  rw [pf_obj (c := c) (by exact hL.2) hc, fl_set (h' := s_R h (64 * c + i) a v) hi]
  · unfold fv; rw [hb, g_RR]; simp
  · intro j hj hne
    unfold fv
    rw [g_RR, g_IR, if_neg (fid_ne hne)]
theorem pset_A {cy : Nat → ClassId} {h : jH} {A : Nat → Prop} {a k i : Nat} {v : Int32} (hD : va_D A (pool cy h)) (hL : h_ok h a 12) (hk : (pool cy h)[k]? = some (a, pf cy h a)) : (pool cy h).set k (a, .inl (cy 12, h_N h a, .inl (upd (h_A h a) i v))) = pool cy (s_A h a i v) := by
  refine pool_set hD hL.1 hk rfl ?_ (fun b hb => pf_congr rfl rfl (fun _ => rfl) (fun _ => rfl) (fun j => by rw [g_AA]; simp [hb]) (fun _ => rfl))
  rw [pf_int (show h_K (s_A h a i v) a = 12 from hL.2), show h_A (s_A h a i v) a = upd (h_A h a) i v from funext fun j => by rw [g_AA]; simp [upd], g_NA]
theorem pset_B {cy : Nat → ClassId} {h : jH} {A : Nat → Prop} {a k i c : Nat} {v : Option Nat} (hD : va_D A (pool cy h)) (hL : h_ok h a c) (hc : 12 < c) (hk : (pool cy h)[k]? = some (a, pf cy h a)) : (pool cy h).set k (a, .inl (cy c, h_N h a, .inr (.inr (.inr (.inr (va_up (h_B h a) i v)))))) = pool cy (s_B h a i v) := by
  refine pool_set hD hL.1 hk rfl ?_ (fun b hb => pf_congr rfl rfl (fun _ => rfl) (fun _ => rfl) (fun _ => rfl) (fun j => by rw [g_BB]; simp [hb]))
  rw [pf_ref (show h_K (s_B h a i v) a = c from hL.2) hc, show h_B (s_B h a i v) a = va_up (h_B h a) i v from funext fun j => by rw [g_BB]; simp [va_up], g_NB]
def jTys (cy : Nat → ClassId) : List (ClassId × FieldType) := [(cy 12, .int), (cy 13, .object "CleanSeed$Bag"), (cy 14, .object "CleanSeed$Field"), (cy 15, .object "CleanSeed$Lot"), (cy 16, .object "CleanSeed$Statute"), (cy 17, .object "CleanSeed$Telling")]

/-- the machine, in a method of the system, at pc, with these locals, this stack and this heap, comes to Q -/
def jW (p : Program) (l : Launch) (e : Env) (R : Room) (s : State) (m : MethodId) (args : Array Value) (below : List Frame) (meth : Method) (c : Code) (D : va_G) (cy : Nat → ClassId) (A : Nat → Prop) (nL cells slots : Nat) (Q : State → Prop) (h : jH) (lv : List (Nat × Value)) (pc : Nat) (st : List Value) : Prop :=
  ∀ (H : Heap) (locs : List Loc) (ls : Array Slot), va_P D vwCl (pool cy h) H → va_D A (pool cy h) → va_S A s.heap H locs → lv_has ls nL lv → W p l e R s m args below meth c H locs cells slots Q (F0 m pc ls st)
/-- what holds all through a method of class own with the bytes cc -/
def jC (p : Program) (s : State) (m : MethodId) (args : Array Value) (meth : Method) (c : Code) (D : va_G) (cy : Nat → ClassId) (A : Nat → Prop) (nL : Nat) (own : String) (cc : ByteArray) : Prop :=
  p.tables.exec = Jvm.exec ∧ c.code = cc ∧ c.maxLocals = nL ∧ s.vm.findClass own = some m.cls ∧ (∀ w ∈ wall, w.before args s = true) ∧ va_K D vwCl (jTys cy) s ∧ (∀ q, s.heap.size ≤ q → A q) ∧ meth.locks = false
def jg (lv : List (Nat × Value)) (i : Nat) : Option Value := (lv.find? (fun q => q.1 == i)).map Prod.snd
def js (lv : List (Nat × Value)) (i : Nat) (v : Value) : List (Nat × Value) := lv.filter (fun q => Nat.blt q.1 i && !(q.1 + 1 == i && q.2.category == 2)) ++ (i, v) :: lv.filter (fun q => Nat.blt i q.1)
def js2 (lv : List (Nat × Value)) (i : Nat) (v : Value) : List (Nat × Value) := lv.filter (fun q => Nat.blt q.1 i && !(q.1 + 1 == i && q.2.category == 2)) ++ (i, v) :: lv.filter (fun q => Nat.blt (i + 1) q.1)
theorem jg_has {ls : Array Slot} {nL i : Nat} {lv : List (Nat × Value)} {v : Value} (h : lv_has ls nL lv) (hg : jg lv i = some v) : ls[i]? = some (.val v) := by
  unfold jg at hg
  cases hf : lv.find? (fun q => q.1 == i) with
  | none => rw [hf] at hg; cases hg
  | some q =>
    rw [hf] at hg
    have h1 := List.find?_some hf
    have h2 := h.2.2 q (List.mem_of_find?_eq_some hf)
    have h3 : q.1 = i := by simpa using h1
    have h4 : q.2 = v := by simpa using hg
    rw [← h3, ← h4]; exact h2
theorem js_has {ls : Array Slot} {nL i : Nat} {lv lv' : List (Nat × Value)} {v : Value} (h : lv_has ls nL ((i, v) :: lv.filter (fun q => !(q.1 == i) && !(q.1 + 1 == i && q.2.category == 2)))) (e : js lv i v = lv') : lv_has ls nL lv' := by
  subst e
  refine ⟨h.1, h.2.1, fun q hq => h.2.2 q ?_⟩
  unfold js at hq
  simp only [List.mem_append, List.mem_cons, List.mem_filter, Nat.blt_eq, Bool.and_eq_true] at hq ⊢
  rcases hq with ⟨h1, h2, h3⟩ | rfl | ⟨h1, h2⟩
  · exact Or.inr ⟨h1, by simp; omega, h3⟩
  · exact Or.inl rfl
  · refine Or.inr ⟨h1, by simp; omega, ?_⟩
    have : (q.1 + 1 == i) = false := by simp; omega
    rw [this]; rfl
theorem js2_has {ls : Array Slot} {nL i : Nat} {lv lv' : List (Nat × Value)} {v : Value} (h : lv_has ls nL ((i, v) :: lv.filter (fun q => !(q.1 == i) && (!(q.1 == i + 1) && !(q.1 + 1 == i && q.2.category == 2))))) (e : js2 lv i v = lv') : lv_has ls nL lv' := by
  subst e
  refine ⟨h.1, h.2.1, fun q hq => h.2.2 q ?_⟩
  unfold js2 at hq
  simp only [List.mem_append, List.mem_cons, List.mem_filter, Nat.blt_eq, Bool.and_eq_true] at hq ⊢
  rcases hq with ⟨h1, h2, h3⟩ | rfl | ⟨h1, h2⟩
  · exact Or.inr ⟨h1, by simp; omega, by simp; omega, h3⟩
  · exact Or.inl rfl
  · refine Or.inr ⟨h1, by simp; omega, by simp; omega, ?_⟩
    have : (q.1 + 1 == i) = false := by simp; omega
    rw [this]; rfl
section JROWS
variable {p : Program} {l : Launch} {e : Env} {R : Room} {s : State} {m : MethodId} {args : Array Value} {below : List Frame} {meth : Method} {c : Code} {D : va_G} {cy : Nat → ClassId} {A : Nat → Prop} {nL cells slots : Nat} {Q : State → Prop} {own : String} {cc : ByteArray} {h : jH} {lv lv' : List (Nat × Value)} {pc : Nat} {st : List Value}
theorem j_iconst (C : jC p s m args meth c D cy A nL own cc) {n : Int} {v : Int32} (hd : decode cc pc = .ok (.iconst n, 1)) (hv : Int32.ofInt n = v) (k : jW p l e R s m args below meth c D cy A nL cells slots Q h lv (pc + 1) (.int v :: st)) : jW p l e R s m args below meth c D cy A nL cells slots Q h lv pc (st) := fun H locs ls hP hD hS hl => lv_iconst C.1 C.2.1 hd hv (k H locs ls hP hD hS hl)
theorem j_bipush (C : jC p s m args meth c D cy A nL own cc) {n : Int} {v : Int32} (hd : decode cc pc = .ok (.bipush n, 2)) (hv : (Int8.ofInt n).toInt32 = v) (k : jW p l e R s m args below meth c D cy A nL cells slots Q h lv (pc + 2) (.int v :: st)) : jW p l e R s m args below meth c D cy A nL cells slots Q h lv pc (st) := fun H locs ls hP hD hS hl => lv_bipush C.1 C.2.1 hd hv (k H locs ls hP hD hS hl)
theorem j_sipush (C : jC p s m args meth c D cy A nL own cc) {n : Int} {v : Int32} (hd : decode cc pc = .ok (.sipush n, 3)) (hv : (Int16.ofInt n).toInt32 = v) (k : jW p l e R s m args below meth c D cy A nL cells slots Q h lv (pc + 3) (.int v :: st)) : jW p l e R s m args below meth c D cy A nL cells slots Q h lv pc (st) := fun H locs ls hP hD hS hl => lv_sipush C.1 C.2.1 hd hv (k H locs ls hP hD hS hl)
theorem j_lconst (C : jC p s m args meth c D cy A nL own cc) {n : Fin 2} {v : Int64} (hd : decode cc pc = .ok (.lconst n, 1)) (hv : Int64.ofNat (n : Nat) = v) (k : jW p l e R s m args below meth c D cy A nL cells slots Q h lv (pc + 1) (.long v :: st)) : jW p l e R s m args below meth c D cy A nL cells slots Q h lv pc (st) := fun H locs ls hP hD hS hl => lv_lconst C.1 C.2.1 hd hv (k H locs ls hP hD hS hl)
theorem j_null (C : jC p s m args meth c D cy A nL own cc)  (hd : decode cc pc = .ok (.aconst_null, 1)) (k : jW p l e R s m args below meth c D cy A nL cells slots Q h lv (pc + 1) (.null :: st)) : jW p l e R s m args below meth c D cy A nL cells slots Q h lv pc (st) := fun H locs ls hP hD hS hl => lv_null C.1 C.2.1 hd (k H locs ls hP hD hS hl)
theorem j_ldc (C : jC p s m args meth c D cy A nL own cc) {i : Nat} {v : Int32} (hd : decode cc pc = .ok (.ldc i, 2)) (hv : Cond.constant own i v ∈ wall) (k : jW p l e R s m args below meth c D cy A nL cells slots Q h lv (pc + 2) (.int v :: st)) : jW p l e R s m args below meth c D cy A nL cells slots Q h lv pc (st) := fun H locs ls hP hD hS hl => lv_ldc C.1 C.2.1 C.2.2.2.1 (C.2.2.2.2.1 _ hv) hd (k H locs ls hP hD hS hl)
theorem j_ldc2 (C : jC p s m args meth c D cy A nL own cc) {i : Nat} {v : Int64} (hd : decode cc pc = .ok (.ldc2_w i, 3)) (hv : Cond.constantLong own i v ∈ wall) (k : jW p l e R s m args below meth c D cy A nL cells slots Q h lv (pc + 3) (.long v :: st)) : jW p l e R s m args below meth c D cy A nL cells slots Q h lv pc (st) := fun H locs ls hP hD hS hl => lv_ldc2 C.1 C.2.1 C.2.2.2.1 (C.2.2.2.2.1 _ hv) hd (k H locs ls hP hD hS hl)
theorem j_iload (C : jC p s m args meth c D cy A nL own cc) {i : Nat} {x : Int32} (hd : decode cc pc = .ok (.iload i, 2)) (hg : jg lv i = some (.int x)) (k : jW p l e R s m args below meth c D cy A nL cells slots Q h lv (pc + 2) (.int x :: st)) : jW p l e R s m args below meth c D cy A nL cells slots Q h lv pc (st) := fun H locs ls hP hD hS hl => lv_iload C.1 C.2.1 hd (jg_has hl hg) (k H locs ls hP hD hS hl)
theorem j_iload_n (C : jC p s m args meth c D cy A nL own cc) {n : Fin 4} {x : Int32} (hd : decode cc pc = .ok (.iload_n n, 1)) (hg : jg lv n.val = some (.int x)) (k : jW p l e R s m args below meth c D cy A nL cells slots Q h lv (pc + 1) (.int x :: st)) : jW p l e R s m args below meth c D cy A nL cells slots Q h lv pc (st) := fun H locs ls hP hD hS hl => lv_iload_n C.1 C.2.1 hd rfl (jg_has hl hg) (k H locs ls hP hD hS hl)
theorem j_aload (C : jC p s m args meth c D cy A nL own cc) {i : Nat} {x : Nat} (hd : decode cc pc = .ok (.aload i, 2)) (hg : jg lv i = some (.ref x)) (k : jW p l e R s m args below meth c D cy A nL cells slots Q h lv (pc + 2) (.ref x :: st)) : jW p l e R s m args below meth c D cy A nL cells slots Q h lv pc (st) := fun H locs ls hP hD hS hl => lv_aload C.1 C.2.1 hd (jg_has hl hg) (k H locs ls hP hD hS hl)
theorem j_aload_n (C : jC p s m args meth c D cy A nL own cc) {n : Fin 4} {x : Nat} (hd : decode cc pc = .ok (.aload_n n, 1)) (hg : jg lv n.val = some (.ref x)) (k : jW p l e R s m args below meth c D cy A nL cells slots Q h lv (pc + 1) (.ref x :: st)) : jW p l e R s m args below meth c D cy A nL cells slots Q h lv pc (st) := fun H locs ls hP hD hS hl => lv_aload_n C.1 C.2.1 hd rfl (jg_has hl hg) (k H locs ls hP hD hS hl)
theorem j_lload (C : jC p s m args meth c D cy A nL own cc) {i : Nat} {x : Int64} (hd : decode cc pc = .ok (.lload i, 2)) (hg : jg lv i = some (.long x)) (k : jW p l e R s m args below meth c D cy A nL cells slots Q h lv (pc + 2) (.long x :: st)) : jW p l e R s m args below meth c D cy A nL cells slots Q h lv pc (st) := fun H locs ls hP hD hS hl => lv_lload C.1 C.2.1 hd (jg_has hl hg) (k H locs ls hP hD hS hl)
theorem j_lload_n (C : jC p s m args meth c D cy A nL own cc) {n : Fin 4} {x : Int64} (hd : decode cc pc = .ok (.lload_n n, 1)) (hg : jg lv n.val = some (.long x)) (k : jW p l e R s m args below meth c D cy A nL cells slots Q h lv (pc + 1) (.long x :: st)) : jW p l e R s m args below meth c D cy A nL cells slots Q h lv pc (st) := fun H locs ls hP hD hS hl => lv_lload_n C.1 C.2.1 hd rfl (jg_has hl hg) (k H locs ls hP hD hS hl)
theorem j_aloadN (C : jC p s m args meth c D cy A nL own cc) {i : Nat} (hd : decode cc pc = .ok (.aload i, 2)) (hg : jg lv i = some .null) (k : jW p l e R s m args below meth c D cy A nL cells slots Q h lv (pc + 2) (.null :: st)) : jW p l e R s m args below meth c D cy A nL cells slots Q h lv pc (st) := fun H locs ls hP hD hS hl => lv_aloadN C.1 C.2.1 hd (jg_has hl hg) (k H locs ls hP hD hS hl)
theorem j_aload_nN (C : jC p s m args meth c D cy A nL own cc) {n : Fin 4} (hd : decode cc pc = .ok (.aload_n n, 1)) (hg : jg lv n.val = some .null) (k : jW p l e R s m args below meth c D cy A nL cells slots Q h lv (pc + 1) (.null :: st)) : jW p l e R s m args below meth c D cy A nL cells slots Q h lv pc (st) := fun H locs ls hP hD hS hl => lv_aload_nN C.1 C.2.1 hd rfl (jg_has hl hg) (k H locs ls hP hD hS hl)
theorem j_istore (C : jC p s m args meth c D cy A nL own cc) {i : Nat} {x : Int32} (hd : decode cc pc = .ok (.istore i, 2)) (hn : i < nL) (he : js lv i (.int x) = lv') (k : jW p l e R s m args below meth c D cy A nL cells slots Q h lv' (pc + 2) st) : jW p l e R s m args below meth c D cy A nL cells slots Q h lv pc (.int x :: st) := fun H locs ls hP hD hS hl => lv_istore C.1 C.2.1 hd hl hn rfl (fun ls2 hl2 => k H locs ls2 hP hD hS (js_has hl2 he))
theorem j_istore_n (C : jC p s m args meth c D cy A nL own cc) {n : Fin 4} {x : Int32} (hd : decode cc pc = .ok (.istore_n n, 1)) (hn : n.val < nL) (he : js lv n.val (.int x) = lv') (k : jW p l e R s m args below meth c D cy A nL cells slots Q h lv' (pc + 1) st) : jW p l e R s m args below meth c D cy A nL cells slots Q h lv pc (.int x :: st) := fun H locs ls hP hD hS hl => lv_istore_n C.1 C.2.1 hd rfl hl hn rfl (fun ls2 hl2 => k H locs ls2 hP hD hS (js_has hl2 he))
theorem j_astore (C : jC p s m args meth c D cy A nL own cc) {i : Nat} {x : Nat} (hd : decode cc pc = .ok (.astore i, 2)) (hn : i < nL) (he : js lv i (.ref x) = lv') (k : jW p l e R s m args below meth c D cy A nL cells slots Q h lv' (pc + 2) st) : jW p l e R s m args below meth c D cy A nL cells slots Q h lv pc (.ref x :: st) := fun H locs ls hP hD hS hl => lv_astore C.1 C.2.1 hd hl hn rfl (fun ls2 hl2 => k H locs ls2 hP hD hS (js_has hl2 he))
theorem j_astore_n (C : jC p s m args meth c D cy A nL own cc) {n : Fin 4} {x : Nat} (hd : decode cc pc = .ok (.astore_n n, 1)) (hn : n.val < nL) (he : js lv n.val (.ref x) = lv') (k : jW p l e R s m args below meth c D cy A nL cells slots Q h lv' (pc + 1) st) : jW p l e R s m args below meth c D cy A nL cells slots Q h lv pc (.ref x :: st) := fun H locs ls hP hD hS hl => lv_astore_n C.1 C.2.1 hd rfl hl hn rfl (fun ls2 hl2 => k H locs ls2 hP hD hS (js_has hl2 he))
theorem j_lstore (C : jC p s m args meth c D cy A nL own cc) {i : Nat} {x : Int64} (hd : decode cc pc = .ok (.lstore i, 2)) (hn : i + 1 < nL) (he : js2 lv i (.long x) = lv') (k : jW p l e R s m args below meth c D cy A nL cells slots Q h lv' (pc + 2) st) : jW p l e R s m args below meth c D cy A nL cells slots Q h lv pc (.long x :: st) := fun H locs ls hP hD hS hl => lv_lstore C.1 C.2.1 hd hl hn rfl (fun ls2 hl2 => k H locs ls2 hP hD hS (js2_has hl2 he))
theorem j_astoreN (C : jC p s m args meth c D cy A nL own cc) {i : Nat} (hd : decode cc pc = .ok (.astore i, 2)) (hn : i < nL) (he : js lv i .null = lv') (k : jW p l e R s m args below meth c D cy A nL cells slots Q h lv' (pc + 2) st) : jW p l e R s m args below meth c D cy A nL cells slots Q h lv pc (.null :: st) := fun H locs ls hP hD hS hl => lv_astoreN C.1 C.2.1 hd hl hn rfl (fun ls2 hl2 => k H locs ls2 hP hD hS (js_has hl2 he))
theorem j_astore_nN (C : jC p s m args meth c D cy A nL own cc) {n : Fin 4} (hd : decode cc pc = .ok (.astore_n n, 1)) (hn : n.val < nL) (he : js lv n.val .null = lv') (k : jW p l e R s m args below meth c D cy A nL cells slots Q h lv' (pc + 1) st) : jW p l e R s m args below meth c D cy A nL cells slots Q h lv pc (.null :: st) := fun H locs ls hP hD hS hl => lv_astore_nN C.1 C.2.1 hd rfl hl hn rfl (fun ls2 hl2 => k H locs ls2 hP hD hS (js_has hl2 he))
theorem j_iinc (C : jC p s m args meth c D cy A nL own cc) {i : Nat} {n : Int} {x v : Int32} (hd : decode cc pc = .ok (.iinc i n, 3)) (hg : jg lv i = some (.int x)) (hv : x + Int32.ofInt n = v) (hn : i < nL) (he : js lv i (.int v) = lv') (k : jW p l e R s m args below meth c D cy A nL cells slots Q h lv' (pc + 3) st) : jW p l e R s m args below meth c D cy A nL cells slots Q h lv pc st := fun H locs ls hP hD hS hl => by
  have hm : (i, Value.int x) ∈ lv := by
    unfold jg at hg
    cases hf : lv.find? (fun q => q.1 == i) with
    | none => rw [hf] at hg; cases hg
    | some q =>
      rw [hf] at hg
      have h1 := List.find?_some hf
      have h3 : q.1 = i := by simpa using h1
      have h4 : q.2 = .int x := by simpa using hg
      have h5 := List.mem_of_find?_eq_some hf
      rw [← h3, ← h4]; exact h5
  obtain ⟨kk, hkk⟩ := List.getElem?_of_mem hm
  exact lv_iinc C.1 C.2.1 hd hl hkk hv hn rfl (fun ls2 hl2 => k H locs ls2 hP hD hS (js_has hl2 he))
theorem j_iadd (C : jC p s m args meth c D cy A nL own cc) {x y : Int32} (hd : decode cc pc = .ok (.iadd, 1)) (k : jW p l e R s m args below meth c D cy A nL cells slots Q h lv (pc + 1) (.int (x + y) :: st)) : jW p l e R s m args below meth c D cy A nL cells slots Q h lv pc (.int y :: .int x :: st) := fun H locs ls hP hD hS hl => lv_iadd C.1 C.2.1 hd (k H locs ls hP hD hS hl)
theorem j_isub (C : jC p s m args meth c D cy A nL own cc) {x y : Int32} (hd : decode cc pc = .ok (.isub, 1)) (k : jW p l e R s m args below meth c D cy A nL cells slots Q h lv (pc + 1) (.int (x - y) :: st)) : jW p l e R s m args below meth c D cy A nL cells slots Q h lv pc (.int y :: .int x :: st) := fun H locs ls hP hD hS hl => lv_isub C.1 C.2.1 hd (k H locs ls hP hD hS hl)
theorem j_imul (C : jC p s m args meth c D cy A nL own cc) {x y : Int32} (hd : decode cc pc = .ok (.imul, 1)) (k : jW p l e R s m args below meth c D cy A nL cells slots Q h lv (pc + 1) (.int (x * y) :: st)) : jW p l e R s m args below meth c D cy A nL cells slots Q h lv pc (.int y :: .int x :: st) := fun H locs ls hP hD hS hl => lv_imul C.1 C.2.1 hd (k H locs ls hP hD hS hl)
theorem j_iand (C : jC p s m args meth c D cy A nL own cc) {x y : Int32} (hd : decode cc pc = .ok (.iand, 1)) (k : jW p l e R s m args below meth c D cy A nL cells slots Q h lv (pc + 1) (.int (x &&& y) :: st)) : jW p l e R s m args below meth c D cy A nL cells slots Q h lv pc (.int y :: .int x :: st) := fun H locs ls hP hD hS hl => lv_iand C.1 C.2.1 hd (k H locs ls hP hD hS hl)
theorem j_ior (C : jC p s m args meth c D cy A nL own cc) {x y : Int32} (hd : decode cc pc = .ok (.ior, 1)) (k : jW p l e R s m args below meth c D cy A nL cells slots Q h lv (pc + 1) (.int (x ||| y) :: st)) : jW p l e R s m args below meth c D cy A nL cells slots Q h lv pc (.int y :: .int x :: st) := fun H locs ls hP hD hS hl => lv_ior C.1 C.2.1 hd (k H locs ls hP hD hS hl)
theorem j_ladd (C : jC p s m args meth c D cy A nL own cc) {x y : Int64} (hd : decode cc pc = .ok (.ladd, 1)) (k : jW p l e R s m args below meth c D cy A nL cells slots Q h lv (pc + 1) (.long (x + y) :: st)) : jW p l e R s m args below meth c D cy A nL cells slots Q h lv pc (.long y :: .long x :: st) := fun H locs ls hP hD hS hl => lv_ladd C.1 C.2.1 hd (k H locs ls hP hD hS hl)
theorem j_lmul (C : jC p s m args meth c D cy A nL own cc) {x y : Int64} (hd : decode cc pc = .ok (.lmul, 1)) (k : jW p l e R s m args below meth c D cy A nL cells slots Q h lv (pc + 1) (.long (x * y) :: st)) : jW p l e R s m args below meth c D cy A nL cells slots Q h lv pc (.long y :: .long x :: st) := fun H locs ls hP hD hS hl => lv_lmul C.1 C.2.1 hd (k H locs ls hP hD hS hl)
theorem j_lor (C : jC p s m args meth c D cy A nL own cc) {x y : Int64} (hd : decode cc pc = .ok (.lor, 1)) (k : jW p l e R s m args below meth c D cy A nL cells slots Q h lv (pc + 1) (.long (x ||| y) :: st)) : jW p l e R s m args below meth c D cy A nL cells slots Q h lv pc (.long y :: .long x :: st) := fun H locs ls hP hD hS hl => lv_lor C.1 C.2.1 hd (k H locs ls hP hD hS hl)
theorem j_land (C : jC p s m args meth c D cy A nL own cc) {x y : Int64} (hd : decode cc pc = .ok (.land, 1)) (k : jW p l e R s m args below meth c D cy A nL cells slots Q h lv (pc + 1) (.long (x &&& y) :: st)) : jW p l e R s m args below meth c D cy A nL cells slots Q h lv pc (.long y :: .long x :: st) := fun H locs ls hP hD hS hl => lv_land C.1 C.2.1 hd (k H locs ls hP hD hS hl)
theorem j_irem (C : jC p s m args meth c D cy A nL own cc) {x y : Int32} (hd : decode cc pc = .ok (.irem, 1)) (hne : ¬ y = 0) (k : jW p l e R s m args below meth c D cy A nL cells slots Q h lv (pc + 1) (.int (x - x / y * y) :: st)) : jW p l e R s m args below meth c D cy A nL cells slots Q h lv pc (.int y :: .int x :: st) := fun H locs ls hP hD hS hl => lv_irem C.1 C.2.1 hd hne (k H locs ls hP hD hS hl)
theorem j_idiv (C : jC p s m args meth c D cy A nL own cc) {x y : Int32} (hd : decode cc pc = .ok (.idiv, 1)) (hne : ¬ y = 0) (k : jW p l e R s m args below meth c D cy A nL cells slots Q h lv (pc + 1) (.int (x / y) :: st)) : jW p l e R s m args below meth c D cy A nL cells slots Q h lv pc (.int y :: .int x :: st) := fun H locs ls hP hD hS hl => lv_idiv C.1 C.2.1 hd hne (k H locs ls hP hD hS hl)
theorem j_lrem (C : jC p s m args meth c D cy A nL own cc) {x y : Int64} (hd : decode cc pc = .ok (.lrem, 1)) (hne : ¬ y = 0) (k : jW p l e R s m args below meth c D cy A nL cells slots Q h lv (pc + 1) (.long (x - x / y * y) :: st)) : jW p l e R s m args below meth c D cy A nL cells slots Q h lv pc (.long y :: .long x :: st) := fun H locs ls hP hD hS hl => lv_lrem C.1 C.2.1 hd hne (k H locs ls hP hD hS hl)
theorem j_ishl (C : jC p s m args meth c D cy A nL own cc) {x y : Int32} (hd : decode cc pc = .ok (.ishl, 1)) (k : jW p l e R s m args below meth c D cy A nL cells slots Q h lv (pc + 1) (.int (x <<< (y &&& 31)) :: st)) : jW p l e R s m args below meth c D cy A nL cells slots Q h lv pc (.int y :: .int x :: st) := fun H locs ls hP hD hS hl => lv_ishl C.1 C.2.1 hd (k H locs ls hP hD hS hl)
theorem j_ishr (C : jC p s m args meth c D cy A nL own cc) {x y : Int32} (hd : decode cc pc = .ok (.ishr, 1)) (k : jW p l e R s m args below meth c D cy A nL cells slots Q h lv (pc + 1) (.int (x >>> (y &&& 31)) :: st)) : jW p l e R s m args below meth c D cy A nL cells slots Q h lv pc (.int y :: .int x :: st) := fun H locs ls hP hD hS hl => lv_ishr C.1 C.2.1 hd (k H locs ls hP hD hS hl)
theorem j_i2l (C : jC p s m args meth c D cy A nL own cc) {x : Int32} (hd : decode cc pc = .ok (.i2l, 1)) (k : jW p l e R s m args below meth c D cy A nL cells slots Q h lv (pc + 1) (.long x.toInt64 :: st)) : jW p l e R s m args below meth c D cy A nL cells slots Q h lv pc (.int x :: st) := fun H locs ls hP hD hS hl => lv_i2l C.1 C.2.1 hd rfl (k H locs ls hP hD hS hl)
theorem j_l2i (C : jC p s m args meth c D cy A nL own cc) {x : Int64} (hd : decode cc pc = .ok (.l2i, 1)) (k : jW p l e R s m args below meth c D cy A nL cells slots Q h lv (pc + 1) (.int x.toInt32 :: st)) : jW p l e R s m args below meth c D cy A nL cells slots Q h lv pc (.long x :: st) := fun H locs ls hP hD hS hl => lv_l2i C.1 C.2.1 hd rfl (k H locs ls hP hD hS hl)
theorem j_lushr (C : jC p s m args meth c D cy A nL own cc) {x : Int64} {y : Int32} (hd : decode cc pc = .ok (.lushr, 1)) (k : jW p l e R s m args below meth c D cy A nL cells slots Q h lv (pc + 1) (.long (x.toUInt64 >>> (y.toInt64.toUInt64 &&& Int64.toUInt64 63)).toInt64 :: st)) : jW p l e R s m args below meth c D cy A nL cells slots Q h lv pc (.int y :: .long x :: st) := fun H locs ls hP hD hS hl => lv_lushr C.1 C.2.1 hd rfl (k H locs ls hP hD hS hl)
theorem j_dup (C : jC p s m args meth c D cy A nL own cc) {v : Value} (hd : decode cc pc = .ok (.dup, 1)) (hv : v.category = 1) (k : jW p l e R s m args below meth c D cy A nL cells slots Q h lv (pc + 1) (v :: v :: st)) : jW p l e R s m args below meth c D cy A nL cells slots Q h lv pc (v :: st) := fun H locs ls hP hD hS hl => lv_dup C.1 C.2.1 hd hv (k H locs ls hP hD hS hl)
theorem j_pop (C : jC p s m args meth c D cy A nL own cc) {v : Value} (hd : decode cc pc = .ok (.pop, 1)) (hv : v.category = 1) (k : jW p l e R s m args below meth c D cy A nL cells slots Q h lv (pc + 1) (st)) : jW p l e R s m args below meth c D cy A nL cells slots Q h lv pc (v :: st) := fun H locs ls hP hD hS hl => lv_pop C.1 C.2.1 hd hv (k H locs ls hP hD hS hl)
theorem j_dup2 (C : jC p s m args meth c D cy A nL own cc) {v w : Value} (hd : decode cc pc = .ok (.dup2, 1)) (hv : v.category = 1) (hw : w.category = 1) (k : jW p l e R s m args below meth c D cy A nL cells slots Q h lv (pc + 1) (v :: w :: v :: w :: st)) : jW p l e R s m args below meth c D cy A nL cells slots Q h lv pc (v :: w :: st) := fun H locs ls hP hD hS hl => lv_dup2_11 C.1 C.2.1 hd hv hw (k H locs ls hP hD hS hl)
theorem j_goto (C : jC p s m args meth c D cy A nL own cc) {off : Int} {tgt : Nat} (hd : decode cc pc = .ok (.goto off, 3)) (ht : (pc : Int) + off = (tgt : Int)) (k : jW p l e R s m args below meth c D cy A nL cells slots Q h lv tgt st) : jW p l e R s m args below meth c D cy A nL cells slots Q h lv pc st := fun H locs ls hP hD hS hl => lv_goto C.1 C.2.1 hd ht (k H locs ls hP hD hS hl)
theorem j_if_eq (C : jC p s m args meth c D cy A nL own cc) {x : Int32} {off : Int} {tgt : Nat} (hd : decode cc pc = .ok (.ifCond .eq off, 3)) (ht : (pc : Int) + off = (tgt : Int)) (kt : x = 0 → jW p l e R s m args below meth c D cy A nL cells slots Q h lv tgt st) (kf : ¬ x = 0 → jW p l e R s m args below meth c D cy A nL cells slots Q h lv (pc + 3) st) : jW p l e R s m args below meth c D cy A nL cells slots Q h lv pc (.int x :: st) := fun H locs ls hP hD hS hl => lv_if_eq C.1 C.2.1 hd ht (fun z => kt z H locs ls hP hD hS hl) (fun z => kf z H locs ls hP hD hS hl)
theorem j_icmp_eq (C : jC p s m args meth c D cy A nL own cc) {x y : Int32} {off : Int} {tgt : Nat} (hd : decode cc pc = .ok (.if_icmp .eq off, 3)) (ht : (pc : Int) + off = (tgt : Int)) (kt : x = y → jW p l e R s m args below meth c D cy A nL cells slots Q h lv tgt st) (kf : ¬ x = y → jW p l e R s m args below meth c D cy A nL cells slots Q h lv (pc + 3) st) : jW p l e R s m args below meth c D cy A nL cells slots Q h lv pc (.int y :: .int x :: st) := fun H locs ls hP hD hS hl => lv_icmp_eq C.1 C.2.1 hd ht (fun z => kt z H locs ls hP hD hS hl) (fun z => kf z H locs ls hP hD hS hl)
theorem j_if_ne (C : jC p s m args meth c D cy A nL own cc) {x : Int32} {off : Int} {tgt : Nat} (hd : decode cc pc = .ok (.ifCond .ne off, 3)) (ht : (pc : Int) + off = (tgt : Int)) (kt : ¬ x = 0 → jW p l e R s m args below meth c D cy A nL cells slots Q h lv tgt st) (kf : x = 0 → jW p l e R s m args below meth c D cy A nL cells slots Q h lv (pc + 3) st) : jW p l e R s m args below meth c D cy A nL cells slots Q h lv pc (.int x :: st) := fun H locs ls hP hD hS hl => lv_if_ne C.1 C.2.1 hd ht (fun z => kt z H locs ls hP hD hS hl) (fun z => kf z H locs ls hP hD hS hl)
theorem j_icmp_ne (C : jC p s m args meth c D cy A nL own cc) {x y : Int32} {off : Int} {tgt : Nat} (hd : decode cc pc = .ok (.if_icmp .ne off, 3)) (ht : (pc : Int) + off = (tgt : Int)) (kt : ¬ x = y → jW p l e R s m args below meth c D cy A nL cells slots Q h lv tgt st) (kf : x = y → jW p l e R s m args below meth c D cy A nL cells slots Q h lv (pc + 3) st) : jW p l e R s m args below meth c D cy A nL cells slots Q h lv pc (.int y :: .int x :: st) := fun H locs ls hP hD hS hl => lv_icmp_ne C.1 C.2.1 hd ht (fun z => kt z H locs ls hP hD hS hl) (fun z => kf z H locs ls hP hD hS hl)
theorem j_if_lt (C : jC p s m args meth c D cy A nL own cc) {x : Int32} {off : Int} {tgt : Nat} (hd : decode cc pc = .ok (.ifCond .lt off, 3)) (ht : (pc : Int) + off = (tgt : Int)) (kt : x < 0 → jW p l e R s m args below meth c D cy A nL cells slots Q h lv tgt st) (kf : ¬ x < 0 → jW p l e R s m args below meth c D cy A nL cells slots Q h lv (pc + 3) st) : jW p l e R s m args below meth c D cy A nL cells slots Q h lv pc (.int x :: st) := fun H locs ls hP hD hS hl => lv_if_lt C.1 C.2.1 hd ht (fun z => kt z H locs ls hP hD hS hl) (fun z => kf z H locs ls hP hD hS hl)
theorem j_icmp_lt (C : jC p s m args meth c D cy A nL own cc) {x y : Int32} {off : Int} {tgt : Nat} (hd : decode cc pc = .ok (.if_icmp .lt off, 3)) (ht : (pc : Int) + off = (tgt : Int)) (kt : x < y → jW p l e R s m args below meth c D cy A nL cells slots Q h lv tgt st) (kf : ¬ x < y → jW p l e R s m args below meth c D cy A nL cells slots Q h lv (pc + 3) st) : jW p l e R s m args below meth c D cy A nL cells slots Q h lv pc (.int y :: .int x :: st) := fun H locs ls hP hD hS hl => lv_icmp_lt C.1 C.2.1 hd ht (fun z => kt z H locs ls hP hD hS hl) (fun z => kf z H locs ls hP hD hS hl)
theorem j_if_ge (C : jC p s m args meth c D cy A nL own cc) {x : Int32} {off : Int} {tgt : Nat} (hd : decode cc pc = .ok (.ifCond .ge off, 3)) (ht : (pc : Int) + off = (tgt : Int)) (kt : 0 ≤ x → jW p l e R s m args below meth c D cy A nL cells slots Q h lv tgt st) (kf : ¬ 0 ≤ x → jW p l e R s m args below meth c D cy A nL cells slots Q h lv (pc + 3) st) : jW p l e R s m args below meth c D cy A nL cells slots Q h lv pc (.int x :: st) := fun H locs ls hP hD hS hl => lv_if_ge C.1 C.2.1 hd ht (fun z => kt z H locs ls hP hD hS hl) (fun z => kf z H locs ls hP hD hS hl)
theorem j_icmp_ge (C : jC p s m args meth c D cy A nL own cc) {x y : Int32} {off : Int} {tgt : Nat} (hd : decode cc pc = .ok (.if_icmp .ge off, 3)) (ht : (pc : Int) + off = (tgt : Int)) (kt : y ≤ x → jW p l e R s m args below meth c D cy A nL cells slots Q h lv tgt st) (kf : ¬ y ≤ x → jW p l e R s m args below meth c D cy A nL cells slots Q h lv (pc + 3) st) : jW p l e R s m args below meth c D cy A nL cells slots Q h lv pc (.int y :: .int x :: st) := fun H locs ls hP hD hS hl => lv_icmp_ge C.1 C.2.1 hd ht (fun z => kt z H locs ls hP hD hS hl) (fun z => kf z H locs ls hP hD hS hl)
theorem j_if_gt (C : jC p s m args meth c D cy A nL own cc) {x : Int32} {off : Int} {tgt : Nat} (hd : decode cc pc = .ok (.ifCond .gt off, 3)) (ht : (pc : Int) + off = (tgt : Int)) (kt : 0 < x → jW p l e R s m args below meth c D cy A nL cells slots Q h lv tgt st) (kf : ¬ 0 < x → jW p l e R s m args below meth c D cy A nL cells slots Q h lv (pc + 3) st) : jW p l e R s m args below meth c D cy A nL cells slots Q h lv pc (.int x :: st) := fun H locs ls hP hD hS hl => lv_if_gt C.1 C.2.1 hd ht (fun z => kt z H locs ls hP hD hS hl) (fun z => kf z H locs ls hP hD hS hl)
theorem j_icmp_gt (C : jC p s m args meth c D cy A nL own cc) {x y : Int32} {off : Int} {tgt : Nat} (hd : decode cc pc = .ok (.if_icmp .gt off, 3)) (ht : (pc : Int) + off = (tgt : Int)) (kt : y < x → jW p l e R s m args below meth c D cy A nL cells slots Q h lv tgt st) (kf : ¬ y < x → jW p l e R s m args below meth c D cy A nL cells slots Q h lv (pc + 3) st) : jW p l e R s m args below meth c D cy A nL cells slots Q h lv pc (.int y :: .int x :: st) := fun H locs ls hP hD hS hl => lv_icmp_gt C.1 C.2.1 hd ht (fun z => kt z H locs ls hP hD hS hl) (fun z => kf z H locs ls hP hD hS hl)
theorem j_if_le (C : jC p s m args meth c D cy A nL own cc) {x : Int32} {off : Int} {tgt : Nat} (hd : decode cc pc = .ok (.ifCond .le off, 3)) (ht : (pc : Int) + off = (tgt : Int)) (kt : x ≤ 0 → jW p l e R s m args below meth c D cy A nL cells slots Q h lv tgt st) (kf : ¬ x ≤ 0 → jW p l e R s m args below meth c D cy A nL cells slots Q h lv (pc + 3) st) : jW p l e R s m args below meth c D cy A nL cells slots Q h lv pc (.int x :: st) := fun H locs ls hP hD hS hl => lv_if_le C.1 C.2.1 hd ht (fun z => kt z H locs ls hP hD hS hl) (fun z => kf z H locs ls hP hD hS hl)
theorem j_icmp_le (C : jC p s m args meth c D cy A nL own cc) {x y : Int32} {off : Int} {tgt : Nat} (hd : decode cc pc = .ok (.if_icmp .le off, 3)) (ht : (pc : Int) + off = (tgt : Int)) (kt : x ≤ y → jW p l e R s m args below meth c D cy A nL cells slots Q h lv tgt st) (kf : ¬ x ≤ y → jW p l e R s m args below meth c D cy A nL cells slots Q h lv (pc + 3) st) : jW p l e R s m args below meth c D cy A nL cells slots Q h lv pc (.int y :: .int x :: st) := fun H locs ls hP hD hS hl => lv_icmp_le C.1 C.2.1 hd ht (fun z => kt z H locs ls hP hD hS hl) (fun z => kf z H locs ls hP hD hS hl)
theorem j_acmp_eq (C : jC p s m args meth c D cy A nL own cc) {rx ry : Option Nat} {off : Int} {tgt : Nat} (hd : decode cc pc = .ok (.if_acmp .eq off, 3)) (ht : (pc : Int) + off = (tgt : Int)) (kt : rx = ry → jW p l e R s m args below meth c D cy A nL cells slots Q h lv tgt st) (kf : ¬ rx = ry → jW p l e R s m args below meth c D cy A nL cells slots Q h lv (pc + 3) st) : jW p l e R s m args below meth c D cy A nL cells slots Q h lv pc (va_rf ry :: va_rf rx :: st) := fun H locs ls hP hD hS hl => lv_acmp_eq C.1 C.2.1 hd ht (fun z => kt z H locs ls hP hD hS hl) (fun z => kf z H locs ls hP hD hS hl)
theorem j_acmp_ne (C : jC p s m args meth c D cy A nL own cc) {rx ry : Option Nat} {off : Int} {tgt : Nat} (hd : decode cc pc = .ok (.if_acmp .ne off, 3)) (ht : (pc : Int) + off = (tgt : Int)) (kt : ¬ rx = ry → jW p l e R s m args below meth c D cy A nL cells slots Q h lv tgt st) (kf : rx = ry → jW p l e R s m args below meth c D cy A nL cells slots Q h lv (pc + 3) st) : jW p l e R s m args below meth c D cy A nL cells slots Q h lv pc (va_rf ry :: va_rf rx :: st) := fun H locs ls hP hD hS hl => lv_acmp_ne C.1 C.2.1 hd ht (fun z => kt z H locs ls hP hD hS hl) (fun z => kf z H locs ls hP hD hS hl)
theorem j_ifnull (C : jC p s m args meth c D cy A nL own cc) {x : Nat} {off : Int} (hd : decode cc pc = .ok (.ifnull off, 3)) (k : jW p l e R s m args below meth c D cy A nL cells slots Q h lv (pc + 3) st) : jW p l e R s m args below meth c D cy A nL cells slots Q h lv pc (.ref x :: st) := fun H locs ls hP hD hS hl => lv_ifnull C.1 C.2.1 hd (k H locs ls hP hD hS hl)
theorem j_ifnullN (C : jC p s m args meth c D cy A nL own cc) {off : Int} {tgt : Nat} (hd : decode cc pc = .ok (.ifnull off, 3)) (ht : (pc : Int) + off = (tgt : Int)) (k : jW p l e R s m args below meth c D cy A nL cells slots Q h lv tgt st) : jW p l e R s m args below meth c D cy A nL cells slots Q h lv pc (.null :: st) := fun H locs ls hP hD hS hl => lv_ifnullN C.1 C.2.1 hd ht (k H locs ls hP hD hS hl)
theorem j_ifnonnull (C : jC p s m args meth c D cy A nL own cc) {x : Nat} {off : Int} {tgt : Nat} (hd : decode cc pc = .ok (.ifnonnull off, 3)) (ht : (pc : Int) + off = (tgt : Int)) (k : jW p l e R s m args below meth c D cy A nL cells slots Q h lv tgt st) : jW p l e R s m args below meth c D cy A nL cells slots Q h lv pc (.ref x :: st) := fun H locs ls hP hD hS hl => lv_ifnonnull C.1 C.2.1 hd ht (k H locs ls hP hD hS hl)
theorem j_ifnonnullN (C : jC p s m args meth c D cy A nL own cc) {off : Int} (hd : decode cc pc = .ok (.ifnonnull off, 3)) (k : jW p l e R s m args below meth c D cy A nL cells slots Q h lv (pc + 3) st) : jW p l e R s m args below meth c D cy A nL cells slots Q h lv pc (.null :: st) := fun H locs ls hP hD hS hl => lv_ifnonnullN C.1 C.2.1 hd (k H locs ls hP hD hS hl)
/-- a field link of own: pool number index is field k of class ci -/
def jF (own : String) (index ci k : Nat) (r : Bool) : Prop := ∃ (Cn : String) (T : u_T) (N : Nat), vwCl[ci]? = some (Cn, T, N) ∧ (∀ w ∈ u_ws Cn T N, w ∈ wall) ∧ Cond.fieldLink own index Cn (T k).2.1 (T k).2.2.1 ∈ wall ∧ (T k).1 = Cn ∧ k < N ∧ nf ci = N ∧ rfb ci k = r ∧ ci < 12
/-- .. that may be written -/
def jP (own : String) (index ci k : Nat) (r fin : Bool) (ty : FieldType) : Prop := ∃ (Cn : String) (T : u_T) (N : Nat) (ty0 : Nat → FieldType), vwCl[ci]? = some (Cn, T, N) ∧ (∀ w ∈ u_ws Cn T N, w ∈ wall) ∧ Cond.fieldLink own index Cn (T k).2.1 (T k).2.2.1 ∈ wall ∧ (T k).1 = Cn ∧ k < N ∧ nf ci = N ∧ rfb ci k = r ∧ ci < 12 ∧ (∀ k, k < N → parseFieldDescriptor (T k).2.2.1 = some (ty0 k)) ∧ (∀ a, a < N → ∀ b, b < N → a ≠ b → (T a).2.1 ≠ (T b).2.1) ∧ (T k).2.2.2 = fin ∧ parseFieldDescriptor (T k).2.2.1 = some ty ∧ (fin = true → (T k).1 = own)
theorem j_getI (C : jC p s m args meth c D cy A nL own cc) {index ci k a : Nat} (F : jF own index ci k false) (ok : h_ok h a ci) (hd : decode cc pc = .ok (.getfield index, 3)) (kk : jW p l e R s m args below meth c D cy A nL cells slots Q h lv (pc + 3) (.int (h_I h (64 * ci + k) a) :: st)) : jW p l e R s m args below meth c D cy A nL cells slots Q h lv pc (.ref a :: st) := fun H locs ls hP hD hS hl => by
  obtain ⟨Cn, T, N, h1, h2, h3, h4, h5, h6, h7, h8⟩ := F
  obtain ⟨q, hq⟩ := pool_get (cy := cy) ok.1
  rw [pf_obj ok.2 h8] at hq
  refine va_get C.1 C.2.1 C.2.2.2.2.1 h2 C.2.2.2.1 C.2.2.2.2.2.1 hP q hq h1 k h5 (C.2.2.2.2.1 _ h3) (fun x hx => by rw [h4] at hx; exact hx) (v := .int (h_I h (64 * ci + k) a)) ?_ hd (kk H locs ls hP hD hS hl)
  rw [fl_get h a (by omega)]
  unfold fv; rw [h7]; rfl
theorem j_getR (C : jC p s m args meth c D cy A nL own cc) {index ci k a : Nat} {v : Value} (F : jF own index ci k true) (ok : h_ok h a ci) (hv : va_rf (h_R h (64 * ci + k) a) = v) (hd : decode cc pc = .ok (.getfield index, 3)) (kk : jW p l e R s m args below meth c D cy A nL cells slots Q h lv (pc + 3) (v :: st)) : jW p l e R s m args below meth c D cy A nL cells slots Q h lv pc (.ref a :: st) := fun H locs ls hP hD hS hl => by
  obtain ⟨Cn, T, N, h1, h2, h3, h4, h5, h6, h7, h8⟩ := F
  obtain ⟨q, hq⟩ := pool_get (cy := cy) ok.1
  rw [pf_obj ok.2 h8] at hq
  refine va_get C.1 C.2.1 C.2.2.2.2.1 h2 C.2.2.2.1 C.2.2.2.2.2.1 hP q hq h1 k h5 (C.2.2.2.2.1 _ h3) (fun x hx => by rw [h4] at hx; exact hx) (v := v) ?_ hd (kk H locs ls hP hD hS hl)
  rw [fl_get h a (by omega), ← hv]
  unfold fv; rw [h7]; rfl
theorem j_putI (C : jC p s m args meth c D cy A nL own cc) {index ci k a : Nat} {v : Int32} {ty : FieldType} (F : jP own index ci k false false ty) (ok : h_ok h a ci) (hn : narrow ty (.int v) = .int v) (hfit : fits ty (.int v) = true) (hd : decode cc pc = .ok (.putfield index, 3)) (kk : jW p l e R s m args below meth c D cy A nL cells slots Q (s_I h (64 * ci + k) a v) lv (pc + 3) st) : jW p l e R s m args below meth c D cy A nL cells slots Q h lv pc (.int v :: .ref a :: st) := fun H locs ls hP hD hS hl => by
  obtain ⟨Cn, T, N, ty0, h1, h2, h3, h4, h5, h6, h7, h8, h9, h10, h11, h12, h13⟩ := F
  obtain ⟨q, hq⟩ := pool_get (cy := cy) ok.1
  have hq2 := hq
  rw [pf_obj ok.2 h8] at hq2
  refine va_put C.1 C.2.1 C.2.2.2.2.1 h2 ty0 h9 h10 C.2.2.2.1 C.2.2.2.2.2.1 hP hD hS q hq2 h1 k h5 (C.2.2.2.2.1 _ h3) (fun x hx => by rw [h4] at hx; exact hx) h11 (v := .int v) h12 hn hfit (by rw [fl_len]; omega) hd (fun H1 locs1 hP1 hD1 hS1 => ?_)
  rw [pset_I hD ok h8 (by omega) h7 hq] at hP1 hD1
  exact kk H1 locs1 ls hP1 hD1 hS1 hl
theorem j_putR (C : jC p s m args meth c D cy A nL own cc) {index ci k a : Nat} {v : Option Nat} {w : Value} {ty : FieldType} (F : jP own index ci k true false ty) (ok : h_ok h a ci) (hw : va_rf v = w) (hn : narrow ty w = w) (hfit : fits ty w = true) (hd : decode cc pc = .ok (.putfield index, 3)) (kk : jW p l e R s m args below meth c D cy A nL cells slots Q (s_R h (64 * ci + k) a v) lv (pc + 3) st) : jW p l e R s m args below meth c D cy A nL cells slots Q h lv pc (w :: .ref a :: st) := fun H locs ls hP hD hS hl => by
  obtain ⟨Cn, T, N, ty0, h1, h2, h3, h4, h5, h6, h7, h8, h9, h10, h11, h12, h13⟩ := F
  obtain ⟨q, hq⟩ := pool_get (cy := cy) ok.1
  have hq2 := hq
  rw [pf_obj ok.2 h8] at hq2
  refine va_put C.1 C.2.1 C.2.2.2.2.1 h2 ty0 h9 h10 C.2.2.2.1 C.2.2.2.2.2.1 hP hD hS q hq2 h1 k h5 (C.2.2.2.2.1 _ h3) (fun x hx => by rw [h4] at hx; exact hx) h11 (v := w) h12 hn hfit (by rw [fl_len]; omega) hd (fun H1 locs1 hP1 hD1 hS1 => ?_)
  rw [← hw, pset_R hD ok h8 (by omega) h7 hq] at hP1 hD1
  exact kk H1 locs1 ls hP1 hD1 hS1 hl
theorem j_putFI (C : jC p s m args meth c D cy A nL own cc) (hin : meth.name = "<init>") {index ci k a : Nat} {v : Int32} {ty : FieldType} (F : jP own index ci k false true ty) (ok : h_ok h a ci) (hn : narrow ty (.int v) = .int v) (hfit : fits ty (.int v) = true) (hd : decode cc pc = .ok (.putfield index, 3)) (kk : jW p l e R s m args below meth c D cy A nL cells slots Q (s_I h (64 * ci + k) a v) lv (pc + 3) st) : jW p l e R s m args below meth c D cy A nL cells slots Q h lv pc (.int v :: .ref a :: st) := fun H locs ls hP hD hS hl => by
  obtain ⟨Cn, T, N, ty0, h1, h2, h3, h4, h5, h6, h7, h8, h9, h10, h11, h12, h13⟩ := F
  obtain ⟨q, hq⟩ := pool_get (cy := cy) ok.1
  have hq2 := hq
  rw [pf_obj ok.2 h8] at hq2
  refine va_putF C.1 C.2.1 C.2.2.2.2.1 h2 ty0 h9 h10 C.2.2.2.1 C.2.2.2.2.2.1 hP hD hS q hq2 h1 k h5 (C.2.2.2.2.1 _ h3) (fun x hx => by rw [h4] at hx; exact hx) h11 hin (h13 rfl) (v := .int v) h12 hn hfit (by rw [fl_len]; omega) hd (fun H1 locs1 hP1 hD1 hS1 => ?_)
  rw [pset_I hD ok h8 (by omega) h7 hq] at hP1 hD1
  exact kk H1 locs1 ls hP1 hD1 hS1 hl
theorem j_putFR (C : jC p s m args meth c D cy A nL own cc) (hin : meth.name = "<init>") {index ci k a : Nat} {v : Option Nat} {w : Value} {ty : FieldType} (F : jP own index ci k true true ty) (ok : h_ok h a ci) (hw : va_rf v = w) (hn : narrow ty w = w) (hfit : fits ty w = true) (hd : decode cc pc = .ok (.putfield index, 3)) (kk : jW p l e R s m args below meth c D cy A nL cells slots Q (s_R h (64 * ci + k) a v) lv (pc + 3) st) : jW p l e R s m args below meth c D cy A nL cells slots Q h lv pc (w :: .ref a :: st) := fun H locs ls hP hD hS hl => by
  obtain ⟨Cn, T, N, ty0, h1, h2, h3, h4, h5, h6, h7, h8, h9, h10, h11, h12, h13⟩ := F
  obtain ⟨q, hq⟩ := pool_get (cy := cy) ok.1
  have hq2 := hq
  rw [pf_obj ok.2 h8] at hq2
  refine va_putF C.1 C.2.1 C.2.2.2.2.1 h2 ty0 h9 h10 C.2.2.2.1 C.2.2.2.2.2.1 hP hD hS q hq2 h1 k h5 (C.2.2.2.2.1 _ h3) (fun x hx => by rw [h4] at hx; exact hx) h11 hin (h13 rfl) (v := w) h12 hn hfit (by rw [fl_len]; omega) hd (fun H1 locs1 hP1 hD1 hS1 => ?_)
  rw [← hw, pset_R hD ok h8 (by omega) h7 hq] at hP1 hD1
  exact kk H1 locs1 ls hP1 hD1 hS1 hl
theorem j_iald (C : jC p s m args meth c D cy A nL own cc) {a : Nat} {i : Int32} (ok : h_ok h a 12) (hi : vp_in i (h_N h a)) (hd : decode cc pc = .ok (.iaload, 1)) (kk : jW p l e R s m args below meth c D cy A nL cells slots Q h lv (pc + 1) (.int (h_A h a i.toNatClampNeg) :: st)) : jW p l e R s m args below meth c D cy A nL cells slots Q h lv pc (.int i :: .ref a :: st) := fun H locs ls hP hD hS hl => by
  obtain ⟨q, hq⟩ := pool_get (cy := cy) ok.1
  rw [pf_int ok.2] at hq
  exact va_iald C.1 C.2.1 C.2.2.2.2.2.1 hP q 0 hq rfl hi hd (kk H locs ls hP hD hS hl)
theorem j_iast (C : jC p s m args meth c D cy A nL own cc) {a : Nat} {i x : Int32} (ok : h_ok h a 12) (hi : vp_in i (h_N h a)) (hd : decode cc pc = .ok (.iastore, 1)) (kk : jW p l e R s m args below meth c D cy A nL cells slots Q (s_A h a i.toNatClampNeg x) lv (pc + 1) st) : jW p l e R s m args below meth c D cy A nL cells slots Q h lv pc (.int x :: .int i :: .ref a :: st) := fun H locs ls hP hD hS hl => by
  obtain ⟨q, hq⟩ := pool_get (cy := cy) ok.1
  have hq2 := hq
  rw [pf_int ok.2] at hq2
  refine va_iast C.1 C.2.1 C.2.2.2.2.2.1 hP hD hS q 0 hq2 rfl hi hd (fun H1 locs1 hP1 hD1 hS1 => ?_)
  rw [pset_A hD ok hq] at hP1 hD1
  exact kk H1 locs1 ls hP1 hD1 hS1 hl
theorem j_aald (C : jC p s m args meth c D cy A nL own cc) {a k : Nat} {Cn : String} {i : Int32} {v : Value} (ok : h_ok h a k) (hk : 12 < k) (ht : (jTys cy)[k - 12]? = some (cy k, .object Cn)) (hi : vp_in i (h_N h a)) (hv : va_rf (h_B h a i.toNatClampNeg) = v) (hd : decode cc pc = .ok (.aaload, 1)) (kk : jW p l e R s m args below meth c D cy A nL cells slots Q h lv (pc + 1) (v :: st)) : jW p l e R s m args below meth c D cy A nL cells slots Q h lv pc (.int i :: .ref a :: st) := fun H locs ls hP hD hS hl => by
  obtain ⟨q, hq⟩ := pool_get (cy := cy) ok.1
  rw [pf_ref ok.2 hk] at hq
  refine va_aldq C.1 C.2.1 C.2.2.2.2.2.1 hP q (k - 12) hq ht hi hd ?_
  rw [hv]
  exact kk H locs ls hP hD hS hl
theorem j_aast (C : jC p s m args meth c D cy A nL own cc) {a b k ci : Nat} {r : vw_C} {i : Int32} (ok : h_ok h a k) (hk : 12 < k) (okb : h_ok h b ci) (hci : ci < 12) (hc : vwCl[ci]? = some r) (ht : (jTys cy)[k - 12]? = some (cy k, .object r.1)) (hi : vp_in i (h_N h a)) (hd : decode cc pc = .ok (.aastore, 1)) (kk : jW p l e R s m args below meth c D cy A nL cells slots Q (s_B h a i.toNatClampNeg (some b)) lv (pc + 1) st) : jW p l e R s m args below meth c D cy A nL cells slots Q h lv pc (.ref b :: .int i :: .ref a :: st) := fun H locs ls hP hD hS hl => by
  obtain ⟨q, hq⟩ := pool_get (cy := cy) ok.1
  obtain ⟨q2, hq2⟩ := pool_get (cy := cy) okb.1
  rw [pf_obj okb.2 hci] at hq2
  have hq1 := hq
  rw [pf_ref ok.2 hk] at hq1
  refine va_astq C.1 C.2.1 C.2.2.2.2.2.1 hP hD hS q (k - 12) q2 ci hq1 ht hq2 hc hi hd (fun H1 locs1 hP1 hD1 hS1 => ?_)
  rw [pset_B hD ok hk hq] at hP1 hD1
  exact kk H1 locs1 ls hP1 hD1 hS1 hl
end JROWS
end
section
theorem kC_max : Cond.code Lib.Math.max.name Lib.Math.max.code 2 (some .int) ∈ wall := wl_m 180 (by decide +kernel) rfl
theorem kC_min : Cond.code Lib.Math.min.name Lib.Math.min.code 2 (some .int) ∈ wall := wl_m 177 (by decide +kernel) rfl
/-! contracts: from any state whose heap is h, the method returns, 'post answer h\'' -/
def jPre (D : va_G) (cy : Nat → ClassId) (av : List Value) (h : jH) (sz : Nat) : Array Value → State → Prop := va_Pc av (fun U => U.heap.size = sz ∧ va_P D vwCl (pool cy h) U.heap ∧ va_K D vwCl (jTys cy) U ∧ va_D (fun _ => True) (pool cy h))
def jB (D : va_G) (cy : Nat → ClassId) (h : jH) (sz : Nat) (h' : jH) (t : State) : Prop := va_P D vwCl (pool cy h') t.heap ∧ va_K D vwCl (jTys cy) t ∧ va_D (va_A (pool cy h) sz) (pool cy h')
def jI (l : Launch) (D : va_G) (cy : Nat → ClassId) (y : MethodName) (cd : Cond) (rm : Room) (av : List Value) (h : jH) (post : Int32 → jH → Prop) : Prop := ∀ sz : Nat, Met l y (cd :: wall) rm (jPre D cy av h sz) (va_Qi post (jB D cy h sz) (va_A (pool cy h) sz)) rm.cells rm.slots (va_A (pool cy h) sz)
def jV (l : Launch) (D : va_G) (cy : Nat → ClassId) (y : MethodName) (cd : Cond) (rm : Room) (av : List Value) (h : jH) (post : jH → Prop) : Prop := ∀ sz : Nat, Met l y (cd :: wall) rm (jPre D cy av h sz) (va_Qv post (jB D cy h sz) (va_A (pool cy h) sz)) rm.cells rm.slots (va_A (pool cy h) sz)
def jQ (l : Launch) (D : va_G) (cy : Nat → ClassId) (y : MethodName) (cd : Cond) (rm : Room) (av : List Value) (h : jH) (post : Option Nat → jH → Prop) : Prop := ∀ sz : Nat, Met l y (cd :: wall) rm (jPre D cy av h sz) (va_Qq post (jB D cy h sz) (va_A (pool cy h) sz)) rm.cells rm.slots (va_A (pool cy h) sz)
/-- the room of a method d calls deep -/
def rmd (d mc ms : Nat) : Room := { frames := d, cells := mc, slots := ms, locals := 40 * d }
theorem jPre_blind {D : va_G} {cy : Nat → ClassId} {av : List Value} {h : jH} {sz : Nat} : FrameBlind (jPre D cy av h sz) := fun a U g mk q => by
  obtain ⟨q0, q1, qP, qK, qD⟩ := q
  exact ⟨q0, q1, qP, va_K.moved (u := U) (U := U.calling g mk a) (Vm.Alike.refl U.vm) qK, qD⟩
theorem j_ofI {l : Launch} {D : va_G} {cy : Nat → ClassId} {y : MethodName} {cc : ByteArray} {nL : Nat} {rm : Room} {av : List Value} {h : jH} {post : Int32 → jH → Prop} (hy : plainName y.cls = true) (hlen : (lg_sl av).length ≤ nL)
    (body : ∀ (p : Program) (e : Env) (s : State) (m : MethodId) (args : Array Value) (below : List Frame) (meth : Method) (c : Code) (Q : State → Prop), jC p s m args meth c D cy (va_A (pool cy h) s.heap.size) nL y.cls cc → meth.name = y.name → (∀ (r : Int32) (h' : jH) (cells slots : Nat) (lv : List (Nat × Value)) (pc : Nat), post r h' → cells ≤ rm.cells → slots ≤ rm.slots → decode cc pc = .ok (.ireturn, 1) → jW p l e rm s m args below meth c D cy (va_A (pool cy h) s.heap.size) nL cells slots Q h' lv pc [.int r]) → jW p l e rm s m args below meth c D cy (va_A (pool cy h) s.heap.size) nL 0 0 Q h (lv_args 0 av) 0 []) : jI l D cy y (.code y cc nL (some .int)) rm av h post := by
  intro sz
  refine Met.ofW (cc := cc) (maxL := nL) (ret := (some .int)) hy rfl ?_
  intro p e s m args below meth c s₁ B hml hv
  obtain ⟨rfl, hsz, hP, hK, hD0⟩ := hv
  subst hsz
  have C : jC p s m av.toArray meth c D cy (va_A (pool cy h) s.heap.size) nL y.cls cc := ⟨B.exec, B.bytes, hml, findClass_of_methodNamed B.named, fun w hw => atoms_spec (ws := .code y cc nL (some .int) :: wall) B.pre w (List.mem_cons_of_mem _ hw), hK, fun q h => Or.inr h, B.notSynchronized⟩
  have hlocks := B.notSynchronized
  rw [lg_entry_eq]
  refine body p e s m _ below meth c _ C (name_of_methodNamed B.named B.method).1 ?_ s.heap [] _ hP hD0.self va_S.rf (lv_entry av hlen)
  intro r h' cells slots lv pc hp hc hs hd H locs ls hP' hD' hS hl
  refine W.widen hc hs ?_
  exact W.iret C.1 C.2.1 B.returns (fun t ht hW => ⟨⟨r, h', rfl, hp, by rw [ht]; exact hP', va_K.moved hW.alike hK, hD'⟩, hS.F ht⟩) hS.2.2 hd
theorem j_ofZ {l : Launch} {D : va_G} {cy : Nat → ClassId} {y : MethodName} {cc : ByteArray} {nL : Nat} {rm : Room} {av : List Value} {h : jH} {post : Int32 → jH → Prop} (hy : plainName y.cls = true) (hlen : (lg_sl av).length ≤ nL)
    (body : ∀ (p : Program) (e : Env) (s : State) (m : MethodId) (args : Array Value) (below : List Frame) (meth : Method) (c : Code) (Q : State → Prop), jC p s m args meth c D cy (va_A (pool cy h) s.heap.size) nL y.cls cc → meth.name = y.name → (∀ (r : Int32) (h' : jH) (cells slots : Nat) (lv : List (Nat × Value)) (pc : Nat), post r h' → (r = 0 ∨ r = 1) → cells ≤ rm.cells → slots ≤ rm.slots → decode cc pc = .ok (.ireturn, 1) → jW p l e rm s m args below meth c D cy (va_A (pool cy h) s.heap.size) nL cells slots Q h' lv pc [.int r]) → jW p l e rm s m args below meth c D cy (va_A (pool cy h) s.heap.size) nL 0 0 Q h (lv_args 0 av) 0 []) : jI l D cy y (.code y cc nL (some .boolean)) rm av h post := by
  intro sz
  refine Met.ofW (cc := cc) (maxL := nL) (ret := (some .boolean)) hy rfl ?_
  intro p e s m args below meth c s₁ B hml hv
  obtain ⟨rfl, hsz, hP, hK, hD0⟩ := hv
  subst hsz
  have C : jC p s m av.toArray meth c D cy (va_A (pool cy h) s.heap.size) nL y.cls cc := ⟨B.exec, B.bytes, hml, findClass_of_methodNamed B.named, fun w hw => atoms_spec (ws := .code y cc nL (some .boolean) :: wall) B.pre w (List.mem_cons_of_mem _ hw), hK, fun q h => Or.inr h, B.notSynchronized⟩
  have hlocks := B.notSynchronized
  rw [lg_entry_eq]
  refine body p e s m _ below meth c _ C (name_of_methodNamed B.named B.method).1 ?_ s.heap [] _ hP hD0.self va_S.rf (lv_entry av hlen)
  intro r h' cells slots lv pc hp hz hc hs hd H locs ls hP' hD' hS hl
  refine W.widen hc hs ?_
  exact W.zret C.1 C.2.1 B.returns (by rcases hz with rfl | rfl <;> decide) (fun t ht hW => ⟨⟨r, h', rfl, hp, by rw [ht]; exact hP', va_K.moved hW.alike hK, hD'⟩, hS.F ht⟩) hS.2.2 hd
theorem j_ofV {l : Launch} {D : va_G} {cy : Nat → ClassId} {y : MethodName} {cc : ByteArray} {nL : Nat} {rm : Room} {av : List Value} {h : jH} {post : jH → Prop} (hy : plainName y.cls = true) (hlen : (lg_sl av).length ≤ nL)
    (body : ∀ (p : Program) (e : Env) (s : State) (m : MethodId) (args : Array Value) (below : List Frame) (meth : Method) (c : Code) (Q : State → Prop), jC p s m args meth c D cy (va_A (pool cy h) s.heap.size) nL y.cls cc → meth.name = y.name → (∀ (h' : jH) (cells slots : Nat) (lv : List (Nat × Value)) (pc : Nat), post h' → cells ≤ rm.cells → slots ≤ rm.slots → decode cc pc = .ok (.return_, 1) → jW p l e rm s m args below meth c D cy (va_A (pool cy h) s.heap.size) nL cells slots Q h' lv pc []) → jW p l e rm s m args below meth c D cy (va_A (pool cy h) s.heap.size) nL 0 0 Q h (lv_args 0 av) 0 []) : jV l D cy y (.code y cc nL none) rm av h post := by
  intro sz
  refine Met.ofW (cc := cc) (maxL := nL) (ret := none) hy rfl ?_
  intro p e s m args below meth c s₁ B hml hv
  obtain ⟨rfl, hsz, hP, hK, hD0⟩ := hv
  subst hsz
  have C : jC p s m av.toArray meth c D cy (va_A (pool cy h) s.heap.size) nL y.cls cc := ⟨B.exec, B.bytes, hml, findClass_of_methodNamed B.named, fun w hw => atoms_spec (ws := .code y cc nL none :: wall) B.pre w (List.mem_cons_of_mem _ hw), hK, fun q h => Or.inr h, B.notSynchronized⟩
  have hlocks := B.notSynchronized
  rw [lg_entry_eq]
  refine body p e s m _ below meth c _ C (name_of_methodNamed B.named B.method).1 ?_ s.heap [] _ hP hD0.self va_S.rf (lv_entry av hlen)
  intro h' cells slots lv pc hp hc hs hd H locs ls hP' hD' hS hl
  refine W.widen hc hs ?_
  exact W.vret C.1 C.2.1 B.returns (fun t ht hW => ⟨⟨h', rfl, hp, by rw [ht]; exact hP', va_K.moved hW.alike hK, hD'⟩, hS.F ht⟩) hS.2.2 hd
theorem j_ofQ {l : Launch} {D : va_G} {cy : Nat → ClassId} {y : MethodName} {cc : ByteArray} {nL : Nat} {rm : Room} {av : List Value} {h : jH} {post : Option Nat → jH → Prop} {Cn : String} (hy : plainName y.cls = true) (hlen : (lg_sl av).length ≤ nL)
    (body : ∀ (p : Program) (e : Env) (s : State) (m : MethodId) (args : Array Value) (below : List Frame) (meth : Method) (c : Code) (Q : State → Prop), jC p s m args meth c D cy (va_A (pool cy h) s.heap.size) nL y.cls cc → meth.name = y.name → (∀ (r : Option Nat) (h' : jH) (cells slots : Nat) (lv : List (Nat × Value)) (pc : Nat), post r h' → cells ≤ rm.cells → slots ≤ rm.slots → decode cc pc = .ok (.areturn, 1) → jW p l e rm s m args below meth c D cy (va_A (pool cy h) s.heap.size) nL cells slots Q h' lv pc [va_rf r]) → jW p l e rm s m args below meth c D cy (va_A (pool cy h) s.heap.size) nL 0 0 Q h (lv_args 0 av) 0 []) : jQ l D cy y (.code y cc nL (some (.object Cn))) rm av h post := by
  intro sz
  refine Met.ofW (cc := cc) (maxL := nL) (ret := (some (.object Cn))) hy rfl ?_
  intro p e s m args below meth c s₁ B hml hv
  obtain ⟨rfl, hsz, hP, hK, hD0⟩ := hv
  subst hsz
  have C : jC p s m av.toArray meth c D cy (va_A (pool cy h) s.heap.size) nL y.cls cc := ⟨B.exec, B.bytes, hml, findClass_of_methodNamed B.named, fun w hw => atoms_spec (ws := .code y cc nL (some (.object Cn)) :: wall) B.pre w (List.mem_cons_of_mem _ hw), hK, fun q h => Or.inr h, B.notSynchronized⟩
  have hlocks := B.notSynchronized
  rw [lg_entry_eq]
  refine body p e s m _ below meth c _ C (name_of_methodNamed B.named B.method).1 ?_ s.heap [] _ hP hD0.self va_S.rf (lv_entry av hlen)
  intro r h' cells slots lv pc hp hc hs hd H locs ls hP' hD' hS hl
  refine W.widen hc hs ?_
  exact W.aret C.1 C.2.1 B.returns (Or.inl ⟨_, rfl⟩) (va_rf_or r) (fun t ht hW => ⟨⟨r, h', rfl, hp, by rw [ht]; exact hP', va_K.moved hW.alike hK, hD'⟩, hS.F ht⟩) hS.2.2 hd
/-- a call's words: pool number index of own is the method y, with these bytes, n parameters -/
def jG (own : String) (index : Nat) (y : MethodName) (bytes : ByteArray) (nLc : Nat) (ret : Option FieldType) (n : Nat) : Prop := Cond.methodLink own index y ∈ wall ∧ Cond.initialized y.cls ∈ wall ∧ Cond.code y bytes nLc ret ∈ wall ∧ (y.cls ≠ "java/lang/invoke/MethodHandle" ∧ y.cls ≠ "java/lang/invoke/VarHandle" ∧ (parseMethodDescriptor y.desc).map (fun d => d.parameters.length) = some n)
def jGv (own : String) (index : Nat) (y : MethodName) (bytes : ByteArray) (nLc : Nat) (ret : Option FieldType) (n ci : Nat) : Prop := jG own index y bytes nLc ret n ∧ Cond.instanceMethod y ∈ wall ∧ Cond.selects y.cls y y ∈ wall ∧ ci < 12 ∧ ∃ r : vw_C, vwCl[ci]? = some r ∧ r.1 = y.cls
def jGs (own : String) (index : Nat) (y : MethodName) (bytes : ByteArray) (nLc : Nat) (ret : Option FieldType) (n : Nat) : Prop := jG own index y bytes nLc ret n ∧ Cond.static y ∈ wall
def jGi (own : String) (index : Nat) (y : MethodName) (bytes : ByteArray) (nLc : Nat) (n : Nat) : Prop := jG own index y bytes nLc none n ∧ Cond.instanceMethod y ∈ wall ∧ y.name = "<init>"
theorem wl_self : GoodIn wall wall := fun w hw => ⟨hw, wl_good hw⟩
theorem wl_cons {d : Cond} (h : d ∈ wall) : GoodIn wall (d :: wall) := fun w hw => by
  rcases List.mem_cons.mp hw with rfl | h2
  · exact ⟨h, wl_good h⟩
  · exact ⟨h2, wl_good h2⟩
section JCALLS
variable {p : Program} {l : Launch} {e : Env} {R : Room} {s : State} {m : MethodId} {args : Array Value} {below : List Frame} {meth : Method} {c : Code} {D : va_G} {cy : Nat → ClassId} {A : Nat → Prop} {nL cells slots : Nat} {Q : State → Prop} {own : String} {cc : ByteArray} {h : jH} {lv lv' : List (Nat × Value)} {pc : Nat} {st : List Value}
theorem jG_B (C : jC p s m args meth c D cy A nL own cc) {index : Nat} {y : MethodName} {bytes : ByteArray} {nLc n : Nat} {ret : Option FieldType} {rmc : Room} (G : jG own index y bytes nLc ret n) (hR : rmc.frames + 1 ≤ R.frames ∧ 8 + (nLc + 11) + rmc.locals ≤ R.locals) : CallB R s args own index y bytes nLc ret (.code y bytes nLc ret :: wall) rmc rmc.cells rmc.slots n :=
  callB_of (Ts := wall) n C.2.2.2.2.1 (wl_cons G.2.2.1) rfl rfl rfl (C.2.2.2.2.1 _ G.2.1) (C.2.2.2.2.1 _ G.1) G.2.2.2 hR
theorem j_in (C : jC p s m args meth c D cy A nL own cc) {H : Heap} {locs : List Loc} (hD : va_D A (pool cy h)) (hS : va_S A s.heap H locs) : ∀ q, va_A (pool cy h) H.size q → A q := fun q hq => by
  rcases hq with ⟨k, x, hk⟩ | hq
  · exact hD.2 k _ hk
  · exact C.2.2.2.2.2.2.1 q (Nat.le_trans hS.1 hq)
theorem j_pre (C : jC p s m args meth c D cy A nL own cc) {H : Heap} {locs : List Loc} {av : List Value} (hP : va_P D vwCl (pool cy h) H) (hD : va_D A (pool cy h)) : PreS s H (jPre D cy av h H.size) av := ⟨jPre_blind, fun U hU hW => ⟨rfl, by rw [hU], by rw [hU]; exact hP, va_K.moved hW.alike C.2.2.2.2.2.1, hD.weaken (fun _ _ _ _ => trivial)⟩⟩
theorem j_callVi (C : jC p s m args meth c D cy A nL own cc) {index b ci n nLc : Nat} {y : MethodName} {bytes : ByteArray} {ret : Option FieldType} {rmc : Room} {As rest : List Value} {post : Int32 → jH → Prop} (G : jGv own index y bytes nLc ret n ci) (M : jI l D cy y (.code y bytes nLc ret) rmc (.ref b :: As) h post) (ok : h_ok h b ci) (hn : As.length = n) (hst : st = As.reverse ++ .ref b :: rest) (hW : (rest.map fun v => v.category).sum ≤ 8) (hR : rmc.frames + 1 ≤ R.frames ∧ 8 + (nLc + 11) + rmc.locals ≤ R.locals) (hf : cells + rmc.cells ≤ R.cells ∧ slots + rmc.slots ≤ R.slots) (hd : decode cc pc = .ok (.invokevirtual index, 3)) (kk : ∀ (r : Int32) (h' : jH), post r h' → jW p l e R s m args below meth c D cy A nL (cells + rmc.cells) (slots + rmc.slots) Q h' lv (pc + 3) (.int r :: rest)) : jW p l e R s m args below meth c D cy A nL cells slots Q h lv pc st := fun H locs ls hP hD hS hl => by
  have hFc := j_in C hD hS
  obtain ⟨vr, hvr, hvn⟩ := G.2.2.2.2
  have hrecv : ∃ cellB : Cell, H[b]? = some cellB ∧ cellB.vm.isStatics = false ∧ s.vm.findClass y.cls = some cellB.cls := by
    obtain ⟨q, hq⟩ := pool_get (cy := cy) ok.1
    rw [pf_obj ok.2 G.2.2.2.1] at hq
    rw [← hvn]
    exact va_recv C.2.2.2.2.2.1 hP hvr hq
  refine va_calli (va_runV (As := As) (rest := rest) ⟨C.1, C.2.1, C.2.2.1, C.2.2.2.1, C.2.2.2.2.1⟩ (M H.size) ⟨jG_B C G.1 hR, C.2.2.2.2.1 _ G.2.1, C.2.2.2.2.1 _ G.2.2.1⟩ ⟨(j_pre C (locs := locs) (av := .ref b :: As) hP hD).1, hrecv, (j_pre C (locs := locs) hP hD).2⟩ rfl hn hl.1 hst (lv_room hW) hd hf) hS (fun q _ hq => hFc q hq) hFc (fun r u t H1 locs1 ht hvm hw hB hz1 hk1 hS1 => ?_)
  obtain ⟨hP1, hK1, hD1⟩ := hB
  rw [ht] at hP1
  exact kk r u hw H1 locs1 ls hP1 (hD1.weaken (fun _ q _ hq => hFc q.1 hq)) hS1 hl
theorem j_callVv (C : jC p s m args meth c D cy A nL own cc) {index b ci n nLc : Nat} {y : MethodName} {bytes : ByteArray} {ret : Option FieldType} {rmc : Room} {As rest : List Value} {post : jH → Prop} (G : jGv own index y bytes nLc ret n ci) (M : jV l D cy y (.code y bytes nLc ret) rmc (.ref b :: As) h post) (ok : h_ok h b ci) (hn : As.length = n) (hst : st = As.reverse ++ .ref b :: rest) (hW : (rest.map fun v => v.category).sum ≤ 8) (hR : rmc.frames + 1 ≤ R.frames ∧ 8 + (nLc + 11) + rmc.locals ≤ R.locals) (hf : cells + rmc.cells ≤ R.cells ∧ slots + rmc.slots ≤ R.slots) (hd : decode cc pc = .ok (.invokevirtual index, 3)) (kk : ∀ (h' : jH), post h' → jW p l e R s m args below meth c D cy A nL (cells + rmc.cells) (slots + rmc.slots) Q h' lv (pc + 3) (rest)) : jW p l e R s m args below meth c D cy A nL cells slots Q h lv pc st := fun H locs ls hP hD hS hl => by
  have hFc := j_in C hD hS
  obtain ⟨vr, hvr, hvn⟩ := G.2.2.2.2
  have hrecv : ∃ cellB : Cell, H[b]? = some cellB ∧ cellB.vm.isStatics = false ∧ s.vm.findClass y.cls = some cellB.cls := by
    obtain ⟨q, hq⟩ := pool_get (cy := cy) ok.1
    rw [pf_obj ok.2 G.2.2.2.1] at hq
    rw [← hvn]
    exact va_recv C.2.2.2.2.2.1 hP hvr hq
  refine va_callv (va_runV (As := As) (rest := rest) ⟨C.1, C.2.1, C.2.2.1, C.2.2.2.1, C.2.2.2.2.1⟩ (M H.size) ⟨jG_B C G.1 hR, C.2.2.2.2.1 _ G.2.1, C.2.2.2.2.1 _ G.2.2.1⟩ ⟨(j_pre C (locs := locs) (av := .ref b :: As) hP hD).1, hrecv, (j_pre C (locs := locs) hP hD).2⟩ rfl hn hl.1 hst (lv_room hW) hd hf) hS (fun q _ hq => hFc q hq) hFc (fun u t H1 locs1 ht hvm hw hB hz1 hk1 hS1 => ?_)
  obtain ⟨hP1, hK1, hD1⟩ := hB
  rw [ht] at hP1
  exact kk u hw H1 locs1 ls hP1 (hD1.weaken (fun _ q _ hq => hFc q.1 hq)) hS1 hl
theorem j_callVq (C : jC p s m args meth c D cy A nL own cc) {index b ci n nLc : Nat} {y : MethodName} {bytes : ByteArray} {ret : Option FieldType} {rmc : Room} {As rest : List Value} {post : Option Nat → jH → Prop} (G : jGv own index y bytes nLc ret n ci) (M : jQ l D cy y (.code y bytes nLc ret) rmc (.ref b :: As) h post) (ok : h_ok h b ci) (hn : As.length = n) (hst : st = As.reverse ++ .ref b :: rest) (hW : (rest.map fun v => v.category).sum ≤ 8) (hR : rmc.frames + 1 ≤ R.frames ∧ 8 + (nLc + 11) + rmc.locals ≤ R.locals) (hf : cells + rmc.cells ≤ R.cells ∧ slots + rmc.slots ≤ R.slots) (hd : decode cc pc = .ok (.invokevirtual index, 3)) (kk : ∀ (r : Option Nat) (h' : jH), post r h' → jW p l e R s m args below meth c D cy A nL (cells + rmc.cells) (slots + rmc.slots) Q h' lv (pc + 3) (va_rf r :: rest)) : jW p l e R s m args below meth c D cy A nL cells slots Q h lv pc st := fun H locs ls hP hD hS hl => by
  have hFc := j_in C hD hS
  obtain ⟨vr, hvr, hvn⟩ := G.2.2.2.2
  have hrecv : ∃ cellB : Cell, H[b]? = some cellB ∧ cellB.vm.isStatics = false ∧ s.vm.findClass y.cls = some cellB.cls := by
    obtain ⟨q, hq⟩ := pool_get (cy := cy) ok.1
    rw [pf_obj ok.2 G.2.2.2.1] at hq
    rw [← hvn]
    exact va_recv C.2.2.2.2.2.1 hP hvr hq
  refine va_callq (va_runV (As := As) (rest := rest) ⟨C.1, C.2.1, C.2.2.1, C.2.2.2.1, C.2.2.2.2.1⟩ (M H.size) ⟨jG_B C G.1 hR, C.2.2.2.2.1 _ G.2.1, C.2.2.2.2.1 _ G.2.2.1⟩ ⟨(j_pre C (locs := locs) (av := .ref b :: As) hP hD).1, hrecv, (j_pre C (locs := locs) hP hD).2⟩ rfl hn hl.1 hst (lv_room hW) hd hf) hS (fun q _ hq => hFc q hq) hFc (fun r u t H1 locs1 ht hvm hw hB hz1 hk1 hS1 => ?_)
  obtain ⟨hP1, hK1, hD1⟩ := hB
  rw [ht] at hP1
  exact kk r u hw H1 locs1 ls hP1 (hD1.weaken (fun _ q _ hq => hFc q.1 hq)) hS1 hl
theorem j_callSi (C : jC p s m args meth c D cy A nL own cc) {index n nLc : Nat} {y : MethodName} {bytes : ByteArray} {ret : Option FieldType} {rmc : Room} {As rest : List Value} {post : Int32 → jH → Prop} (G : jGs own index y bytes nLc ret n) (M : jI l D cy y (.code y bytes nLc ret) rmc As h post) (hn : As.length = n) (hst : st = As.reverse ++ rest) (hW : (rest.map fun v => v.category).sum ≤ 8) (hR : rmc.frames + 1 ≤ R.frames ∧ 8 + (nLc + 11) + rmc.locals ≤ R.locals) (hf : cells + rmc.cells ≤ R.cells ∧ slots + rmc.slots ≤ R.slots) (hd : decode cc pc = .ok (.invokestatic index, 3)) (kk : ∀ (r : Int32) (h' : jH), post r h' → jW p l e R s m args below meth c D cy A nL (cells + rmc.cells) (slots + rmc.slots) Q h' lv (pc + 3) (.int r :: rest)) : jW p l e R s m args below meth c D cy A nL cells slots Q h lv pc st := fun H locs ls hP hD hS hl => by
  have hFc := j_in C hD hS
  refine va_calli (va_runS (As := As) (rest := rest) ⟨C.1, C.2.1, C.2.2.1, C.2.2.2.1, C.2.2.2.2.1⟩ (M H.size) ⟨jG_B C G.1 hR, C.2.2.2.2.1 _ G.2⟩ (j_pre C (locs := locs) hP hD) rfl hn hl.1 hst (lv_room hW) hd hf) hS (fun q _ hq => hFc q hq) hFc (fun r u t H1 locs1 ht hvm hw hB hz1 hk1 hS1 => ?_)
  obtain ⟨hP1, hK1, hD1⟩ := hB
  rw [ht] at hP1
  exact kk r u hw H1 locs1 ls hP1 (hD1.weaken (fun _ q _ hq => hFc q.1 hq)) hS1 hl
theorem j_callSv (C : jC p s m args meth c D cy A nL own cc) {index n nLc : Nat} {y : MethodName} {bytes : ByteArray} {ret : Option FieldType} {rmc : Room} {As rest : List Value} {post : jH → Prop} (G : jGs own index y bytes nLc ret n) (M : jV l D cy y (.code y bytes nLc ret) rmc As h post) (hn : As.length = n) (hst : st = As.reverse ++ rest) (hW : (rest.map fun v => v.category).sum ≤ 8) (hR : rmc.frames + 1 ≤ R.frames ∧ 8 + (nLc + 11) + rmc.locals ≤ R.locals) (hf : cells + rmc.cells ≤ R.cells ∧ slots + rmc.slots ≤ R.slots) (hd : decode cc pc = .ok (.invokestatic index, 3)) (kk : ∀ (h' : jH), post h' → jW p l e R s m args below meth c D cy A nL (cells + rmc.cells) (slots + rmc.slots) Q h' lv (pc + 3) (rest)) : jW p l e R s m args below meth c D cy A nL cells slots Q h lv pc st := fun H locs ls hP hD hS hl => by
  have hFc := j_in C hD hS
  refine va_callv (va_runS (As := As) (rest := rest) ⟨C.1, C.2.1, C.2.2.1, C.2.2.2.1, C.2.2.2.2.1⟩ (M H.size) ⟨jG_B C G.1 hR, C.2.2.2.2.1 _ G.2⟩ (j_pre C (locs := locs) hP hD) rfl hn hl.1 hst (lv_room hW) hd hf) hS (fun q _ hq => hFc q hq) hFc (fun u t H1 locs1 ht hvm hw hB hz1 hk1 hS1 => ?_)
  obtain ⟨hP1, hK1, hD1⟩ := hB
  rw [ht] at hP1
  exact kk u hw H1 locs1 ls hP1 (hD1.weaken (fun _ q _ hq => hFc q.1 hq)) hS1 hl
theorem j_callSq (C : jC p s m args meth c D cy A nL own cc) {index n nLc : Nat} {y : MethodName} {bytes : ByteArray} {ret : Option FieldType} {rmc : Room} {As rest : List Value} {post : Option Nat → jH → Prop} (G : jGs own index y bytes nLc ret n) (M : jQ l D cy y (.code y bytes nLc ret) rmc As h post) (hn : As.length = n) (hst : st = As.reverse ++ rest) (hW : (rest.map fun v => v.category).sum ≤ 8) (hR : rmc.frames + 1 ≤ R.frames ∧ 8 + (nLc + 11) + rmc.locals ≤ R.locals) (hf : cells + rmc.cells ≤ R.cells ∧ slots + rmc.slots ≤ R.slots) (hd : decode cc pc = .ok (.invokestatic index, 3)) (kk : ∀ (r : Option Nat) (h' : jH), post r h' → jW p l e R s m args below meth c D cy A nL (cells + rmc.cells) (slots + rmc.slots) Q h' lv (pc + 3) (va_rf r :: rest)) : jW p l e R s m args below meth c D cy A nL cells slots Q h lv pc st := fun H locs ls hP hD hS hl => by
  have hFc := j_in C hD hS
  refine va_callq (va_runS (As := As) (rest := rest) ⟨C.1, C.2.1, C.2.2.1, C.2.2.2.1, C.2.2.2.2.1⟩ (M H.size) ⟨jG_B C G.1 hR, C.2.2.2.2.1 _ G.2⟩ (j_pre C (locs := locs) hP hD) rfl hn hl.1 hst (lv_room hW) hd hf) hS (fun q _ hq => hFc q hq) hFc (fun r u t H1 locs1 ht hvm hw hB hz1 hk1 hS1 => ?_)
  obtain ⟨hP1, hK1, hD1⟩ := hB
  rw [ht] at hP1
  exact kk r u hw H1 locs1 ls hP1 (hD1.weaken (fun _ q _ hq => hFc q.1 hq)) hS1 hl
theorem j_callIv (C : jC p s m args meth c D cy A nL own cc) {index b n nLc : Nat} {y : MethodName} {bytes : ByteArray} {ret : Option FieldType} {rmc : Room} {As rest : List Value} {post : jH → Prop} (G : jGi own index y bytes nLc n) (M : jV l D cy y (.code y bytes nLc none) rmc (.ref b :: As) h post) (hn : As.length = n) (hst : st = As.reverse ++ .ref b :: rest) (hW : (rest.map fun v => v.category).sum ≤ 8) (hR : rmc.frames + 1 ≤ R.frames ∧ 8 + (nLc + 11) + rmc.locals ≤ R.locals) (hf : cells + rmc.cells ≤ R.cells ∧ slots + rmc.slots ≤ R.slots) (hd : decode cc pc = .ok (.invokespecial index, 3)) (kk : ∀ (h' : jH), post h' → jW p l e R s m args below meth c D cy A nL (cells + rmc.cells) (slots + rmc.slots) Q h' lv (pc + 3) (rest)) : jW p l e R s m args below meth c D cy A nL cells slots Q h lv pc st := fun H locs ls hP hD hS hl => by
  have hFc := j_in C hD hS
  refine va_callv (va_runI (As := As) (rest := rest) ⟨C.1, C.2.1, C.2.2.1, C.2.2.2.1, C.2.2.2.2.1⟩ (M H.size) ⟨jG_B C G.1 hR, G.2.2, C.2.2.2.2.1 _ G.2.1⟩ (j_pre C (locs := locs) hP hD) rfl hn hl.1 hst (lv_room hW) hd hf) hS (fun q _ hq => hFc q hq) hFc (fun u t H1 locs1 ht hvm hw hB hz1 hk1 hS1 => ?_)
  obtain ⟨hP1, hK1, hD1⟩ := hB
  rw [ht] at hP1
  exact kk u hw H1 locs1 ls hP1 (hD1.weaken (fun _ q _ hq => hFc q.1 hq)) hS1 hl
theorem j_max (C : jC p s m args meth c D cy A nL own cc) {index : Nat} {x y : Int32} (hk : Cond.methodLink own index Lib.Math.max.name ∈ wall) (hd : decode cc pc = .ok (.invokestatic index, 3)) (h1 : 1 ≤ R.frames) (h2 : (st.map fun v => v.category).sum + 13 ≤ R.locals) (hc : cells ≤ R.cells) (hs : slots ≤ R.slots) (k : jW p l e R s m args below meth c D cy A nL cells slots Q h lv (pc + 3) (.int (if x < y then y else x) :: st)) : jW p l e R s m args below meth c D cy A nL cells slots Q h lv pc (.int y :: .int x :: st) := fun H locs ls hP hD hS hl => va_mmax C.1 C.2.1 (C.2.2.1.trans hl.1.symm) C.2.2.2.1 (C.2.2.2.2.1 _ hk) (C.2.2.2.2.1 _ kS_Lib_Math_max_name) (C.2.2.2.2.1 _ kN_Math) (C.2.2.2.2.1 _ kC_max) h1 h2 hc hs hd (k H locs ls hP hD hS hl)
theorem j_min (C : jC p s m args meth c D cy A nL own cc) {index : Nat} {x y : Int32} (hk : Cond.methodLink own index Lib.Math.min.name ∈ wall) (hd : decode cc pc = .ok (.invokestatic index, 3)) (h1 : 1 ≤ R.frames) (h2 : (st.map fun v => v.category).sum + 13 ≤ R.locals) (hc : cells ≤ R.cells) (hs : slots ≤ R.slots) (k : jW p l e R s m args below meth c D cy A nL cells slots Q h lv (pc + 3) (.int (if y < x then y else x) :: st)) : jW p l e R s m args below meth c D cy A nL cells slots Q h lv pc (.int y :: .int x :: st) := fun H locs ls hP hD hS hl => va_mmin C.1 C.2.1 (C.2.2.1.trans hl.1.symm) C.2.2.2.1 (C.2.2.2.2.1 _ hk) (C.2.2.2.2.1 _ kS_Lib_Math_min_name) (C.2.2.2.2.1 _ kN_Math) (C.2.2.2.2.1 _ kC_min) h1 h2 hc hs hd (k H locs ls hP hD hS hl)
end JCALLS
end
section
theorem fF_X2_9 : jF RX2 9 2 0 false := ⟨_, _, _, rfl, i_X2, kF_X2_9, rfl, by decide, rfl, rfl, by decide⟩
theorem fP_X2_9 : jP RX2 9 2 0 false false (.int) := ⟨_, _, _, tyX2, rfl, i_X2, kF_X2_9, rfl, by decide, rfl, rfl, by decide, tyX2_ok, nmX2, rfl, by decide +kernel, fun h => by cases h⟩
theorem fF_X10_67 : jF RX10 67 2 0 false := ⟨_, _, _, rfl, i_X2, kF_X10_67, rfl, by decide, rfl, rfl, by decide⟩
theorem fP_X10_67 : jP RX10 67 2 0 false false (.int) := ⟨_, _, _, tyX2, rfl, i_X2, kF_X10_67, rfl, by decide, rfl, rfl, by decide, tyX2_ok, nmX2, rfl, by decide +kernel, fun h => by cases h⟩
theorem fF_X7_41 : jF RX7 41 2 0 false := ⟨_, _, _, rfl, i_X2, kF_X7_41, rfl, by decide, rfl, rfl, by decide⟩
theorem fF_X2_17 : jF RX2 17 2 1 true := ⟨_, _, _, rfl, i_X2, kF_X2_17, rfl, by decide, rfl, rfl, by decide⟩
theorem fP_X2_17 : jP RX2 17 2 1 true true (.array (.object "CleanSeed$Field")) := ⟨_, _, _, tyX2, rfl, i_X2, kF_X2_17, rfl, by decide, rfl, rfl, by decide, tyX2_ok, nmX2, rfl, by decide +kernel, fun _ => rfl⟩
theorem fF_X2_21 : jF RX2 21 2 2 false := ⟨_, _, _, rfl, i_X2, kF_X2_21, rfl, by decide, rfl, rfl, by decide⟩
theorem fP_X2_21 : jP RX2 21 2 2 false false (.int) := ⟨_, _, _, tyX2, rfl, i_X2, kF_X2_21, rfl, by decide, rfl, rfl, by decide, tyX2_ok, nmX2, rfl, by decide +kernel, fun h => by cases h⟩
theorem fF_X10_47 : jF RX10 47 2 2 false := ⟨_, _, _, rfl, i_X2, kF_X10_47, rfl, by decide, rfl, rfl, by decide⟩
theorem fF_X0_100 : jF RX0 100 2 2 false := ⟨_, _, _, rfl, i_X2, kF_X0_100, rfl, by decide, rfl, rfl, by decide⟩
theorem fF_X2_26 : jF RX2 26 2 3 true := ⟨_, _, _, rfl, i_X2, kF_X2_26, rfl, by decide, rfl, rfl, by decide⟩
theorem fP_X2_26 : jP RX2 26 2 3 true true (.array (.object "CleanSeed$Lot")) := ⟨_, _, _, tyX2, rfl, i_X2, kF_X2_26, rfl, by decide, rfl, rfl, by decide, tyX2_ok, nmX2, rfl, by decide +kernel, fun _ => rfl⟩
theorem fF_X2_30 : jF RX2 30 2 4 false := ⟨_, _, _, rfl, i_X2, kF_X2_30, rfl, by decide, rfl, rfl, by decide⟩
theorem fP_X2_30 : jP RX2 30 2 4 false false (.int) := ⟨_, _, _, tyX2, rfl, i_X2, kF_X2_30, rfl, by decide, rfl, rfl, by decide, tyX2_ok, nmX2, rfl, by decide +kernel, fun h => by cases h⟩
theorem fF_X0_15 : jF RX0 15 2 4 false := ⟨_, _, _, rfl, i_X2, kF_X0_15, rfl, by decide, rfl, rfl, by decide⟩
theorem fF_X4_15 : jF RX4 15 2 4 false := ⟨_, _, _, rfl, i_X2, kF_X4_15, rfl, by decide, rfl, rfl, by decide⟩
theorem fF_X10_91 : jF RX10 91 2 4 false := ⟨_, _, _, rfl, i_X2, kF_X10_91, rfl, by decide, rfl, rfl, by decide⟩
theorem fF_X2_35 : jF RX2 35 2 5 true := ⟨_, _, _, rfl, i_X2, kF_X2_35, rfl, by decide, rfl, rfl, by decide⟩
theorem fP_X2_35 : jP RX2 35 2 5 true true (.array (.object "CleanSeed$Bag")) := ⟨_, _, _, tyX2, rfl, i_X2, kF_X2_35, rfl, by decide, rfl, rfl, by decide, tyX2_ok, nmX2, rfl, by decide +kernel, fun _ => rfl⟩
theorem fF_X2_39 : jF RX2 39 2 6 false := ⟨_, _, _, rfl, i_X2, kF_X2_39, rfl, by decide, rfl, rfl, by decide⟩
theorem fP_X2_39 : jP RX2 39 2 6 false false (.int) := ⟨_, _, _, tyX2, rfl, i_X2, kF_X2_39, rfl, by decide, rfl, rfl, by decide, tyX2_ok, nmX2, rfl, by decide +kernel, fun h => by cases h⟩
theorem fF_X4_52 : jF RX4 52 2 6 false := ⟨_, _, _, rfl, i_X2, kF_X4_52, rfl, by decide, rfl, rfl, by decide⟩
theorem fF_X10_155 : jF RX10 155 2 6 false := ⟨_, _, _, rfl, i_X2, kF_X10_155, rfl, by decide, rfl, rfl, by decide⟩
theorem fF_X2_42 : jF RX2 42 2 7 false := ⟨_, _, _, rfl, i_X2, kF_X2_42, rfl, by decide, rfl, rfl, by decide⟩
theorem fP_X2_42 : jP RX2 42 2 7 false false (.int) := ⟨_, _, _, tyX2, rfl, i_X2, kF_X2_42, rfl, by decide, rfl, rfl, by decide, tyX2_ok, nmX2, rfl, by decide +kernel, fun h => by cases h⟩
theorem fF_X10_275 : jF RX10 275 2 7 false := ⟨_, _, _, rfl, i_X2, kF_X10_275, rfl, by decide, rfl, rfl, by decide⟩
theorem fF_X2_51 : jF RX2 51 2 8 true := ⟨_, _, _, rfl, i_X2, kF_X2_51, rfl, by decide, rfl, rfl, by decide⟩
theorem fP_X2_51 : jP RX2 51 2 8 true true (.array (.object "CleanSeed$Statute")) := ⟨_, _, _, tyX2, rfl, i_X2, kF_X2_51, rfl, by decide, rfl, rfl, by decide, tyX2_ok, nmX2, rfl, by decide +kernel, fun _ => rfl⟩
theorem fF_X2_55 : jF RX2 55 2 9 false := ⟨_, _, _, rfl, i_X2, kF_X2_55, rfl, by decide, rfl, rfl, by decide⟩
theorem fP_X2_55 : jP RX2 55 2 9 false false (.int) := ⟨_, _, _, tyX2, rfl, i_X2, kF_X2_55, rfl, by decide, rfl, rfl, by decide, tyX2_ok, nmX2, rfl, by decide +kernel, fun h => by cases h⟩
theorem fF_X10_278 : jF RX10 278 2 9 false := ⟨_, _, _, rfl, i_X2, kF_X10_278, rfl, by decide, rfl, rfl, by decide⟩
theorem fF_X2_58 : jF RX2 58 2 10 false := ⟨_, _, _, rfl, i_X2, kF_X2_58, rfl, by decide, rfl, rfl, by decide⟩
theorem fP_X2_58 : jP RX2 58 2 10 false false (.int) := ⟨_, _, _, tyX2, rfl, i_X2, kF_X2_58, rfl, by decide, rfl, rfl, by decide, tyX2_ok, nmX2, rfl, by decide +kernel, fun h => by cases h⟩
theorem fF_X10_70 : jF RX10 70 2 10 false := ⟨_, _, _, rfl, i_X2, kF_X10_70, rfl, by decide, rfl, rfl, by decide⟩
theorem fP_X10_70 : jP RX10 70 2 10 false false (.int) := ⟨_, _, _, tyX2, rfl, i_X2, kF_X10_70, rfl, by decide, rfl, rfl, by decide, tyX2_ok, nmX2, rfl, by decide +kernel, fun h => by cases h⟩
theorem fF_X2_61 : jF RX2 61 2 11 false := ⟨_, _, _, rfl, i_X2, kF_X2_61, rfl, by decide, rfl, rfl, by decide⟩
theorem fP_X2_61 : jP RX2 61 2 11 false false (.int) := ⟨_, _, _, tyX2, rfl, i_X2, kF_X2_61, rfl, by decide, rfl, rfl, by decide, tyX2_ok, nmX2, rfl, by decide +kernel, fun h => by cases h⟩
theorem fF_X10_201 : jF RX10 201 2 11 false := ⟨_, _, _, rfl, i_X2, kF_X10_201, rfl, by decide, rfl, rfl, by decide⟩
theorem fP_X10_201 : jP RX10 201 2 11 false false (.int) := ⟨_, _, _, tyX2, rfl, i_X2, kF_X10_201, rfl, by decide, rfl, rfl, by decide, tyX2_ok, nmX2, rfl, by decide +kernel, fun h => by cases h⟩
theorem fF_X0_9 : jF RX0 9 0 0 true := ⟨_, _, _, rfl, i_X0, kF_X0_9, rfl, by decide, rfl, rfl, by decide⟩
theorem fP_X0_9 : jP RX0 9 0 0 true true (.object "CleanSeed$Book") := ⟨_, _, _, tyX0, rfl, i_X0, kF_X0_9, rfl, by decide, rfl, rfl, by decide, tyX0_ok, nmX0, rfl, by decide +kernel, fun _ => rfl⟩
theorem fF_X4_9 : jF RX4 9 4 0 true := ⟨_, _, _, rfl, i_X4, kF_X4_9, rfl, by decide, rfl, rfl, by decide⟩
theorem fP_X4_9 : jP RX4 9 4 0 true true (.object "CleanSeed$Book") := ⟨_, _, _, tyX4, rfl, i_X4, kF_X4_9, rfl, by decide, rfl, rfl, by decide, tyX4_ok, nmX4, rfl, by decide +kernel, fun _ => rfl⟩
theorem fF_X7_37 : jF RX7 37 7 0 true := ⟨_, _, _, rfl, i_X7, kF_X7_37, rfl, by decide, rfl, rfl, by decide⟩
theorem fP_X7_37 : jP RX7 37 7 0 true true (.object "CleanSeed$Book") := ⟨_, _, _, tyX7, rfl, i_X7, kF_X7_37, rfl, by decide, rfl, rfl, by decide, tyX7_ok, nmX7, rfl, by decide +kernel, fun _ => rfl⟩
theorem fF_X7_11 : jF RX7 11 7 1 true := ⟨_, _, _, rfl, i_X7, kF_X7_11, rfl, by decide, rfl, rfl, by decide⟩
theorem fP_X7_11 : jP RX7 11 7 1 true true (.array (.object "CleanSeed$Lot")) := ⟨_, _, _, tyX7, rfl, i_X7, kF_X7_11, rfl, by decide, rfl, rfl, by decide, tyX7_ok, nmX7, rfl, by decide +kernel, fun _ => rfl⟩
theorem fF_X7_17 : jF RX7 17 7 2 true := ⟨_, _, _, rfl, i_X7, kF_X7_17, rfl, by decide, rfl, rfl, by decide⟩
theorem fP_X7_17 : jP RX7 17 7 2 true true (.array .int) := ⟨_, _, _, tyX7, rfl, i_X7, kF_X7_17, rfl, by decide, rfl, rfl, by decide, tyX7_ok, nmX7, rfl, by decide +kernel, fun _ => rfl⟩
theorem fF_X7_21 : jF RX7 21 7 3 true := ⟨_, _, _, rfl, i_X7, kF_X7_21, rfl, by decide, rfl, rfl, by decide⟩
theorem fP_X7_21 : jP RX7 21 7 3 true true (.array .int) := ⟨_, _, _, tyX7, rfl, i_X7, kF_X7_21, rfl, by decide, rfl, rfl, by decide, tyX7_ok, nmX7, rfl, by decide +kernel, fun _ => rfl⟩
theorem fF_X7_24 : jF RX7 24 7 4 true := ⟨_, _, _, rfl, i_X7, kF_X7_24, rfl, by decide, rfl, rfl, by decide⟩
theorem fP_X7_24 : jP RX7 24 7 4 true true (.array .int) := ⟨_, _, _, tyX7, rfl, i_X7, kF_X7_24, rfl, by decide, rfl, rfl, by decide, tyX7_ok, nmX7, rfl, by decide +kernel, fun _ => rfl⟩
theorem fF_X7_27 : jF RX7 27 7 5 true := ⟨_, _, _, rfl, i_X7, kF_X7_27, rfl, by decide, rfl, rfl, by decide⟩
theorem fP_X7_27 : jP RX7 27 7 5 true true (.array .int) := ⟨_, _, _, tyX7, rfl, i_X7, kF_X7_27, rfl, by decide, rfl, rfl, by decide, tyX7_ok, nmX7, rfl, by decide +kernel, fun _ => rfl⟩
theorem fF_X7_30 : jF RX7 30 7 6 false := ⟨_, _, _, rfl, i_X7, kF_X7_30, rfl, by decide, rfl, rfl, by decide⟩
theorem fP_X7_30 : jP RX7 30 7 6 false false (.int) := ⟨_, _, _, tyX7, rfl, i_X7, kF_X7_30, rfl, by decide, rfl, rfl, by decide, tyX7_ok, nmX7, rfl, by decide +kernel, fun h => by cases h⟩
theorem fF_X7_34 : jF RX7 34 7 7 false := ⟨_, _, _, rfl, i_X7, kF_X7_34, rfl, by decide, rfl, rfl, by decide⟩
theorem fP_X7_34 : jP RX7 34 7 7 false false (.int) := ⟨_, _, _, tyX7, rfl, i_X7, kF_X7_34, rfl, by decide, rfl, rfl, by decide, tyX7_ok, nmX7, rfl, by decide +kernel, fun h => by cases h⟩
theorem fF_X10_264 : jF RX10 264 7 7 false := ⟨_, _, _, rfl, i_X7, kF_X10_264, rfl, by decide, rfl, rfl, by decide⟩
theorem fF_X10_10 : jF RX10 10 10 0 true := ⟨_, _, _, rfl, i_X10, kF_X10_10, rfl, by decide, rfl, rfl, by decide⟩
theorem fP_X10_10 : jP RX10 10 10 0 true true (.object "CleanSeed$Book") := ⟨_, _, _, tyX10, rfl, i_X10, kF_X10_10, rfl, by decide, rfl, rfl, by decide, tyX10_ok, nmX10, rfl, by decide +kernel, fun _ => rfl⟩
theorem fF_X10_21 : jF RX10 21 10 1 true := ⟨_, _, _, rfl, i_X10, kF_X10_21, rfl, by decide, rfl, rfl, by decide⟩
theorem fP_X10_21 : jP RX10 21 10 1 true true (.object "CleanSeed$Assessor") := ⟨_, _, _, tyX10, rfl, i_X10, kF_X10_21, rfl, by decide, rfl, rfl, by decide, tyX10_ok, nmX10, rfl, by decide +kernel, fun _ => rfl⟩
theorem fF_X10_28 : jF RX10 28 10 2 true := ⟨_, _, _, rfl, i_X10, kF_X10_28, rfl, by decide, rfl, rfl, by decide⟩
theorem fP_X10_28 : jP RX10 28 10 2 true true (.object "CleanSeed$Kin") := ⟨_, _, _, tyX10, rfl, i_X10, kF_X10_28, rfl, by decide, rfl, rfl, by decide, tyX10_ok, nmX10, rfl, by decide +kernel, fun _ => rfl⟩
theorem fF_X10_35 : jF RX10 35 10 3 true := ⟨_, _, _, rfl, i_X10, kF_X10_35, rfl, by decide, rfl, rfl, by decide⟩
theorem fP_X10_35 : jP RX10 35 10 3 true true (.object "CleanSeed$Planner") := ⟨_, _, _, tyX10, rfl, i_X10, kF_X10_35, rfl, by decide, rfl, rfl, by decide, tyX10_ok, nmX10, rfl, by decide +kernel, fun _ => rfl⟩
theorem fF_X10_39 : jF RX10 39 10 4 true := ⟨_, _, _, rfl, i_X10, kF_X10_39, rfl, by decide, rfl, rfl, by decide⟩
theorem fP_X10_39 : jP RX10 39 10 4 true true (.array .int) := ⟨_, _, _, tyX10, rfl, i_X10, kF_X10_39, rfl, by decide, rfl, rfl, by decide, tyX10_ok, nmX10, rfl, by decide +kernel, fun _ => rfl⟩
theorem fF_X3_23 : jF RX3 23 3 0 false := ⟨_, _, _, rfl, i_X3, kF_X3_23, rfl, by decide, rfl, rfl, by decide⟩
theorem fP_X3_23 : jP RX3 23 3 0 false true (.int) := ⟨_, _, _, tyX3, rfl, i_X3, kF_X3_23, rfl, by decide, rfl, rfl, by decide, tyX3_ok, nmX3, rfl, by decide +kernel, fun _ => rfl⟩
theorem fF_X6_85 : jF RX6 85 3 0 false := ⟨_, _, _, rfl, i_X3, kF_X6_85, rfl, by decide, rfl, rfl, by decide⟩
theorem fF_X3_33 : jF RX3 33 3 1 false := ⟨_, _, _, rfl, i_X3, kF_X3_33, rfl, by decide, rfl, rfl, by decide⟩
theorem fP_X3_33 : jP RX3 33 3 1 false true (.int) := ⟨_, _, _, tyX3, rfl, i_X3, kF_X3_33, rfl, by decide, rfl, rfl, by decide, tyX3_ok, nmX3, rfl, by decide +kernel, fun _ => rfl⟩
theorem fF_X3_39 : jF RX3 39 3 2 false := ⟨_, _, _, rfl, i_X3, kF_X3_39, rfl, by decide, rfl, rfl, by decide⟩
theorem fP_X3_39 : jP RX3 39 3 2 false true (.int) := ⟨_, _, _, tyX3, rfl, i_X3, kF_X3_39, rfl, by decide, rfl, rfl, by decide, tyX3_ok, nmX3, rfl, by decide +kernel, fun _ => rfl⟩
theorem fF_X3_42 : jF RX3 42 3 3 false := ⟨_, _, _, rfl, i_X3, kF_X3_42, rfl, by decide, rfl, rfl, by decide⟩
theorem fP_X3_42 : jP RX3 42 3 3 false true (.int) := ⟨_, _, _, tyX3, rfl, i_X3, kF_X3_42, rfl, by decide, rfl, rfl, by decide, tyX3_ok, nmX3, rfl, by decide +kernel, fun _ => rfl⟩
theorem fF_X3_45 : jF RX3 45 3 4 false := ⟨_, _, _, rfl, i_X3, kF_X3_45, rfl, by decide, rfl, rfl, by decide⟩
theorem fP_X3_45 : jP RX3 45 3 4 false true (.int) := ⟨_, _, _, tyX3, rfl, i_X3, kF_X3_45, rfl, by decide, rfl, rfl, by decide, tyX3_ok, nmX3, rfl, by decide +kernel, fun _ => rfl⟩
theorem fF_X3_11 : jF RX3 11 3 5 true := ⟨_, _, _, rfl, i_X3, kF_X3_11, rfl, by decide, rfl, rfl, by decide⟩
theorem fP_X3_11 : jP RX3 11 3 5 true true (.array (.object "CleanSeed$Lot")) := ⟨_, _, _, tyX3, rfl, i_X3, kF_X3_11, rfl, by decide, rfl, rfl, by decide, tyX3_ok, nmX3, rfl, by decide +kernel, fun _ => rfl⟩
theorem fF_X3_19 : jF RX3 19 3 6 true := ⟨_, _, _, rfl, i_X3, kF_X3_19, rfl, by decide, rfl, rfl, by decide⟩
theorem fP_X3_19 : jP RX3 19 3 6 true true (.array (.object "CleanSeed$Telling")) := ⟨_, _, _, tyX3, rfl, i_X3, kF_X3_19, rfl, by decide, rfl, rfl, by decide, tyX3_ok, nmX3, rfl, by decide +kernel, fun _ => rfl⟩
theorem fF_X9_7 : jF RX9 7 9 0 true := ⟨_, _, _, rfl, i_X9, kF_X9_7, rfl, by decide, rfl, rfl, by decide⟩
theorem fP_X9_7 : jP RX9 7 9 0 true true (.object "CleanSeed$Telling") := ⟨_, _, _, tyX9, rfl, i_X9, kF_X9_7, rfl, by decide, rfl, rfl, by decide, tyX9_ok, nmX9, rfl, by decide +kernel, fun _ => rfl⟩
theorem fF_X3_65 : jF RX3 65 9 0 true := ⟨_, _, _, rfl, i_X9, kF_X3_65, rfl, by decide, rfl, rfl, by decide⟩
theorem fF_X9_13 : jF RX9 13 9 1 false := ⟨_, _, _, rfl, i_X9, kF_X9_13, rfl, by decide, rfl, rfl, by decide⟩
theorem fP_X9_13 : jP RX9 13 9 1 false true (.int) := ⟨_, _, _, tyX9, rfl, i_X9, kF_X9_13, rfl, by decide, rfl, rfl, by decide, tyX9_ok, nmX9, rfl, by decide +kernel, fun _ => rfl⟩
theorem fF_X3_61 : jF RX3 61 9 1 false := ⟨_, _, _, rfl, i_X9, kF_X3_61, rfl, by decide, rfl, rfl, by decide⟩
theorem fF_X9_17 : jF RX9 17 9 2 false := ⟨_, _, _, rfl, i_X9, kF_X9_17, rfl, by decide, rfl, rfl, by decide⟩
theorem fP_X9_17 : jP RX9 17 9 2 false true (.int) := ⟨_, _, _, tyX9, rfl, i_X9, kF_X9_17, rfl, by decide, rfl, rfl, by decide, tyX9_ok, nmX9, rfl, by decide +kernel, fun _ => rfl⟩
theorem fF_X3_64 : jF RX3 64 9 2 false := ⟨_, _, _, rfl, i_X9, kF_X3_64, rfl, by decide, rfl, rfl, by decide⟩
theorem fF_X8_7 : jF RX8 7 8 0 true := ⟨_, _, _, rfl, i_X8, kF_X8_7, rfl, by decide, rfl, rfl, by decide⟩
theorem fP_X8_7 : jP RX8 7 8 0 true true (.object "CleanSeed$Statute") := ⟨_, _, _, tyX8, rfl, i_X8, kF_X8_7, rfl, by decide, rfl, rfl, by decide, tyX8_ok, nmX8, rfl, by decide +kernel, fun _ => rfl⟩
theorem fF_X2_76 : jF RX2 76 8 0 true := ⟨_, _, _, rfl, i_X8, kF_X2_76, rfl, by decide, rfl, rfl, by decide⟩
theorem fF_X8_13 : jF RX8 13 8 1 false := ⟨_, _, _, rfl, i_X8, kF_X8_13, rfl, by decide, rfl, rfl, by decide⟩
theorem fP_X8_13 : jP RX8 13 8 1 false true (.int) := ⟨_, _, _, tyX8, rfl, i_X8, kF_X8_13, rfl, by decide, rfl, rfl, by decide, tyX8_ok, nmX8, rfl, by decide +kernel, fun _ => rfl⟩
theorem fF_X2_70 : jF RX2 70 8 1 false := ⟨_, _, _, rfl, i_X8, kF_X2_70, rfl, by decide, rfl, rfl, by decide⟩
theorem fF_X8_17 : jF RX8 17 8 2 false := ⟨_, _, _, rfl, i_X8, kF_X8_17, rfl, by decide, rfl, rfl, by decide⟩
theorem fP_X8_17 : jP RX8 17 8 2 false true (.int) := ⟨_, _, _, tyX8, rfl, i_X8, kF_X8_17, rfl, by decide, rfl, rfl, by decide, tyX8_ok, nmX8, rfl, by decide +kernel, fun _ => rfl⟩
theorem fF_X2_73 : jF RX2 73 8 2 false := ⟨_, _, _, rfl, i_X8, kF_X2_73, rfl, by decide, rfl, rfl, by decide⟩
theorem fF_X8_20 : jF RX8 20 8 3 false := ⟨_, _, _, rfl, i_X8, kF_X8_20, rfl, by decide, rfl, rfl, by decide⟩
theorem fP_X8_20 : jP RX8 20 8 3 false true (.int) := ⟨_, _, _, tyX8, rfl, i_X8, kF_X8_20, rfl, by decide, rfl, rfl, by decide, tyX8_ok, nmX8, rfl, by decide +kernel, fun _ => rfl⟩
theorem fF_X2_80 : jF RX2 80 8 3 false := ⟨_, _, _, rfl, i_X8, kF_X2_80, rfl, by decide, rfl, rfl, by decide⟩
theorem fF_X6_64 : jF RX6 64 6 0 false := ⟨_, _, _, rfl, i_X6, kF_X6_64, rfl, by decide, rfl, rfl, by decide⟩
theorem fP_X6_64 : jP RX6 64 6 0 false true (.int) := ⟨_, _, _, tyX6, rfl, i_X6, kF_X6_64, rfl, by decide, rfl, rfl, by decide, tyX6_ok, nmX6, rfl, by decide +kernel, fun _ => rfl⟩
theorem fF_X1_25 : jF RX1 25 6 0 false := ⟨_, _, _, rfl, i_X6, kF_X1_25, rfl, by decide, rfl, rfl, by decide⟩
theorem fF_X4_84 : jF RX4 84 6 0 false := ⟨_, _, _, rfl, i_X6, kF_X4_84, rfl, by decide, rfl, rfl, by decide⟩
theorem fF_X10_232 : jF RX10 232 6 0 false := ⟨_, _, _, rfl, i_X6, kF_X10_232, rfl, by decide, rfl, rfl, by decide⟩
theorem fF_X6_67 : jF RX6 67 6 1 false := ⟨_, _, _, rfl, i_X6, kF_X6_67, rfl, by decide, rfl, rfl, by decide⟩
theorem fP_X6_67 : jP RX6 67 6 1 false true (.int) := ⟨_, _, _, tyX6, rfl, i_X6, kF_X6_67, rfl, by decide, rfl, rfl, by decide, tyX6_ok, nmX6, rfl, by decide +kernel, fun _ => rfl⟩
theorem fF_X0_25 : jF RX0 25 6 1 false := ⟨_, _, _, rfl, i_X6, kF_X0_25, rfl, by decide, rfl, rfl, by decide⟩
theorem fF_X10_115 : jF RX10 115 6 1 false := ⟨_, _, _, rfl, i_X6, kF_X10_115, rfl, by decide, rfl, rfl, by decide⟩
theorem fF_X6_70 : jF RX6 70 6 2 false := ⟨_, _, _, rfl, i_X6, kF_X6_70, rfl, by decide, rfl, rfl, by decide⟩
theorem fP_X6_70 : jP RX6 70 6 2 false true (.int) := ⟨_, _, _, tyX6, rfl, i_X6, kF_X6_70, rfl, by decide, rfl, rfl, by decide, tyX6_ok, nmX6, rfl, by decide +kernel, fun _ => rfl⟩
theorem fF_X7_65 : jF RX7 65 6 2 false := ⟨_, _, _, rfl, i_X6, kF_X7_65, rfl, by decide, rfl, rfl, by decide⟩
theorem fF_X3_58 : jF RX3 58 6 2 false := ⟨_, _, _, rfl, i_X6, kF_X3_58, rfl, by decide, rfl, rfl, by decide⟩
theorem fF_X0_74 : jF RX0 74 6 2 false := ⟨_, _, _, rfl, i_X6, kF_X0_74, rfl, by decide, rfl, rfl, by decide⟩
theorem fF_X10_124 : jF RX10 124 6 2 false := ⟨_, _, _, rfl, i_X6, kF_X10_124, rfl, by decide, rfl, rfl, by decide⟩
theorem fF_X6_73 : jF RX6 73 6 3 false := ⟨_, _, _, rfl, i_X6, kF_X6_73, rfl, by decide, rfl, rfl, by decide⟩
theorem fP_X6_73 : jP RX6 73 6 3 false true (.int) := ⟨_, _, _, tyX6, rfl, i_X6, kF_X6_73, rfl, by decide, rfl, rfl, by decide, tyX6_ok, nmX6, rfl, by decide +kernel, fun _ => rfl⟩
theorem fF_X3_48 : jF RX3 48 6 3 false := ⟨_, _, _, rfl, i_X6, kF_X3_48, rfl, by decide, rfl, rfl, by decide⟩
theorem fF_X0_67 : jF RX0 67 6 3 false := ⟨_, _, _, rfl, i_X6, kF_X0_67, rfl, by decide, rfl, rfl, by decide⟩
theorem fF_X10_118 : jF RX10 118 6 3 false := ⟨_, _, _, rfl, i_X6, kF_X10_118, rfl, by decide, rfl, rfl, by decide⟩
theorem fF_X6_9 : jF RX6 9 6 4 true := ⟨_, _, _, rfl, i_X6, kF_X6_9, rfl, by decide, rfl, rfl, by decide⟩
theorem fP_X6_9 : jP RX6 9 6 4 true false (.object "CleanSeed$Field") := ⟨_, _, _, tyX6, rfl, i_X6, kF_X6_9, rfl, by decide, rfl, rfl, by decide, tyX6_ok, nmX6, rfl, by decide +kernel, fun h => by cases h⟩
theorem fF_X0_59 : jF RX0 59 6 4 true := ⟨_, _, _, rfl, i_X6, kF_X0_59, rfl, by decide, rfl, rfl, by decide⟩
theorem fF_X10_131 : jF RX10 131 6 4 true := ⟨_, _, _, rfl, i_X6, kF_X10_131, rfl, by decide, rfl, rfl, by decide⟩
theorem fP_X10_131 : jP RX10 131 6 4 true false (.object "CleanSeed$Field") := ⟨_, _, _, tyX6, rfl, i_X6, kF_X10_131, rfl, by decide, rfl, rfl, by decide, tyX6_ok, nmX6, rfl, by decide +kernel, fun h => by cases h⟩
theorem fF_X6_15 : jF RX6 15 6 5 true := ⟨_, _, _, rfl, i_X6, kF_X6_15, rfl, by decide, rfl, rfl, by decide⟩
theorem fP_X6_15 : jP RX6 15 6 5 true false (.object "CleanSeed$Lot") := ⟨_, _, _, tyX6, rfl, i_X6, kF_X6_15, rfl, by decide, rfl, rfl, by decide, tyX6_ok, nmX6, rfl, by decide +kernel, fun h => by cases h⟩
theorem fF_X4_25 : jF RX4 25 6 5 true := ⟨_, _, _, rfl, i_X6, kF_X4_25, rfl, by decide, rfl, rfl, by decide⟩
theorem fF_X10_127 : jF RX10 127 6 5 true := ⟨_, _, _, rfl, i_X6, kF_X10_127, rfl, by decide, rfl, rfl, by decide⟩
theorem fP_X10_127 : jP RX10 127 6 5 true false (.object "CleanSeed$Lot") := ⟨_, _, _, tyX6, rfl, i_X6, kF_X10_127, rfl, by decide, rfl, rfl, by decide, tyX6_ok, nmX6, rfl, by decide +kernel, fun h => by cases h⟩
theorem fF_X6_19 : jF RX6 19 6 6 true := ⟨_, _, _, rfl, i_X6, kF_X6_19, rfl, by decide, rfl, rfl, by decide⟩
theorem fP_X6_19 : jP RX6 19 6 6 true false (.object "CleanSeed$Lot") := ⟨_, _, _, tyX6, rfl, i_X6, kF_X6_19, rfl, by decide, rfl, rfl, by decide, tyX6_ok, nmX6, rfl, by decide +kernel, fun h => by cases h⟩
theorem fF_X4_35 : jF RX4 35 6 6 true := ⟨_, _, _, rfl, i_X6, kF_X4_35, rfl, by decide, rfl, rfl, by decide⟩
theorem fF_X10_149 : jF RX10 149 6 6 true := ⟨_, _, _, rfl, i_X6, kF_X10_149, rfl, by decide, rfl, rfl, by decide⟩
theorem fP_X10_149 : jP RX10 149 6 6 true false (.object "CleanSeed$Lot") := ⟨_, _, _, tyX6, rfl, i_X6, kF_X10_149, rfl, by decide, rfl, rfl, by decide, tyX6_ok, nmX6, rfl, by decide +kernel, fun h => by cases h⟩
theorem fF_X6_22 : jF RX6 22 6 7 false := ⟨_, _, _, rfl, i_X6, kF_X6_22, rfl, by decide, rfl, rfl, by decide⟩
theorem fP_X6_22 : jP RX6 22 6 7 false false (.int) := ⟨_, _, _, tyX6, rfl, i_X6, kF_X6_22, rfl, by decide, rfl, rfl, by decide, tyX6_ok, nmX6, rfl, by decide +kernel, fun h => by cases h⟩
theorem fF_X10_139 : jF RX10 139 6 7 false := ⟨_, _, _, rfl, i_X6, kF_X10_139, rfl, by decide, rfl, rfl, by decide⟩
theorem fP_X10_139 : jP RX10 139 6 7 false false (.int) := ⟨_, _, _, tyX6, rfl, i_X6, kF_X10_139, rfl, by decide, rfl, rfl, by decide, tyX6_ok, nmX6, rfl, by decide +kernel, fun h => by cases h⟩
theorem fF_X6_26 : jF RX6 26 6 8 false := ⟨_, _, _, rfl, i_X6, kF_X6_26, rfl, by decide, rfl, rfl, by decide⟩
theorem fP_X6_26 : jP RX6 26 6 8 false false (.int) := ⟨_, _, _, tyX6, rfl, i_X6, kF_X6_26, rfl, by decide, rfl, rfl, by decide, tyX6_ok, nmX6, rfl, by decide +kernel, fun h => by cases h⟩
theorem fF_X10_145 : jF RX10 145 6 8 false := ⟨_, _, _, rfl, i_X6, kF_X10_145, rfl, by decide, rfl, rfl, by decide⟩
theorem fF_X6_29 : jF RX6 29 6 9 false := ⟨_, _, _, rfl, i_X6, kF_X6_29, rfl, by decide, rfl, rfl, by decide⟩
theorem fP_X6_29 : jP RX6 29 6 9 false false (.int) := ⟨_, _, _, tyX6, rfl, i_X6, kF_X6_29, rfl, by decide, rfl, rfl, by decide, tyX6_ok, nmX6, rfl, by decide +kernel, fun h => by cases h⟩
theorem fF_X10_142 : jF RX10 142 6 9 false := ⟨_, _, _, rfl, i_X6, kF_X10_142, rfl, by decide, rfl, rfl, by decide⟩
theorem fP_X10_142 : jP RX10 142 6 9 false false (.int) := ⟨_, _, _, tyX6, rfl, i_X6, kF_X10_142, rfl, by decide, rfl, rfl, by decide, tyX6_ok, nmX6, rfl, by decide +kernel, fun h => by cases h⟩
theorem fF_X6_32 : jF RX6 32 6 10 false := ⟨_, _, _, rfl, i_X6, kF_X6_32, rfl, by decide, rfl, rfl, by decide⟩
theorem fP_X6_32 : jP RX6 32 6 10 false false (.int) := ⟨_, _, _, tyX6, rfl, i_X6, kF_X6_32, rfl, by decide, rfl, rfl, by decide, tyX6_ok, nmX6, rfl, by decide +kernel, fun h => by cases h⟩
theorem fF_X10_152 : jF RX10 152 6 10 false := ⟨_, _, _, rfl, i_X6, kF_X10_152, rfl, by decide, rfl, rfl, by decide⟩
theorem fP_X10_152 : jP RX10 152 6 10 false false (.int) := ⟨_, _, _, tyX6, rfl, i_X6, kF_X10_152, rfl, by decide, rfl, rfl, by decide, tyX6_ok, nmX6, rfl, by decide +kernel, fun h => by cases h⟩
theorem fF_X6_35 : jF RX6 35 6 11 false := ⟨_, _, _, rfl, i_X6, kF_X6_35, rfl, by decide, rfl, rfl, by decide⟩
theorem fP_X6_35 : jP RX6 35 6 11 false false (.int) := ⟨_, _, _, tyX6, rfl, i_X6, kF_X6_35, rfl, by decide, rfl, rfl, by decide, tyX6_ok, nmX6, rfl, by decide +kernel, fun h => by cases h⟩
theorem fF_X10_162 : jF RX10 162 6 11 false := ⟨_, _, _, rfl, i_X6, kF_X10_162, rfl, by decide, rfl, rfl, by decide⟩
theorem fP_X10_162 : jP RX10 162 6 11 false false (.int) := ⟨_, _, _, tyX6, rfl, i_X6, kF_X10_162, rfl, by decide, rfl, rfl, by decide, tyX6_ok, nmX6, rfl, by decide +kernel, fun h => by cases h⟩
theorem fF_X6_38 : jF RX6 38 6 12 false := ⟨_, _, _, rfl, i_X6, kF_X6_38, rfl, by decide, rfl, rfl, by decide⟩
theorem fP_X6_38 : jP RX6 38 6 12 false false (.int) := ⟨_, _, _, tyX6, rfl, i_X6, kF_X6_38, rfl, by decide, rfl, rfl, by decide, tyX6_ok, nmX6, rfl, by decide +kernel, fun h => by cases h⟩
theorem fF_X10_198 : jF RX10 198 6 12 false := ⟨_, _, _, rfl, i_X6, kF_X10_198, rfl, by decide, rfl, rfl, by decide⟩
theorem fP_X10_198 : jP RX10 198 6 12 false false (.int) := ⟨_, _, _, tyX6, rfl, i_X6, kF_X10_198, rfl, by decide, rfl, rfl, by decide, tyX6_ok, nmX6, rfl, by decide +kernel, fun h => by cases h⟩
theorem fF_X6_41 : jF RX6 41 6 13 true := ⟨_, _, _, rfl, i_X6, kF_X6_41, rfl, by decide, rfl, rfl, by decide⟩
theorem fP_X6_41 : jP RX6 41 6 13 true false (.object "CleanSeed$Look") := ⟨_, _, _, tyX6, rfl, i_X6, kF_X6_41, rfl, by decide, rfl, rfl, by decide, tyX6_ok, nmX6, rfl, by decide +kernel, fun h => by cases h⟩
theorem fF_X10_206 : jF RX10 206 6 13 true := ⟨_, _, _, rfl, i_X6, kF_X10_206, rfl, by decide, rfl, rfl, by decide⟩
theorem fP_X10_206 : jP RX10 206 6 13 true false (.object "CleanSeed$Look") := ⟨_, _, _, tyX6, rfl, i_X6, kF_X10_206, rfl, by decide, rfl, rfl, by decide, tyX6_ok, nmX6, rfl, by decide +kernel, fun h => by cases h⟩
theorem fF_X6_45 : jF RX6 45 6 14 false := ⟨_, _, _, rfl, i_X6, kF_X6_45, rfl, by decide, rfl, rfl, by decide⟩
theorem fP_X6_45 : jP RX6 45 6 14 false false (.int) := ⟨_, _, _, tyX6, rfl, i_X6, kF_X6_45, rfl, by decide, rfl, rfl, by decide, tyX6_ok, nmX6, rfl, by decide +kernel, fun h => by cases h⟩
theorem fF_X10_225 : jF RX10 225 6 14 false := ⟨_, _, _, rfl, i_X6, kF_X10_225, rfl, by decide, rfl, rfl, by decide⟩
theorem fP_X10_225 : jP RX10 225 6 14 false false (.int) := ⟨_, _, _, tyX6, rfl, i_X6, kF_X10_225, rfl, by decide, rfl, rfl, by decide, tyX6_ok, nmX6, rfl, by decide +kernel, fun h => by cases h⟩
theorem fF_X6_48 : jF RX6 48 6 15 false := ⟨_, _, _, rfl, i_X6, kF_X6_48, rfl, by decide, rfl, rfl, by decide⟩
theorem fP_X6_48 : jP RX6 48 6 15 false false (.int) := ⟨_, _, _, tyX6, rfl, i_X6, kF_X6_48, rfl, by decide, rfl, rfl, by decide, tyX6_ok, nmX6, rfl, by decide +kernel, fun h => by cases h⟩
theorem fF_X0_38 : jF RX0 38 6 15 false := ⟨_, _, _, rfl, i_X6, kF_X0_38, rfl, by decide, rfl, rfl, by decide⟩
theorem fP_X0_38 : jP RX0 38 6 15 false false (.int) := ⟨_, _, _, tyX6, rfl, i_X6, kF_X0_38, rfl, by decide, rfl, rfl, by decide, tyX6_ok, nmX6, rfl, by decide +kernel, fun h => by cases h⟩
theorem fF_X10_239 : jF RX10 239 6 15 false := ⟨_, _, _, rfl, i_X6, kF_X10_239, rfl, by decide, rfl, rfl, by decide⟩
theorem fF_X6_51 : jF RX6 51 6 16 false := ⟨_, _, _, rfl, i_X6, kF_X6_51, rfl, by decide, rfl, rfl, by decide⟩
theorem fP_X6_51 : jP RX6 51 6 16 false false (.int) := ⟨_, _, _, tyX6, rfl, i_X6, kF_X6_51, rfl, by decide, rfl, rfl, by decide, tyX6_ok, nmX6, rfl, by decide +kernel, fun h => by cases h⟩
theorem fF_X0_45 : jF RX0 45 6 16 false := ⟨_, _, _, rfl, i_X6, kF_X0_45, rfl, by decide, rfl, rfl, by decide⟩
theorem fP_X0_45 : jP RX0 45 6 16 false false (.int) := ⟨_, _, _, tyX6, rfl, i_X6, kF_X0_45, rfl, by decide, rfl, rfl, by decide, tyX6_ok, nmX6, rfl, by decide +kernel, fun h => by cases h⟩
theorem fF_X10_242 : jF RX10 242 6 16 false := ⟨_, _, _, rfl, i_X6, kF_X10_242, rfl, by decide, rfl, rfl, by decide⟩
theorem fF_X6_54 : jF RX6 54 6 17 false := ⟨_, _, _, rfl, i_X6, kF_X6_54, rfl, by decide, rfl, rfl, by decide⟩
theorem fP_X6_54 : jP RX6 54 6 17 false false (.int) := ⟨_, _, _, tyX6, rfl, i_X6, kF_X6_54, rfl, by decide, rfl, rfl, by decide, tyX6_ok, nmX6, rfl, by decide +kernel, fun h => by cases h⟩
theorem fF_X4_45 : jF RX4 45 6 17 false := ⟨_, _, _, rfl, i_X6, kF_X4_45, rfl, by decide, rfl, rfl, by decide⟩
theorem fP_X4_45 : jP RX4 45 6 17 false false (.int) := ⟨_, _, _, tyX6, rfl, i_X6, kF_X4_45, rfl, by decide, rfl, rfl, by decide, tyX6_ok, nmX6, rfl, by decide +kernel, fun h => by cases h⟩
theorem fF_X10_248 : jF RX10 248 6 17 false := ⟨_, _, _, rfl, i_X6, kF_X10_248, rfl, by decide, rfl, rfl, by decide⟩
theorem fF_X6_57 : jF RX6 57 6 18 false := ⟨_, _, _, rfl, i_X6, kF_X6_57, rfl, by decide, rfl, rfl, by decide⟩
theorem fP_X6_57 : jP RX6 57 6 18 false false (.boolean) := ⟨_, _, _, tyX6, rfl, i_X6, kF_X6_57, rfl, by decide, rfl, rfl, by decide, tyX6_ok, nmX6, rfl, by decide +kernel, fun h => by cases h⟩
theorem fF_X4_80 : jF RX4 80 6 18 false := ⟨_, _, _, rfl, i_X6, kF_X4_80, rfl, by decide, rfl, rfl, by decide⟩
theorem fP_X4_80 : jP RX4 80 6 18 false false (.boolean) := ⟨_, _, _, tyX6, rfl, i_X6, kF_X4_80, rfl, by decide, rfl, rfl, by decide, tyX6_ok, nmX6, rfl, by decide +kernel, fun h => by cases h⟩
theorem fF_X6_61 : jF RX6 61 6 19 false := ⟨_, _, _, rfl, i_X6, kF_X6_61, rfl, by decide, rfl, rfl, by decide⟩
theorem fP_X6_61 : jP RX6 61 6 19 false false (.boolean) := ⟨_, _, _, tyX6, rfl, i_X6, kF_X6_61, rfl, by decide, rfl, rfl, by decide, tyX6_ok, nmX6, rfl, by decide +kernel, fun h => by cases h⟩
theorem fF_X4_94 : jF RX4 94 6 19 false := ⟨_, _, _, rfl, i_X6, kF_X4_94, rfl, by decide, rfl, rfl, by decide⟩
theorem fP_X4_94 : jP RX4 94 6 19 false false (.boolean) := ⟨_, _, _, tyX6, rfl, i_X6, kF_X4_94, rfl, by decide, rfl, rfl, by decide, tyX6_ok, nmX6, rfl, by decide +kernel, fun h => by cases h⟩
theorem fF_X1_15 : jF RX1 15 1 0 true := ⟨_, _, _, rfl, i_X1, kF_X1_15, rfl, by decide, rfl, rfl, by decide⟩
theorem fP_X1_15 : jP RX1 15 1 0 true true (.object "CleanSeed$Lot") := ⟨_, _, _, tyX1, rfl, i_X1, kF_X1_15, rfl, by decide, rfl, rfl, by decide, tyX1_ok, nmX1, rfl, by decide +kernel, fun _ => rfl⟩
theorem fF_X4_65 : jF RX4 65 1 0 true := ⟨_, _, _, rfl, i_X1, kF_X4_65, rfl, by decide, rfl, rfl, by decide⟩
theorem fF_X10_192 : jF RX10 192 1 0 true := ⟨_, _, _, rfl, i_X1, kF_X10_192, rfl, by decide, rfl, rfl, by decide⟩
theorem fF_X1_19 : jF RX1 19 1 1 false := ⟨_, _, _, rfl, i_X1, kF_X1_19, rfl, by decide, rfl, rfl, by decide⟩
theorem fP_X1_19 : jP RX1 19 1 1 false true (.int) := ⟨_, _, _, tyX1, rfl, i_X1, kF_X1_19, rfl, by decide, rfl, rfl, by decide, tyX1_ok, nmX1, rfl, by decide +kernel, fun _ => rfl⟩
theorem fF_X1_22 : jF RX1 22 1 2 false := ⟨_, _, _, rfl, i_X1, kF_X1_22, rfl, by decide, rfl, rfl, by decide⟩
theorem fP_X1_22 : jP RX1 22 1 2 false false (.int) := ⟨_, _, _, tyX1, rfl, i_X1, kF_X1_22, rfl, by decide, rfl, rfl, by decide, tyX1_ok, nmX1, rfl, by decide +kernel, fun h => by cases h⟩
theorem fF_X10_186 : jF RX10 186 1 2 false := ⟨_, _, _, rfl, i_X1, kF_X10_186, rfl, by decide, rfl, rfl, by decide⟩
theorem fP_X10_186 : jP RX10 186 1 2 false false (.int) := ⟨_, _, _, tyX1, rfl, i_X1, kF_X10_186, rfl, by decide, rfl, rfl, by decide, tyX1_ok, nmX1, rfl, by decide +kernel, fun h => by cases h⟩
theorem fF_X1_9 : jF RX1 9 1 3 false := ⟨_, _, _, rfl, i_X1, kF_X1_9, rfl, by decide, rfl, rfl, by decide⟩
theorem fP_X1_9 : jP RX1 9 1 3 false false (.int) := ⟨_, _, _, tyX1, rfl, i_X1, kF_X1_9, rfl, by decide, rfl, rfl, by decide, tyX1_ok, nmX1, rfl, by decide +kernel, fun h => by cases h⟩
theorem fF_X4_68 : jF RX4 68 1 3 false := ⟨_, _, _, rfl, i_X1, kF_X4_68, rfl, by decide, rfl, rfl, by decide⟩
theorem fF_X10_195 : jF RX10 195 1 3 false := ⟨_, _, _, rfl, i_X1, kF_X10_195, rfl, by decide, rfl, rfl, by decide⟩
theorem fP_X10_195 : jP RX10 195 1 3 false false (.int) := ⟨_, _, _, tyX1, rfl, i_X1, kF_X10_195, rfl, by decide, rfl, rfl, by decide, tyX1_ok, nmX1, rfl, by decide +kernel, fun h => by cases h⟩
theorem fF_X5_7 : jF RX5 7 5 0 true := ⟨_, _, _, rfl, i_X5, kF_X5_7, rfl, by decide, rfl, rfl, by decide⟩
theorem fP_X5_7 : jP RX5 7 5 0 true true (.object "CleanSeed$Look") := ⟨_, _, _, tyX5, rfl, i_X5, kF_X5_7, rfl, by decide, rfl, rfl, by decide, tyX5_ok, nmX5, rfl, by decide +kernel, fun _ => rfl⟩
theorem fF_X6_82 : jF RX6 82 5 0 true := ⟨_, _, _, rfl, i_X5, kF_X6_82, rfl, by decide, rfl, rfl, by decide⟩
theorem fF_X5_13 : jF RX5 13 5 1 false := ⟨_, _, _, rfl, i_X5, kF_X5_13, rfl, by decide, rfl, rfl, by decide⟩
theorem fP_X5_13 : jP RX5 13 5 1 false true (.int) := ⟨_, _, _, tyX5, rfl, i_X5, kF_X5_13, rfl, by decide, rfl, rfl, by decide, tyX5_ok, nmX5, rfl, by decide +kernel, fun _ => rfl⟩
theorem fF_X6_79 : jF RX6 79 5 1 false := ⟨_, _, _, rfl, i_X5, kF_X6_79, rfl, by decide, rfl, rfl, by decide⟩
theorem fF_X5_17 : jF RX5 17 5 2 false := ⟨_, _, _, rfl, i_X5, kF_X5_17, rfl, by decide, rfl, rfl, by decide⟩
theorem fP_X5_17 : jP RX5 17 5 2 false true (.int) := ⟨_, _, _, tyX5, rfl, i_X5, kF_X5_17, rfl, by decide, rfl, rfl, by decide, tyX5_ok, nmX5, rfl, by decide +kernel, fun _ => rfl⟩
theorem fF_X6_76 : jF RX6 76 5 2 false := ⟨_, _, _, rfl, i_X5, kF_X6_76, rfl, by decide, rfl, rfl, by decide⟩
theorem fF_X0_87 : jF RX0 87 5 2 false := ⟨_, _, _, rfl, i_X5, kF_X0_87, rfl, by decide, rfl, rfl, by decide⟩
theorem fF_X5_20 : jF RX5 20 5 3 false := ⟨_, _, _, rfl, i_X5, kF_X5_20, rfl, by decide, rfl, rfl, by decide⟩
theorem fP_X5_20 : jP RX5 20 5 3 false true (.int) := ⟨_, _, _, tyX5, rfl, i_X5, kF_X5_20, rfl, by decide, rfl, rfl, by decide, tyX5_ok, nmX5, rfl, by decide +kernel, fun _ => rfl⟩
theorem fF_X0_97 : jF RX0 97 5 3 false := ⟨_, _, _, rfl, i_X5, kF_X0_97, rfl, by decide, rfl, rfl, by decide⟩
theorem fF_X5_23 : jF RX5 23 5 4 false := ⟨_, _, _, rfl, i_X5, kF_X5_23, rfl, by decide, rfl, rfl, by decide⟩
theorem fP_X5_23 : jP RX5 23 5 4 false true (.int) := ⟨_, _, _, tyX5, rfl, i_X5, kF_X5_23, rfl, by decide, rfl, rfl, by decide, tyX5_ok, nmX5, rfl, by decide +kernel, fun _ => rfl⟩
theorem fF_X0_94 : jF RX0 94 5 4 false := ⟨_, _, _, rfl, i_X5, kF_X0_94, rfl, by decide, rfl, rfl, by decide⟩
theorem fF_X11_141 : jF RX11 141 11 0 false := ⟨_, _, _, rfl, i_X11, kF_X11_141, rfl, by decide, rfl, rfl, by decide⟩
theorem fP_X11_141 : jP RX11 141 11 0 false false (.int) := ⟨_, _, _, tyX11, rfl, i_X11, kF_X11_141, rfl, by decide, rfl, rfl, by decide, tyX11_ok, nmX11, rfl, by decide +kernel, fun h => by cases h⟩
theorem fF_X11_130 : jF RX11 130 11 1 false := ⟨_, _, _, rfl, i_X11, kF_X11_130, rfl, by decide, rfl, rfl, by decide⟩
theorem fP_X11_130 : jP RX11 130 11 1 false false (.int) := ⟨_, _, _, tyX11, rfl, i_X11, kF_X11_130, rfl, by decide, rfl, rfl, by decide, tyX11_ok, nmX11, rfl, by decide +kernel, fun h => by cases h⟩
theorem fF_X11_138 : jF RX11 138 11 2 false := ⟨_, _, _, rfl, i_X11, kF_X11_138, rfl, by decide, rfl, rfl, by decide⟩
theorem fP_X11_138 : jP RX11 138 11 2 false false (.int) := ⟨_, _, _, tyX11, rfl, i_X11, kF_X11_138, rfl, by decide, rfl, rfl, by decide, tyX11_ok, nmX11, rfl, by decide +kernel, fun h => by cases h⟩
theorem fF_X11_190 : jF RX11 190 11 3 false := ⟨_, _, _, rfl, i_X11, kF_X11_190, rfl, by decide, rfl, rfl, by decide⟩
theorem fP_X11_190 : jP RX11 190 11 3 false false (.int) := ⟨_, _, _, tyX11, rfl, i_X11, kF_X11_190, rfl, by decide, rfl, rfl, by decide, tyX11_ok, nmX11, rfl, by decide +kernel, fun h => by cases h⟩
theorem fF_X11_196 : jF RX11 196 11 4 false := ⟨_, _, _, rfl, i_X11, kF_X11_196, rfl, by decide, rfl, rfl, by decide⟩
theorem fP_X11_196 : jP RX11 196 11 4 false false (.int) := ⟨_, _, _, tyX11, rfl, i_X11, kF_X11_196, rfl, by decide, rfl, rfl, by decide, tyX11_ok, nmX11, rfl, by decide +kernel, fun h => by cases h⟩
theorem fF_X11_163 : jF RX11 163 11 5 false := ⟨_, _, _, rfl, i_X11, kF_X11_163, rfl, by decide, rfl, rfl, by decide⟩
theorem fP_X11_163 : jP RX11 163 11 5 false false (.int) := ⟨_, _, _, tyX11, rfl, i_X11, kF_X11_163, rfl, by decide, rfl, rfl, by decide, tyX11_ok, nmX11, rfl, by decide +kernel, fun h => by cases h⟩
theorem fF_X11_177 : jF RX11 177 11 6 false := ⟨_, _, _, rfl, i_X11, kF_X11_177, rfl, by decide, rfl, rfl, by decide⟩
theorem fP_X11_177 : jP RX11 177 11 6 false false (.int) := ⟨_, _, _, tyX11, rfl, i_X11, kF_X11_177, rfl, by decide, rfl, rfl, by decide, tyX11_ok, nmX11, rfl, by decide +kernel, fun h => by cases h⟩
theorem fF_X11_202 : jF RX11 202 11 7 false := ⟨_, _, _, rfl, i_X11, kF_X11_202, rfl, by decide, rfl, rfl, by decide⟩
theorem fP_X11_202 : jP RX11 202 11 7 false false (.int) := ⟨_, _, _, tyX11, rfl, i_X11, kF_X11_202, rfl, by decide, rfl, rfl, by decide, tyX11_ok, nmX11, rfl, by decide +kernel, fun h => by cases h⟩
theorem fF_X11_235 : jF RX11 235 11 8 false := ⟨_, _, _, rfl, i_X11, kF_X11_235, rfl, by decide, rfl, rfl, by decide⟩
theorem fP_X11_235 : jP RX11 235 11 8 false false (.int) := ⟨_, _, _, tyX11, rfl, i_X11, kF_X11_235, rfl, by decide, rfl, rfl, by decide, tyX11_ok, nmX11, rfl, by decide +kernel, fun h => by cases h⟩
theorem fF_X11_9 : jF RX11 9 11 9 true := ⟨_, _, _, rfl, i_X11, kF_X11_9, rfl, by decide, rfl, rfl, by decide⟩
theorem fP_X11_9 : jP RX11 9 11 9 true true (.array .int) := ⟨_, _, _, tyX11, rfl, i_X11, kF_X11_9, rfl, by decide, rfl, rfl, by decide, tyX11_ok, nmX11, rfl, by decide +kernel, fun _ => rfl⟩
theorem fF_X11_13 : jF RX11 13 11 10 true := ⟨_, _, _, rfl, i_X11, kF_X11_13, rfl, by decide, rfl, rfl, by decide⟩
theorem fP_X11_13 : jP RX11 13 11 10 true true (.array .int) := ⟨_, _, _, tyX11, rfl, i_X11, kF_X11_13, rfl, by decide, rfl, rfl, by decide, tyX11_ok, nmX11, rfl, by decide +kernel, fun _ => rfl⟩
theorem fF_X11_16 : jF RX11 16 11 11 true := ⟨_, _, _, rfl, i_X11, kF_X11_16, rfl, by decide, rfl, rfl, by decide⟩
theorem fP_X11_16 : jP RX11 16 11 11 true true (.array .int) := ⟨_, _, _, tyX11, rfl, i_X11, kF_X11_16, rfl, by decide, rfl, rfl, by decide, tyX11_ok, nmX11, rfl, by decide +kernel, fun _ => rfl⟩
theorem fF_X11_19 : jF RX11 19 11 12 true := ⟨_, _, _, rfl, i_X11, kF_X11_19, rfl, by decide, rfl, rfl, by decide⟩
theorem fP_X11_19 : jP RX11 19 11 12 true true (.array .int) := ⟨_, _, _, tyX11, rfl, i_X11, kF_X11_19, rfl, by decide, rfl, rfl, by decide, tyX11_ok, nmX11, rfl, by decide +kernel, fun _ => rfl⟩
theorem fF_X11_22 : jF RX11 22 11 13 true := ⟨_, _, _, rfl, i_X11, kF_X11_22, rfl, by decide, rfl, rfl, by decide⟩
theorem fP_X11_22 : jP RX11 22 11 13 true true (.array .int) := ⟨_, _, _, tyX11, rfl, i_X11, kF_X11_22, rfl, by decide, rfl, rfl, by decide, tyX11_ok, nmX11, rfl, by decide +kernel, fun _ => rfl⟩
theorem fF_X11_25 : jF RX11 25 11 14 true := ⟨_, _, _, rfl, i_X11, kF_X11_25, rfl, by decide, rfl, rfl, by decide⟩
theorem fP_X11_25 : jP RX11 25 11 14 true true (.array .int) := ⟨_, _, _, tyX11, rfl, i_X11, kF_X11_25, rfl, by decide, rfl, rfl, by decide, tyX11_ok, nmX11, rfl, by decide +kernel, fun _ => rfl⟩
theorem fF_X11_28 : jF RX11 28 11 15 true := ⟨_, _, _, rfl, i_X11, kF_X11_28, rfl, by decide, rfl, rfl, by decide⟩
theorem fP_X11_28 : jP RX11 28 11 15 true true (.array .int) := ⟨_, _, _, tyX11, rfl, i_X11, kF_X11_28, rfl, by decide, rfl, rfl, by decide, tyX11_ok, nmX11, rfl, by decide +kernel, fun _ => rfl⟩
theorem fF_X11_31 : jF RX11 31 11 16 true := ⟨_, _, _, rfl, i_X11, kF_X11_31, rfl, by decide, rfl, rfl, by decide⟩
theorem fP_X11_31 : jP RX11 31 11 16 true true (.array .int) := ⟨_, _, _, tyX11, rfl, i_X11, kF_X11_31, rfl, by decide, rfl, rfl, by decide, tyX11_ok, nmX11, rfl, by decide +kernel, fun _ => rfl⟩
theorem fF_X11_34 : jF RX11 34 11 17 true := ⟨_, _, _, rfl, i_X11, kF_X11_34, rfl, by decide, rfl, rfl, by decide⟩
theorem fP_X11_34 : jP RX11 34 11 17 true true (.array .int) := ⟨_, _, _, tyX11, rfl, i_X11, kF_X11_34, rfl, by decide, rfl, rfl, by decide, tyX11_ok, nmX11, rfl, by decide +kernel, fun _ => rfl⟩
theorem fF_X11_37 : jF RX11 37 11 18 true := ⟨_, _, _, rfl, i_X11, kF_X11_37, rfl, by decide, rfl, rfl, by decide⟩
theorem fP_X11_37 : jP RX11 37 11 18 true true (.array .int) := ⟨_, _, _, tyX11, rfl, i_X11, kF_X11_37, rfl, by decide, rfl, rfl, by decide, tyX11_ok, nmX11, rfl, by decide +kernel, fun _ => rfl⟩
theorem fF_X11_40 : jF RX11 40 11 19 true := ⟨_, _, _, rfl, i_X11, kF_X11_40, rfl, by decide, rfl, rfl, by decide⟩
theorem fP_X11_40 : jP RX11 40 11 19 true true (.array .int) := ⟨_, _, _, tyX11, rfl, i_X11, kF_X11_40, rfl, by decide, rfl, rfl, by decide, tyX11_ok, nmX11, rfl, by decide +kernel, fun _ => rfl⟩
theorem fF_X11_43 : jF RX11 43 11 20 true := ⟨_, _, _, rfl, i_X11, kF_X11_43, rfl, by decide, rfl, rfl, by decide⟩
theorem fP_X11_43 : jP RX11 43 11 20 true true (.array .int) := ⟨_, _, _, tyX11, rfl, i_X11, kF_X11_43, rfl, by decide, rfl, rfl, by decide, tyX11_ok, nmX11, rfl, by decide +kernel, fun _ => rfl⟩
theorem fF_X11_46 : jF RX11 46 11 21 true := ⟨_, _, _, rfl, i_X11, kF_X11_46, rfl, by decide, rfl, rfl, by decide⟩
theorem fP_X11_46 : jP RX11 46 11 21 true true (.array .int) := ⟨_, _, _, tyX11, rfl, i_X11, kF_X11_46, rfl, by decide, rfl, rfl, by decide, tyX11_ok, nmX11, rfl, by decide +kernel, fun _ => rfl⟩
theorem fF_X11_49 : jF RX11 49 11 22 true := ⟨_, _, _, rfl, i_X11, kF_X11_49, rfl, by decide, rfl, rfl, by decide⟩
theorem fP_X11_49 : jP RX11 49 11 22 true true (.array .int) := ⟨_, _, _, tyX11, rfl, i_X11, kF_X11_49, rfl, by decide, rfl, rfl, by decide, tyX11_ok, nmX11, rfl, by decide +kernel, fun _ => rfl⟩
theorem fF_X11_52 : jF RX11 52 11 23 true := ⟨_, _, _, rfl, i_X11, kF_X11_52, rfl, by decide, rfl, rfl, by decide⟩
theorem fP_X11_52 : jP RX11 52 11 23 true true (.array .int) := ⟨_, _, _, tyX11, rfl, i_X11, kF_X11_52, rfl, by decide, rfl, rfl, by decide, tyX11_ok, nmX11, rfl, by decide +kernel, fun _ => rfl⟩
theorem fF_X11_55 : jF RX11 55 11 24 true := ⟨_, _, _, rfl, i_X11, kF_X11_55, rfl, by decide, rfl, rfl, by decide⟩
theorem fP_X11_55 : jP RX11 55 11 24 true true (.array .int) := ⟨_, _, _, tyX11, rfl, i_X11, kF_X11_55, rfl, by decide, rfl, rfl, by decide, tyX11_ok, nmX11, rfl, by decide +kernel, fun _ => rfl⟩
theorem fF_X11_58 : jF RX11 58 11 25 true := ⟨_, _, _, rfl, i_X11, kF_X11_58, rfl, by decide, rfl, rfl, by decide⟩
theorem fP_X11_58 : jP RX11 58 11 25 true true (.array .int) := ⟨_, _, _, tyX11, rfl, i_X11, kF_X11_58, rfl, by decide, rfl, rfl, by decide, tyX11_ok, nmX11, rfl, by decide +kernel, fun _ => rfl⟩
theorem fF_X11_61 : jF RX11 61 11 26 true := ⟨_, _, _, rfl, i_X11, kF_X11_61, rfl, by decide, rfl, rfl, by decide⟩
theorem fP_X11_61 : jP RX11 61 11 26 true true (.array .int) := ⟨_, _, _, tyX11, rfl, i_X11, kF_X11_61, rfl, by decide, rfl, rfl, by decide, tyX11_ok, nmX11, rfl, by decide +kernel, fun _ => rfl⟩
theorem fF_X11_64 : jF RX11 64 11 27 true := ⟨_, _, _, rfl, i_X11, kF_X11_64, rfl, by decide, rfl, rfl, by decide⟩
theorem fP_X11_64 : jP RX11 64 11 27 true true (.array .int) := ⟨_, _, _, tyX11, rfl, i_X11, kF_X11_64, rfl, by decide, rfl, rfl, by decide, tyX11_ok, nmX11, rfl, by decide +kernel, fun _ => rfl⟩
theorem fF_X11_67 : jF RX11 67 11 28 true := ⟨_, _, _, rfl, i_X11, kF_X11_67, rfl, by decide, rfl, rfl, by decide⟩
theorem fP_X11_67 : jP RX11 67 11 28 true true (.array .int) := ⟨_, _, _, tyX11, rfl, i_X11, kF_X11_67, rfl, by decide, rfl, rfl, by decide, tyX11_ok, nmX11, rfl, by decide +kernel, fun _ => rfl⟩
theorem fF_X11_70 : jF RX11 70 11 29 true := ⟨_, _, _, rfl, i_X11, kF_X11_70, rfl, by decide, rfl, rfl, by decide⟩
theorem fP_X11_70 : jP RX11 70 11 29 true true (.array .int) := ⟨_, _, _, tyX11, rfl, i_X11, kF_X11_70, rfl, by decide, rfl, rfl, by decide, tyX11_ok, nmX11, rfl, by decide +kernel, fun _ => rfl⟩
theorem fF_X11_73 : jF RX11 73 11 30 true := ⟨_, _, _, rfl, i_X11, kF_X11_73, rfl, by decide, rfl, rfl, by decide⟩
theorem fP_X11_73 : jP RX11 73 11 30 true true (.array .int) := ⟨_, _, _, tyX11, rfl, i_X11, kF_X11_73, rfl, by decide, rfl, rfl, by decide, tyX11_ok, nmX11, rfl, by decide +kernel, fun _ => rfl⟩
theorem fF_X11_76 : jF RX11 76 11 31 true := ⟨_, _, _, rfl, i_X11, kF_X11_76, rfl, by decide, rfl, rfl, by decide⟩
theorem fP_X11_76 : jP RX11 76 11 31 true true (.array .int) := ⟨_, _, _, tyX11, rfl, i_X11, kF_X11_76, rfl, by decide, rfl, rfl, by decide, tyX11_ok, nmX11, rfl, by decide +kernel, fun _ => rfl⟩
theorem fF_X11_79 : jF RX11 79 11 32 true := ⟨_, _, _, rfl, i_X11, kF_X11_79, rfl, by decide, rfl, rfl, by decide⟩
theorem fP_X11_79 : jP RX11 79 11 32 true true (.array .int) := ⟨_, _, _, tyX11, rfl, i_X11, kF_X11_79, rfl, by decide, rfl, rfl, by decide, tyX11_ok, nmX11, rfl, by decide +kernel, fun _ => rfl⟩
theorem fF_X11_82 : jF RX11 82 11 33 true := ⟨_, _, _, rfl, i_X11, kF_X11_82, rfl, by decide, rfl, rfl, by decide⟩
theorem fP_X11_82 : jP RX11 82 11 33 true true (.array .int) := ⟨_, _, _, tyX11, rfl, i_X11, kF_X11_82, rfl, by decide, rfl, rfl, by decide, tyX11_ok, nmX11, rfl, by decide +kernel, fun _ => rfl⟩
theorem fF_X11_85 : jF RX11 85 11 34 true := ⟨_, _, _, rfl, i_X11, kF_X11_85, rfl, by decide, rfl, rfl, by decide⟩
theorem fP_X11_85 : jP RX11 85 11 34 true true (.array .int) := ⟨_, _, _, tyX11, rfl, i_X11, kF_X11_85, rfl, by decide, rfl, rfl, by decide, tyX11_ok, nmX11, rfl, by decide +kernel, fun _ => rfl⟩
theorem fF_X11_88 : jF RX11 88 11 35 true := ⟨_, _, _, rfl, i_X11, kF_X11_88, rfl, by decide, rfl, rfl, by decide⟩
theorem fP_X11_88 : jP RX11 88 11 35 true true (.array .int) := ⟨_, _, _, tyX11, rfl, i_X11, kF_X11_88, rfl, by decide, rfl, rfl, by decide, tyX11_ok, nmX11, rfl, by decide +kernel, fun _ => rfl⟩
theorem fF_X11_91 : jF RX11 91 11 36 true := ⟨_, _, _, rfl, i_X11, kF_X11_91, rfl, by decide, rfl, rfl, by decide⟩
theorem fP_X11_91 : jP RX11 91 11 36 true true (.array .int) := ⟨_, _, _, tyX11, rfl, i_X11, kF_X11_91, rfl, by decide, rfl, rfl, by decide, tyX11_ok, nmX11, rfl, by decide +kernel, fun _ => rfl⟩
theorem fF_X11_94 : jF RX11 94 11 37 true := ⟨_, _, _, rfl, i_X11, kF_X11_94, rfl, by decide, rfl, rfl, by decide⟩
theorem fP_X11_94 : jP RX11 94 11 37 true true (.array .int) := ⟨_, _, _, tyX11, rfl, i_X11, kF_X11_94, rfl, by decide, rfl, rfl, by decide, tyX11_ok, nmX11, rfl, by decide +kernel, fun _ => rfl⟩
theorem fF_X11_97 : jF RX11 97 11 38 true := ⟨_, _, _, rfl, i_X11, kF_X11_97, rfl, by decide, rfl, rfl, by decide⟩
theorem fP_X11_97 : jP RX11 97 11 38 true true (.array .int) := ⟨_, _, _, tyX11, rfl, i_X11, kF_X11_97, rfl, by decide, rfl, rfl, by decide, tyX11_ok, nmX11, rfl, by decide +kernel, fun _ => rfl⟩
theorem fF_X11_100 : jF RX11 100 11 39 true := ⟨_, _, _, rfl, i_X11, kF_X11_100, rfl, by decide, rfl, rfl, by decide⟩
theorem fP_X11_100 : jP RX11 100 11 39 true true (.array .int) := ⟨_, _, _, tyX11, rfl, i_X11, kF_X11_100, rfl, by decide, rfl, rfl, by decide, tyX11_ok, nmX11, rfl, by decide +kernel, fun _ => rfl⟩
theorem fF_X11_103 : jF RX11 103 11 40 true := ⟨_, _, _, rfl, i_X11, kF_X11_103, rfl, by decide, rfl, rfl, by decide⟩
theorem fP_X11_103 : jP RX11 103 11 40 true true (.array .int) := ⟨_, _, _, tyX11, rfl, i_X11, kF_X11_103, rfl, by decide, rfl, rfl, by decide, tyX11_ok, nmX11, rfl, by decide +kernel, fun _ => rfl⟩
theorem fF_X11_106 : jF RX11 106 11 41 true := ⟨_, _, _, rfl, i_X11, kF_X11_106, rfl, by decide, rfl, rfl, by decide⟩
theorem fP_X11_106 : jP RX11 106 11 41 true true (.array .int) := ⟨_, _, _, tyX11, rfl, i_X11, kF_X11_106, rfl, by decide, rfl, rfl, by decide, tyX11_ok, nmX11, rfl, by decide +kernel, fun _ => rfl⟩
theorem fF_X11_109 : jF RX11 109 11 42 true := ⟨_, _, _, rfl, i_X11, kF_X11_109, rfl, by decide, rfl, rfl, by decide⟩
theorem fP_X11_109 : jP RX11 109 11 42 true true (.array .int) := ⟨_, _, _, tyX11, rfl, i_X11, kF_X11_109, rfl, by decide, rfl, rfl, by decide, tyX11_ok, nmX11, rfl, by decide +kernel, fun _ => rfl⟩
theorem fF_X11_112 : jF RX11 112 11 43 true := ⟨_, _, _, rfl, i_X11, kF_X11_112, rfl, by decide, rfl, rfl, by decide⟩
theorem fP_X11_112 : jP RX11 112 11 43 true true (.array .int) := ⟨_, _, _, tyX11, rfl, i_X11, kF_X11_112, rfl, by decide, rfl, rfl, by decide, tyX11_ok, nmX11, rfl, by decide +kernel, fun _ => rfl⟩
theorem fF_X11_115 : jF RX11 115 11 44 true := ⟨_, _, _, rfl, i_X11, kF_X11_115, rfl, by decide, rfl, rfl, by decide⟩
theorem fP_X11_115 : jP RX11 115 11 44 true true (.array .int) := ⟨_, _, _, tyX11, rfl, i_X11, kF_X11_115, rfl, by decide, rfl, rfl, by decide, tyX11_ok, nmX11, rfl, by decide +kernel, fun _ => rfl⟩
theorem fF_X11_118 : jF RX11 118 11 45 true := ⟨_, _, _, rfl, i_X11, kF_X11_118, rfl, by decide, rfl, rfl, by decide⟩
theorem fP_X11_118 : jP RX11 118 11 45 true true (.array .int) := ⟨_, _, _, tyX11, rfl, i_X11, kF_X11_118, rfl, by decide, rfl, rfl, by decide, tyX11_ok, nmX11, rfl, by decide +kernel, fun _ => rfl⟩
theorem fF_X11_121 : jF RX11 121 11 46 true := ⟨_, _, _, rfl, i_X11, kF_X11_121, rfl, by decide, rfl, rfl, by decide⟩
theorem fP_X11_121 : jP RX11 121 11 46 true true (.array .int) := ⟨_, _, _, tyX11, rfl, i_X11, kF_X11_121, rfl, by decide, rfl, rfl, by decide, tyX11_ok, nmX11, rfl, by decide +kernel, fun _ => rfl⟩
theorem fF_X11_124 : jF RX11 124 11 47 true := ⟨_, _, _, rfl, i_X11, kF_X11_124, rfl, by decide, rfl, rfl, by decide⟩
theorem fP_X11_124 : jP RX11 124 11 47 true true (.array .int) := ⟨_, _, _, tyX11, rfl, i_X11, kF_X11_124, rfl, by decide, rfl, rfl, by decide, tyX11_ok, nmX11, rfl, by decide +kernel, fun _ => rfl⟩
theorem fF_X11_127 : jF RX11 127 11 48 true := ⟨_, _, _, rfl, i_X11, kF_X11_127, rfl, by decide, rfl, rfl, by decide⟩
theorem fP_X11_127 : jP RX11 127 11 48 true true (.array .int) := ⟨_, _, _, tyX11, rfl, i_X11, kF_X11_127, rfl, by decide, rfl, rfl, by decide, tyX11_ok, nmX11, rfl, by decide +kernel, fun _ => rfl⟩
theorem fG_L_100 : jGv RL 100 yX10_judge cX10_judge 4 ((Option.some FieldType.int)) 2 10 := ⟨⟨kM_L_100, kN_X10, kC_yX10_judge, by decide +kernel⟩, kI_yX10_judge, kV_yX10_judge, by decide, _, rfl, rfl⟩
theorem fG_L_103 : jGv RL 103 yX11_judge cX11_judge 3 ((Option.some FieldType.int)) 2 11 := ⟨⟨kM_L_103, kN_X11, kC_yX11_judge, by decide +kernel⟩, kI_yX11_judge, kV_yX11_judge, by decide, _, rfl, rfl⟩
theorem fG_L_104 : jGv RL 104 yX10_why cX10_why 4 ((Option.some FieldType.int)) 2 10 := ⟨⟨kM_L_104, kN_X10, kC_yX10_why, by decide +kernel⟩, kI_yX10_why, kV_yX10_why, by decide, _, rfl, rfl⟩
theorem fG_L_107 : jGv RL 107 yX11_why cX11_why 3 ((Option.some FieldType.int)) 2 11 := ⟨⟨kM_L_107, kN_X11, kC_yX11_why, by decide +kernel⟩, kI_yX11_why, kV_yX11_why, by decide, _, rfl, rfl⟩
theorem fG_L_108 : jGv RL 108 yX10_ways cX10_ways 5 ((Option.some FieldType.int)) 2 10 := ⟨⟨kM_L_108, kN_X10, kC_yX10_ways, by decide +kernel⟩, kI_yX10_ways, kV_yX10_ways, by decide, _, rfl, rfl⟩
theorem fG_L_111 : jGv RL 111 yX11_ways cX11_ways 3 ((Option.some FieldType.int)) 2 11 := ⟨⟨kM_L_111, kN_X11, kC_yX11_ways, by decide +kernel⟩, kI_yX11_ways, kV_yX11_ways, by decide, _, rfl, rfl⟩
theorem fG_L_112 : jGv RL 112 yX10_touched cX10_touched 5 ((Option.some FieldType.int)) 3 10 := ⟨⟨kM_L_112, kN_X10, kC_yX10_touched, by decide +kernel⟩, kI_yX10_touched, kV_yX10_touched, by decide, _, rfl, rfl⟩
theorem fG_L_115 : jGv RL 115 yX11_touched cX11_touched 6 ((Option.some FieldType.int)) 3 11 := ⟨⟨kM_L_115, kN_X11, kC_yX11_touched, by decide +kernel⟩, kI_yX11_touched, kV_yX11_touched, by decide, _, rfl, rfl⟩
theorem fG_L_116 : jGv RL 116 yX10_buyers cX10_buyers 3 ((Option.some FieldType.int)) 1 10 := ⟨⟨kM_L_116, kN_X10, kC_yX10_buyers, by decide +kernel⟩, kI_yX10_buyers, kV_yX10_buyers, by decide, _, rfl, rfl⟩
theorem fG_L_119 : jGv RL 119 yX11_buyers cX11_buyers 4 ((Option.some FieldType.int)) 1 11 := ⟨⟨kM_L_119, kN_X11, kC_yX11_buyers, by decide +kernel⟩, kI_yX11_buyers, kV_yX11_buyers, by decide, _, rfl, rfl⟩
theorem fG_L_12 : jGi RL 12 yX11_init cX11_init 1 0 := ⟨⟨kM_L_12, kN_X11, kC_yX11_init, by decide +kernel⟩, kI_yX11_init, rfl⟩
theorem fG_L_120 : jGv RL 120 yX10_want cX10_want 3 ((Option.some FieldType.int)) 1 10 := ⟨⟨kM_L_120, kN_X10, kC_yX10_want, by decide +kernel⟩, kI_yX10_want, kV_yX10_want, by decide, _, rfl, rfl⟩
theorem fG_L_123 : jGv RL 123 yX11_want cX11_want 3 ((Option.some FieldType.int)) 1 11 := ⟨⟨kM_L_123, kN_X11, kC_yX11_want, by decide +kernel⟩, kI_yX11_want, kV_yX11_want, by decide, _, rfl, rfl⟩
theorem fG_L_124 : jGv RL 124 yX10_plan cX10_plan 2 ((Option.some FieldType.int)) 1 10 := ⟨⟨kM_L_124, kN_X10, kC_yX10_plan, by decide +kernel⟩, kI_yX10_plan, kV_yX10_plan, by decide, _, rfl, rfl⟩
theorem fG_L_127 : jGv RL 127 yX11_plan cX11_plan 2 ((Option.some FieldType.int)) 1 11 := ⟨⟨kM_L_127, kN_X11, kC_yX11_plan, by decide +kernel⟩, kI_yX11_plan, kV_yX11_plan, by decide, _, rfl, rfl⟩
theorem fG_L_128 : jGv RL 128 yX10_told cX10_told 4 ((Option.some FieldType.int)) 2 10 := ⟨⟨kM_L_128, kN_X10, kC_yX10_told, by decide +kernel⟩, kI_yX10_told, kV_yX10_told, by decide, _, rfl, rfl⟩
theorem fG_L_13 : jGv RL 13 yX10_field cX10_field 6 ((Option.some FieldType.int)) 4 10 := ⟨⟨kM_L_13, kN_X10, kC_yX10_field, by decide +kernel⟩, kI_yX10_field, kV_yX10_field, by decide, _, rfl, rfl⟩
theorem fG_L_131 : jGv RL 131 yX11_told cX11_told 3 ((Option.some FieldType.int)) 2 11 := ⟨⟨kM_L_131, kN_X11, kC_yX11_told, by decide +kernel⟩, kI_yX11_told, kV_yX11_told, by decide, _, rfl, rfl⟩
theorem fG_L_132 : jGv RL 132 yX10_sack cX10_sack 4 ((Option.some FieldType.int)) 2 10 := ⟨⟨kM_L_132, kN_X10, kC_yX10_sack, by decide +kernel⟩, kI_yX10_sack, kV_yX10_sack, by decide, _, rfl, rfl⟩
theorem fG_L_135 : jGv RL 135 yX11_sack cX11_sack 3 ((Option.some FieldType.int)) 2 11 := ⟨⟨kM_L_135, kN_X11, kC_yX11_sack, by decide +kernel⟩, kI_yX11_sack, kV_yX11_sack, by decide, _, rfl, rfl⟩
theorem fG_L_136 : jGv RL 136 yX10_count cX10_count 2 ((Option.some FieldType.int)) 1 10 := ⟨⟨kM_L_136, kN_X10, kC_yX10_count, by decide +kernel⟩, kI_yX10_count, kV_yX10_count, by decide, _, rfl, rfl⟩
theorem fG_L_139 : jGv RL 139 yX11_count cX11_count 2 ((Option.some FieldType.int)) 1 11 := ⟨⟨kM_L_139, kN_X11, kC_yX11_count, by decide +kernel⟩, kI_yX11_count, kV_yX11_count, by decide, _, rfl, rfl⟩
theorem fG_L_17 : jGv RL 17 yX11_field cX11_field 5 ((Option.some FieldType.int)) 4 11 := ⟨⟨kM_L_17, kN_X11, kC_yX11_field, by decide +kernel⟩, kI_yX11_field, kV_yX11_field, by decide, _, rfl, rfl⟩
theorem fG_L_18 : jGv RL 18 yX10_near cX10_near 5 ((Option.some FieldType.int)) 2 10 := ⟨⟨kM_L_18, kN_X10, kC_yX10_near, by decide +kernel⟩, kI_yX10_near, kV_yX10_near, by decide, _, rfl, rfl⟩
theorem fG_L_22 : jGv RL 22 yX11_near cX11_near 3 ((Option.some FieldType.int)) 2 11 := ⟨⟨kM_L_22, kN_X11, kC_yX11_near, by decide +kernel⟩, kI_yX11_near, kV_yX11_near, by decide, _, rfl, rfl⟩
theorem fG_L_23 : jGv RL 23 yX10_stand cX10_stand 5 ((Option.some FieldType.boolean)) 3 10 := ⟨⟨kM_L_23, kN_X10, kC_yX10_stand, by decide +kernel⟩, kI_yX10_stand, kV_yX10_stand, by decide, _, rfl, rfl⟩
theorem fG_L_27 : jGv RL 27 yX11_stand cX11_stand 4 ((Option.some FieldType.boolean)) 3 11 := ⟨⟨kM_L_27, kN_X11, kC_yX11_stand, by decide +kernel⟩, kI_yX11_stand, kV_yX11_stand, by decide, _, rfl, rfl⟩
theorem fG_L_28 : jGv RL 28 yX10_stands cX10_stands 5 ((Option.some FieldType.int)) 3 10 := ⟨⟨kM_L_28, kN_X10, kC_yX10_stands, by decide +kernel⟩, kI_yX10_stands, kV_yX10_stands, by decide, _, rfl, rfl⟩
theorem fG_L_32 : jGv RL 32 yX11_stands cX11_stands 4 ((Option.some FieldType.int)) 3 11 := ⟨⟨kM_L_32, kN_X11, kC_yX11_stands, by decide +kernel⟩, kI_yX11_stands, kV_yX11_stands, by decide, _, rfl, rfl⟩
theorem fG_L_33 : jGv RL 33 yX10_statute cX10_statute 4 ((Option.some FieldType.int)) 3 10 := ⟨⟨kM_L_33, kN_X10, kC_yX10_statute, by decide +kernel⟩, kI_yX10_statute, kV_yX10_statute, by decide, _, rfl, rfl⟩
theorem fG_L_36 : jGv RL 36 yX11_statute cX11_statute 4 ((Option.some FieldType.int)) 3 11 := ⟨⟨kM_L_36, kN_X11, kC_yX11_statute, by decide +kernel⟩, kI_yX11_statute, kV_yX11_statute, by decide, _, rfl, rfl⟩
theorem fG_L_37 : jGv RL 37 yX10_force cX10_force 4 ((Option.some FieldType.int)) 3 10 := ⟨⟨kM_L_37, kN_X10, kC_yX10_force, by decide +kernel⟩, kI_yX10_force, kV_yX10_force, by decide, _, rfl, rfl⟩
theorem fG_L_40 : jGv RL 40 yX11_force cX11_force 4 ((Option.some FieldType.int)) 3 11 := ⟨⟨kM_L_40, kN_X11, kC_yX11_force, by decide +kernel⟩, kI_yX11_force, kV_yX11_force, by decide, _, rfl, rfl⟩
theorem fG_L_41 : jGv RL 41 yX10_tube cX10_tube 3 ((Option.some FieldType.int)) 1 10 := ⟨⟨kM_L_41, kN_X10, kC_yX10_tube, by decide +kernel⟩, kI_yX10_tube, kV_yX10_tube, by decide, _, rfl, rfl⟩
theorem fG_L_45 : jGv RL 45 yX11_tube cX11_tube 3 ((Option.some FieldType.int)) 1 11 := ⟨⟨kM_L_45, kN_X11, kC_yX11_tube, by decide +kernel⟩, kI_yX11_tube, kV_yX11_tube, by decide, _, rfl, rfl⟩
theorem fG_L_46 : jGv RL 46 yX10_sow cX10_sow 8 ((Option.some FieldType.int)) 3 10 := ⟨⟨kM_L_46, kN_X10, kC_yX10_sow, by decide +kernel⟩, kI_yX10_sow, kV_yX10_sow, by decide, _, rfl, rfl⟩
theorem fG_L_49 : jGv RL 49 yX11_sow cX11_sow 6 ((Option.some FieldType.int)) 3 11 := ⟨⟨kM_L_49, kN_X11, kC_yX11_sow, by decide +kernel⟩, kI_yX11_sow, kV_yX11_sow, by decide, _, rfl, rfl⟩
theorem fG_L_50 : jGv RL 50 yX10_harvest cX10_harvest 4 ((Option.some FieldType.boolean)) 2 10 := ⟨⟨kM_L_50, kN_X10, kC_yX10_harvest, by decide +kernel⟩, kI_yX10_harvest, kV_yX10_harvest, by decide, _, rfl, rfl⟩
theorem fG_L_54 : jGv RL 54 yX11_harvest cX11_harvest 3 ((Option.some FieldType.boolean)) 2 11 := ⟨⟨kM_L_54, kN_X11, kC_yX11_harvest, by decide +kernel⟩, kI_yX11_harvest, kV_yX11_harvest, by decide, _, rfl, rfl⟩
theorem fG_L_55 : jGv RL 55 yX10_mix cX10_mix 8 ((Option.some FieldType.int)) 4 10 := ⟨⟨kM_L_55, kN_X10, kC_yX10_mix, by decide +kernel⟩, kI_yX10_mix, kV_yX10_mix, by decide, _, rfl, rfl⟩
theorem fG_L_58 : jGv RL 58 yX11_mix cX11_mix 7 ((Option.some FieldType.int)) 4 11 := ⟨⟨kM_L_58, kN_X11, kC_yX11_mix, by decide +kernel⟩, kI_yX11_mix, kV_yX11_mix, by decide, _, rfl, rfl⟩
theorem fG_L_59 : jGv RL 59 yX10_bag cX10_bag 4 ((Option.some FieldType.int)) 2 10 := ⟨⟨kM_L_59, kN_X10, kC_yX10_bag, by decide +kernel⟩, kI_yX10_bag, kV_yX10_bag, by decide, _, rfl, rfl⟩
theorem fG_L_62 : jGv RL 62 yX11_bag cX11_bag 3 ((Option.some FieldType.int)) 2 11 := ⟨⟨kM_L_62, kN_X11, kC_yX11_bag, by decide +kernel⟩, kI_yX11_bag, kV_yX11_bag, by decide, _, rfl, rfl⟩
theorem fG_L_63 : jGv RL 63 yX10_open cX10_open 3 ((Option.some FieldType.boolean)) 1 10 := ⟨⟨kM_L_63, kN_X10, kC_yX10_open, by decide +kernel⟩, kI_yX10_open, kV_yX10_open, by decide, _, rfl, rfl⟩
theorem fG_L_67 : jGv RL 67 yX11_open cX11_open 2 ((Option.some FieldType.boolean)) 1 11 := ⟨⟨kM_L_67, kN_X11, kC_yX11_open, by decide +kernel⟩, kI_yX11_open, kV_yX11_open, by decide, _, rfl, rfl⟩
theorem fG_L_68 : jGv RL 68 yX10_seal cX10_seal 3 ((Option.some FieldType.int)) 1 10 := ⟨⟨kM_L_68, kN_X10, kC_yX10_seal, by decide +kernel⟩, kI_yX10_seal, kV_yX10_seal, by decide, _, rfl, rfl⟩
theorem fG_L_71 : jGv RL 71 yX11_seal cX11_seal 2 ((Option.some FieldType.int)) 1 11 := ⟨⟨kM_L_71, kN_X11, kC_yX11_seal, by decide +kernel⟩, kI_yX11_seal, kV_yX11_seal, by decide, _, rfl, rfl⟩
theorem fG_L_72 : jGv RL 72 yX10_sell cX10_sell 4 ((Option.some FieldType.boolean)) 2 10 := ⟨⟨kM_L_72, kN_X10, kC_yX10_sell, by decide +kernel⟩, kI_yX10_sell, kV_yX10_sell, by decide, _, rfl, rfl⟩
theorem fG_L_75 : jGv RL 75 yX11_sell cX11_sell 3 ((Option.some FieldType.boolean)) 2 11 := ⟨⟨kM_L_75, kN_X11, kC_yX11_sell, by decide +kernel⟩, kI_yX11_sell, kV_yX11_sell, by decide, _, rfl, rfl⟩
theorem fG_L_76 : jGv RL 76 yX10_toss cX10_toss 4 ((Option.some FieldType.boolean)) 2 10 := ⟨⟨kM_L_76, kN_X10, kC_yX10_toss, by decide +kernel⟩, kI_yX10_toss, kV_yX10_toss, by decide, _, rfl, rfl⟩
theorem fG_L_79 : jGv RL 79 yX11_toss cX11_toss 3 ((Option.some FieldType.boolean)) 2 11 := ⟨⟨kM_L_79, kN_X11, kC_yX11_toss, by decide +kernel⟩, kI_yX11_toss, kV_yX11_toss, by decide, _, rfl, rfl⟩
theorem fG_L_80 : jGv RL 80 yX10_look cX10_look 5 ((Option.some FieldType.int)) 3 10 := ⟨⟨kM_L_80, kN_X10, kC_yX10_look, by decide +kernel⟩, kI_yX10_look, kV_yX10_look, by decide, _, rfl, rfl⟩
theorem fG_L_83 : jGv RL 83 yX11_look cX11_look 4 ((Option.some FieldType.int)) 3 11 := ⟨⟨kM_L_83, kN_X11, kC_yX11_look, by decide +kernel⟩, kI_yX11_look, kV_yX11_look, by decide, _, rfl, rfl⟩
theorem fG_L_86 : jGv RL 86 yX10_drawn cX10_drawn 11 ((Option.some FieldType.int)) 4 10 := ⟨⟨kM_L_86, kN_X10, kC_yX10_drawn, by decide +kernel⟩, kI_yX10_drawn, kV_yX10_drawn, by decide, _, rfl, rfl⟩
theorem fG_L_9 : jGi RL 9 yX10_init cX10_init 1 0 := ⟨⟨kM_L_9, kN_X10, kC_yX10_init, by decide +kernel⟩, kI_yX10_init, rfl⟩
theorem fG_L_90 : jGv RL 90 yX11_drawn cX11_drawn 11 ((Option.some FieldType.int)) 4 11 := ⟨⟨kM_L_90, kN_X11, kC_yX11_drawn, by decide +kernel⟩, kI_yX11_drawn, kV_yX11_drawn, by decide, _, rfl, rfl⟩
theorem fG_L_91 : jGv RL 91 yX10_prove cX10_prove 3 ((Option.some FieldType.boolean)) 1 10 := ⟨⟨kM_L_91, kN_X10, kC_yX10_prove, by decide +kernel⟩, kI_yX10_prove, kV_yX10_prove, by decide, _, rfl, rfl⟩
theorem fG_L_94 : jGv RL 94 yX11_prove cX11_prove 2 ((Option.some FieldType.boolean)) 1 11 := ⟨⟨kM_L_94, kN_X11, kC_yX11_prove, by decide +kernel⟩, kI_yX11_prove, kV_yX11_prove, by decide, _, rfl, rfl⟩
theorem fG_L_95 : jGv RL 95 yX10_year cX10_year 1 ((Option.some FieldType.int)) 0 10 := ⟨⟨kM_L_95, kN_X10, kC_yX10_year, by decide +kernel⟩, kI_yX10_year, kV_yX10_year, by decide, _, rfl, rfl⟩
theorem fG_L_99 : jGv RL 99 yX11_year cX11_year 1 ((Option.some FieldType.int)) 0 11 := ⟨⟨kM_L_99, kN_X11, kC_yX11_year, by decide +kernel⟩, kI_yX11_year, kV_yX11_year, by decide, _, rfl, rfl⟩
theorem fG_X0_103 : jGv RX0 103 yX2_fieldAt cX2_fieldAt 2 ((Option.some (FieldType.object "CleanSeed$Field"))) 1 2 := ⟨⟨kM_X0_103, kN_X2, kC_yX2_fieldAt, by decide +kernel⟩, kI_yX2_fieldAt, kV_yX2_fieldAt, by decide, _, rfl, rfl⟩
theorem fG_X0_107 : jGv RX0 107 yX3_cropIn cX3_cropIn 5 ((Option.some FieldType.int)) 2 3 := ⟨⟨kM_X0_107, kN_X3, kC_yX3_cropIn, by decide +kernel⟩, kI_yX3_cropIn, kV_yX3_cropIn, by decide, _, rfl, rfl⟩
theorem fG_X0_111 : jGv RX0 111 yX3_squareTo cX3_squareTo 4 ((Option.some FieldType.int)) 1 3 := ⟨⟨kM_X0_111, kN_X3, kC_yX3_squareTo, by decide +kernel⟩, kI_yX3_squareTo, kV_yX3_squareTo, by decide, _, rfl, rfl⟩
theorem fG_X0_115 : jGv RX0 115 yX3_grownIn cX3_grownIn 2 ((Option.some (FieldType.object "CleanSeed$Lot"))) 1 3 := ⟨⟨kM_X0_115, kN_X3, kC_yX3_grownIn, by decide +kernel⟩, kI_yX3_grownIn, kV_yX3_grownIn, by decide, _, rfl, rfl⟩
theorem fG_X0_118 : jGv RX0 118 yX0_isAsGood cX0_isAsGood 3 ((Option.some FieldType.boolean)) 2 0 := ⟨⟨kM_X0_118, kN_X0, kC_yX0_isAsGood, by decide +kernel⟩, kI_yX0_isAsGood, kV_yX0_isAsGood, by decide, _, rfl, rfl⟩
theorem fG_X0_21 : jGv RX0 21 yX2_lotAt cX2_lotAt 2 ((Option.some (FieldType.object "CleanSeed$Lot"))) 1 2 := ⟨⟨kM_X0_21, kN_X2, kC_yX2_lotAt, by decide +kernel⟩, kI_yX2_lotAt, kV_yX2_lotAt, by decide, _, rfl, rfl⟩
theorem fG_X0_30 : jGv RX0 30 yX0_assess cX0_assess 3 (none) 2 0 := ⟨⟨kM_X0_30, kN_X0, kC_yX0_assess, by decide +kernel⟩, kI_yX0_assess, kV_yX0_assess, by decide, _, rfl, rfl⟩
theorem fG_X0_34 : jGv RX0 34 yX0_assessUpTo cX0_assessUpTo 5 (none) 2 0 := ⟨⟨kM_X0_34, kN_X0, kC_yX0_assessUpTo, by decide +kernel⟩, kI_yX0_assessUpTo, kV_yX0_assessUpTo, by decide, _, rfl, rfl⟩
theorem fG_X0_41 : jGv RX0 41 yX0_reasonToRefuse cX0_reasonToRefuse 3 ((Option.some FieldType.int)) 2 0 := ⟨⟨kM_X0_41, kN_X0, kC_yX0_reasonToRefuse, by decide +kernel⟩, kI_yX0_reasonToRefuse, kV_yX0_reasonToRefuse, by decide, _, rfl, rfl⟩
theorem fG_X0_48 : jGv RX0 48 yX6_rankOfMothers cX6_rankOfMothers 3 ((Option.some FieldType.int)) 0 6 := ⟨⟨kM_X0_48, kN_X6, kC_yX6_rankOfMothers, by decide +kernel⟩, kI_yX6_rankOfMothers, kV_yX6_rankOfMothers, by decide, _, rfl, rfl⟩
theorem fG_X0_52 : jGv RX0 52 yX6_isFalseAsKnownIn cX6_isFalseAsKnownIn 2 ((Option.some FieldType.boolean)) 1 6 := ⟨⟨kM_X0_52, kN_X6, kC_yX6_isFalseAsKnownIn, by decide +kernel⟩, kI_yX6_isFalseAsKnownIn, kV_yX6_isFalseAsKnownIn, by decide, _, rfl, rfl⟩
theorem fG_X0_56 : jGv RX0 56 yX0_reasonInField cX0_reasonInField 7 ((Option.some FieldType.int)) 2 0 := ⟨⟨kM_X0_56, kN_X0, kC_yX0_reasonInField, by decide +kernel⟩, kI_yX0_reasonInField, kV_yX0_reasonInField, by decide, _, rfl, rfl⟩
theorem fG_X0_63 : jGv RX0 63 yX0_isCrowded cX0_isCrowded 6 ((Option.some FieldType.boolean)) 2 0 := ⟨⟨kM_X0_63, kN_X0, kC_yX0_isCrowded, by decide +kernel⟩, kI_yX0_isCrowded, kV_yX0_isCrowded, by decide, _, rfl, rfl⟩
theorem fG_X0_70 : jGv RX0 70 yX2_inForce cX2_inForce 7 ((Option.some FieldType.int)) 3 2 := ⟨⟨kM_X0_70, kN_X2, kC_yX2_inForce, by decide +kernel⟩, kI_yX2_inForce, kV_yX2_inForce, by decide, _, rfl, rfl⟩
theorem fG_X0_77 : jGv RX0 77 yX3_stoodAheadOf cX3_stoodAheadOf 7 ((Option.some FieldType.boolean)) 4 3 := ⟨⟨kM_X0_77, kN_X3, kC_yX3_stoodAheadOf, by decide +kernel⟩, kI_yX3_stoodAheadOf, kV_yX3_stoodAheadOf, by decide, _, rfl, rfl⟩
theorem fG_X0_83 : jGv RX0 83 yX6_lastLookAsKnownIn cX6_lastLookAsKnownIn 3 ((Option.some (FieldType.object "CleanSeed$Look"))) 1 6 := ⟨⟨kM_X0_83, kN_X6, kC_yX6_lastLookAsKnownIn, by decide +kernel⟩, kI_yX6_lastLookAsKnownIn, kV_yX6_lastLookAsKnownIn, by decide, _, rfl, rfl⟩
theorem fG_X10_103 : jGv RX10 103 yX2_addLot cX2_addLot 2 ((Option.some FieldType.int)) 1 2 := ⟨⟨kM_X10_103, kN_X2, kC_yX2_addLot, by decide +kernel⟩, kI_yX2_addLot, kV_yX2_addLot, by decide, _, rfl, rfl⟩
theorem fG_X10_107 : jGv RX10 107 yX2_lotAt cX2_lotAt 2 ((Option.some (FieldType.object "CleanSeed$Lot"))) 1 2 := ⟨⟨kM_X10_107, kN_X2, kC_yX2_lotAt, by decide +kernel⟩, kI_yX2_lotAt, kV_yX2_lotAt, by decide, _, rfl, rfl⟩
theorem fG_X10_111 : jGv RX10 111 yX6_has cX6_has 2 ((Option.some FieldType.boolean)) 1 6 := ⟨⟨kM_X10_111, kN_X6, kC_yX6_has, by decide +kernel⟩, kI_yX6_has, kV_yX6_has, by decide, _, rfl, rfl⟩
theorem fG_X10_121 : jGv RX10 121 yX3_grownIn cX3_grownIn 2 ((Option.some (FieldType.object "CleanSeed$Lot"))) 1 3 := ⟨⟨kM_X10_121, kN_X3, kC_yX3_grownIn, by decide +kernel⟩, kI_yX3_grownIn, kV_yX3_grownIn, by decide, _, rfl, rfl⟩
theorem fG_X10_135 : jGv RX10 135 yX3_grow cX3_grow 2 (none) 1 3 := ⟨⟨kM_X10_135, kN_X3, kC_yX3_grow, by decide +kernel⟩, kI_yX3_grow, kV_yX3_grow, by decide, _, rfl, rfl⟩
theorem fG_X10_158 : jGv RX10 158 yX10_isOutNow cX10_isOutNow 2 ((Option.some FieldType.boolean)) 1 10 := ⟨⟨kM_X10_158, kN_X10, kC_yX10_isOutNow, by decide +kernel⟩, kI_yX10_isOutNow, kV_yX10_isOutNow, by decide, _, rfl, rfl⟩
theorem fG_X10_167 : jGv RX10 167 yX2_nextSeal cX2_nextSeal 1 ((Option.some FieldType.int)) 0 2 := ⟨⟨kM_X10_167, kN_X2, kC_yX2_nextSeal, by decide +kernel⟩, kI_yX2_nextSeal, kV_yX2_nextSeal, by decide, _, rfl, rfl⟩
theorem fG_X10_171 : jGi RX10 171 yX1_init cX1_init 4 3 := ⟨⟨kM_X10_171, kN_X1, kC_yX1_init, by decide +kernel⟩, kI_yX1_init, rfl⟩
theorem fG_X10_174 : jGv RX10 174 yX2_addBag cX2_addBag 2 ((Option.some FieldType.int)) 1 2 := ⟨⟨kM_X10_174, kN_X2, kC_yX2_addBag, by decide +kernel⟩, kI_yX2_addBag, kV_yX2_addBag, by decide, _, rfl, rfl⟩
theorem fG_X10_178 : jGv RX10 178 yX2_bagAt cX2_bagAt 2 ((Option.some (FieldType.object "CleanSeed$Bag"))) 1 2 := ⟨⟨kM_X10_178, kN_X2, kC_yX2_bagAt, by decide +kernel⟩, kI_yX2_bagAt, kV_yX2_bagAt, by decide, _, rfl, rfl⟩
theorem fG_X10_18 : jGi RX10 18 yX0_init cX0_init 2 1 := ⟨⟨kM_X10_18, kN_X0, kC_yX0_init, by decide +kernel⟩, kI_yX0_init, rfl⟩
theorem fG_X10_182 : jGv RX10 182 yX1_isOpened cX1_isOpened 1 ((Option.some FieldType.boolean)) 0 1 := ⟨⟨kM_X10_182, kN_X1, kC_yX1_isOpened, by decide +kernel⟩, kI_yX1_isOpened, kV_yX1_isOpened, by decide, _, rfl, rfl⟩
theorem fG_X10_189 : jGv RX10 189 yX1_isSold cX1_isSold 1 ((Option.some FieldType.boolean)) 0 1 := ⟨⟨kM_X10_189, kN_X1, kC_yX1_isSold, by decide +kernel⟩, kI_yX1_isSold, kV_yX1_isSold, by decide, _, rfl, rfl⟩
theorem fG_X10_210 : jGi RX10 210 yX5_init cX5_init 5 4 := ⟨⟨kM_X10_210, kN_X5, kC_yX5_init, by decide +kernel⟩, kI_yX5_init, rfl⟩
theorem fG_X10_213 : jGv RX10 213 yX6_lookCount cX6_lookCount 1 ((Option.some FieldType.int)) 0 6 := ⟨⟨kM_X10_213, kN_X6, kC_yX6_lookCount, by decide +kernel⟩, kI_yX6_lookCount, kV_yX6_lookCount, by decide, _, rfl, rfl⟩
theorem fG_X10_228 : jGv RX10 228 yX10_lotKnownIn cX10_lotKnownIn 4 ((Option.some (FieldType.object "CleanSeed$Lot"))) 2 10 := ⟨⟨kM_X10_228, kN_X10, kC_yX10_lotKnownIn, by decide +kernel⟩, kI_yX10_lotKnownIn, kV_yX10_lotKnownIn, by decide, _, rfl, rfl⟩
theorem fG_X10_235 : jGv RX10 235 yX0_assessUpTo cX0_assessUpTo 5 (none) 2 0 := ⟨⟨kM_X10_235, kN_X0, kC_yX0_assessUpTo, by decide +kernel⟩, kI_yX0_assessUpTo, kV_yX0_assessUpTo, by decide, _, rfl, rfl⟩
theorem fG_X10_245 : jGv RX10 245 yX4_traceBelow cX4_traceBelow 5 (none) 1 4 := ⟨⟨kM_X10_245, kN_X4, kC_yX4_traceBelow, by decide +kernel⟩, kI_yX4_traceBelow, kV_yX4_traceBelow, by decide, _, rfl, rfl⟩
theorem fG_X10_251 : jGv RX10 251 yX4_touchedBy cX4_touchedBy 7 ((Option.some FieldType.int)) 3 4 := ⟨⟨kM_X10_251, kN_X4, kC_yX4_touchedBy, by decide +kernel⟩, kI_yX4_touchedBy, kV_yX4_touchedBy, by decide, _, rfl, rfl⟩
theorem fG_X10_255 : jGv RX10 255 yX4_buyersBelow cX4_buyersBelow 5 ((Option.some FieldType.int)) 1 4 := ⟨⟨kM_X10_255, kN_X4, kC_yX4_buyersBelow, by decide +kernel⟩, kI_yX4_buyersBelow, kV_yX4_buyersBelow, by decide, _, rfl, rfl⟩
theorem fG_X10_258 : jGv RX10 258 yX7_forgetAll cX7_forgetAll 1 (none) 0 7 := ⟨⟨kM_X10_258, kN_X7, kC_yX7_forgetAll, by decide +kernel⟩, kI_yX7_forgetAll, kV_yX7_forgetAll, by decide, _, rfl, rfl⟩
theorem fG_X10_261 : jGv RX10 261 yX7_add cX7_add 3 ((Option.some FieldType.int)) 1 7 := ⟨⟨kM_X10_261, kN_X7, kC_yX7_add, by decide +kernel⟩, kI_yX7_add, kV_yX7_add, by decide, _, rfl, rfl⟩
theorem fG_X10_267 : jGv RX10 267 yX7_placeOf cX7_placeOf 3 ((Option.some FieldType.int)) 1 7 := ⟨⟨kM_X10_267, kN_X7, kC_yX7_placeOf, by decide +kernel⟩, kI_yX7_placeOf, kV_yX7_placeOf, by decide, _, rfl, rfl⟩
theorem fG_X10_27 : jGi RX10 27 yX4_init cX4_init 2 1 := ⟨⟨kM_X10_27, kN_X4, kC_yX4_init, by decide +kernel⟩, kI_yX4_init, rfl⟩
theorem fG_X10_271 : jGv RX10 271 yX6_about cX6_about 2 ((Option.some FieldType.int)) 1 6 := ⟨⟨kM_X10_271, kN_X6, kC_yX6_about, by decide +kernel⟩, kI_yX6_about, kV_yX6_about, by decide, _, rfl, rfl⟩
theorem fG_X10_274 : jGv RX10 274 yX1_about cX1_about 2 ((Option.some FieldType.int)) 1 1 := ⟨⟨kM_X10_274, kN_X1, kC_yX1_about, by decide +kernel⟩, kI_yX1_about, kV_yX1_about, by decide, _, rfl, rfl⟩
theorem fG_X10_281 : jGv RX10 281 yX0_countOut cX0_countOut 5 ((Option.some FieldType.int)) 1 0 := ⟨⟨kM_X10_281, kN_X0, kC_yX0_countOut, by decide +kernel⟩, kI_yX0_countOut, kV_yX0_countOut, by decide, _, rfl, rfl⟩
theorem fG_X10_34 : jGi RX10 34 yX7_init cX7_init 2 1 := ⟨⟨kM_X10_34, kN_X7, kC_yX7_init, by decide +kernel⟩, kI_yX7_init, rfl⟩
theorem fG_X10_43 : jGs RX10 43 yX10_within cX10_within 3 ((Option.some FieldType.boolean)) 3 := ⟨⟨kM_X10_43, kN_X10, kC_yX10_within, by decide +kernel⟩, kS_yX10_within⟩
theorem fG_X10_53 : jGi RX10 53 yX3_init cX3_init 6 5 := ⟨⟨kM_X10_53, kN_X3, kC_yX3_init, by decide +kernel⟩, kI_yX3_init, rfl⟩
theorem fG_X10_56 : jGv RX10 56 yX2_addField cX2_addField 2 ((Option.some FieldType.int)) 1 2 := ⟨⟨kM_X10_56, kN_X2, kC_yX2_addField, by decide +kernel⟩, kI_yX2_addField, kV_yX2_addField, by decide, _, rfl, rfl⟩
theorem fG_X10_60 : jGv RX10 60 yX2_fieldAt cX2_fieldAt 2 ((Option.some (FieldType.object "CleanSeed$Field"))) 1 2 := ⟨⟨kM_X10_60, kN_X2, kC_yX2_fieldAt, by decide +kernel⟩, kI_yX2_fieldAt, kV_yX2_fieldAt, by decide, _, rfl, rfl⟩
theorem fG_X10_64 : jGv RX10 64 yX3_squareTo cX3_squareTo 4 ((Option.some FieldType.int)) 1 3 := ⟨⟨kM_X10_64, kN_X3, kC_yX3_squareTo, by decide +kernel⟩, kI_yX3_squareTo, kV_yX3_squareTo, by decide, _, rfl, rfl⟩
theorem fG_X10_73 : jGv RX10 73 yX3_tell cX3_tell 4 (none) 3 3 := ⟨⟨kM_X10_73, kN_X3, kC_yX3_tell, by decide +kernel⟩, kI_yX3_tell, kV_yX3_tell, by decide, _, rfl, rfl⟩
theorem fG_X10_77 : jGv RX10 77 yX3_cropIn cX3_cropIn 5 ((Option.some FieldType.int)) 2 3 := ⟨⟨kM_X10_77, kN_X3, kC_yX3_cropIn, by decide +kernel⟩, kI_yX3_cropIn, kV_yX3_cropIn, by decide, _, rfl, rfl⟩
theorem fG_X10_84 : jGv RX10 84 yX2_addStatute cX2_addStatute 4 ((Option.some FieldType.int)) 3 2 := ⟨⟨kM_X10_84, kN_X2, kC_yX2_addStatute, by decide +kernel⟩, kI_yX2_addStatute, kV_yX2_addStatute, by decide, _, rfl, rfl⟩
theorem fG_X10_88 : jGv RX10 88 yX2_inForce cX2_inForce 7 ((Option.some FieldType.int)) 3 2 := ⟨⟨kM_X10_88, kN_X2, kC_yX2_inForce, by decide +kernel⟩, kI_yX2_inForce, kV_yX2_inForce, by decide, _, rfl, rfl⟩
theorem fG_X10_96 : jGi RX10 96 yX6_init cX6_init 5 4 := ⟨⟨kM_X10_96, kN_X6, kC_yX6_init, by decide +kernel⟩, kI_yX6_init, rfl⟩
theorem fG_X10_99 : jGv RX10 99 yX6_gain cX6_gain 2 (none) 1 6 := ⟨⟨kM_X10_99, kN_X6, kC_yX6_gain, by decide +kernel⟩, kI_yX6_gain, kV_yX6_gain, by decide, _, rfl, rfl⟩
theorem fG_X11_134 : jGs RX11 134 yX11_in cX11_in 3 ((Option.some FieldType.boolean)) 3 := ⟨⟨kM_X11_134, kN_X11, kC_yX11_in, by decide +kernel⟩, kS_yX11_in⟩
theorem fG_X11_153 : jGv RX11 153 yX11_isField cX11_isField 2 ((Option.some FieldType.boolean)) 1 11 := ⟨⟨kM_X11_153, kN_X11, kC_yX11_isField, by decide +kernel⟩, kI_yX11_isField, kV_yX11_isField, by decide, _, rfl, rfl⟩
theorem fG_X11_157 : jGv RX11 157 yX11_nearness cX11_nearness 5 ((Option.some FieldType.int)) 2 11 := ⟨⟨kM_X11_157, kN_X11, kC_yX11_nearness, by decide +kernel⟩, kI_yX11_nearness, kV_yX11_nearness, by decide, _, rfl, rfl⟩
theorem fG_X11_160 : jGv RX11 160 yX11_isYear cX11_isYear 2 ((Option.some FieldType.boolean)) 1 11 := ⟨⟨kM_X11_160, kN_X11, kC_yX11_isYear, by decide +kernel⟩, kI_yX11_isYear, kV_yX11_isYear, by decide, _, rfl, rfl⟩
theorem fG_X11_166 : jGv RX11 166 yX11_lotIn cX11_lotIn 4 ((Option.some FieldType.int)) 2 11 := ⟨⟨kM_X11_166, kN_X11, kC_yX11_lotIn, by decide +kernel⟩, kI_yX11_lotIn, kV_yX11_lotIn, by decide, _, rfl, rfl⟩
theorem fG_X11_169 : jGv RX11 169 yX11_standing cX11_standing 7 ((Option.some FieldType.int)) 3 11 := ⟨⟨kM_X11_169, kN_X11, kC_yX11_standing, by decide +kernel⟩, kI_yX11_standing, kV_yX11_standing, by decide, _, rfl, rfl⟩
theorem fG_X11_173 : jGs RX11 173 yX11_isValue cX11_isValue 2 ((Option.some FieldType.boolean)) 2 := ⟨⟨kM_X11_173, kN_X11, kC_yX11_isValue, by decide +kernel⟩, kS_yX11_isValue⟩
theorem fG_X11_180 : jGv RX11 180 yX11_inForce cX11_inForce 7 ((Option.some FieldType.int)) 3 11 := ⟨⟨kM_X11_180, kN_X11, kC_yX11_inForce, by decide +kernel⟩, kI_yX11_inForce, kV_yX11_inForce, by decide, _, rfl, rfl⟩
theorem fG_X11_183 : jGv RX11 183 yX11_lot cX11_lot 4 ((Option.some FieldType.int)) 2 11 := ⟨⟨kM_X11_183, kN_X11, kC_yX11_lot, by decide +kernel⟩, kI_yX11_lot, kV_yX11_lot, by decide, _, rfl, rfl⟩
theorem fG_X11_186 : jGv RX11 186 yX11_isLot cX11_isLot 2 ((Option.some FieldType.boolean)) 1 11 := ⟨⟨kM_X11_186, kN_X11, kC_yX11_isLot, by decide +kernel⟩, kI_yX11_isLot, kV_yX11_isLot, by decide, _, rfl, rfl⟩
theorem fG_X11_193 : jGv RX11 193 yX11_classOf cX11_classOf 5 ((Option.some FieldType.int)) 2 11 := ⟨⟨kM_X11_193, kN_X11, kC_yX11_classOf, by decide +kernel⟩, kI_yX11_classOf, kV_yX11_classOf, by decide, _, rfl, rfl⟩
theorem fG_X11_199 : jGv RX11 199 yX11_isBag cX11_isBag 2 ((Option.some FieldType.boolean)) 1 11 := ⟨⟨kM_X11_199, kN_X11, kC_yX11_isBag, by decide +kernel⟩, kI_yX11_isBag, kV_yX11_isBag, by decide, _, rfl, rfl⟩
theorem fG_X11_205 : jGv RX11 205 yX11_looksOf cX11_looksOf 5 ((Option.some FieldType.int)) 2 11 := ⟨⟨kM_X11_205, kN_X11, kC_yX11_looksOf, by decide +kernel⟩, kI_yX11_looksOf, kV_yX11_looksOf, by decide, _, rfl, rfl⟩
theorem fG_X11_212 : jGv RX11 212 yX11_judgeOne cX11_judgeOne 5 (none) 2 11 := ⟨⟨kM_X11_212, kN_X11, kC_yX11_judgeOne, by decide +kernel⟩, kI_yX11_judgeOne, kV_yX11_judgeOne, by decide, _, rfl, rfl⟩
theorem fG_X11_216 : jGv RX11 216 yX11_wrongField cX11_wrongField 11 ((Option.some FieldType.int)) 2 11 := ⟨⟨kM_X11_216, kN_X11, kC_yX11_wrongField, by decide +kernel⟩, kI_yX11_wrongField, kV_yX11_wrongField, by decide, _, rfl, rfl⟩
theorem fG_X11_221 : jGv RX11 221 yX11_isJudged cX11_isJudged 3 ((Option.some FieldType.boolean)) 2 11 := ⟨⟨kM_X11_221, kN_X11, kC_yX11_isJudged, by decide +kernel⟩, kI_yX11_isJudged, kV_yX11_isJudged, by decide, _, rfl, rfl⟩
theorem fG_X11_225 : jGv RX11 225 yX11_rowsTo cX11_rowsTo 4 (none) 1 11 := ⟨⟨kM_X11_225, kN_X11, kC_yX11_rowsTo, by decide +kernel⟩, kI_yX11_rowsTo, kV_yX11_rowsTo, by decide, _, rfl, rfl⟩
theorem fG_X11_229 : jGv RX11 229 yX11_isOf cX11_isOf 3 ((Option.some FieldType.boolean)) 2 11 := ⟨⟨kM_X11_229, kN_X11, kC_yX11_isOf, by decide +kernel⟩, kI_yX11_isOf, kV_yX11_isOf, by decide, _, rfl, rfl⟩
theorem fG_X11_232 : jGv RX11 232 yX11_isIn cX11_isIn 5 ((Option.some FieldType.boolean)) 3 11 := ⟨⟨kM_X11_232, kN_X11, kC_yX11_isIn, by decide +kernel⟩, kI_yX11_isIn, kV_yX11_isIn, by decide, _, rfl, rfl⟩
theorem fG_X11_238 : jGv RX11 238 yX11_isFree cX11_isFree 5 ((Option.some FieldType.boolean)) 2 11 := ⟨⟨kM_X11_238, kN_X11, kC_yX11_isFree, by decide +kernel⟩, kI_yX11_isFree, kV_yX11_isFree, by decide, _, rfl, rfl⟩
theorem fG_X11_241 : jGv RX11 241 yX11_isGood cX11_isGood 6 ((Option.some FieldType.boolean)) 1 11 := ⟨⟨kM_X11_241, kN_X11, kC_yX11_isGood, by decide +kernel⟩, kI_yX11_isGood, kV_yX11_isGood, by decide, _, rfl, rfl⟩
theorem fG_X11_244 : jGv RX11 244 yX11_findPlan cX11_findPlan 8 (none) 0 11 := ⟨⟨kM_X11_244, kN_X11, kC_yX11_findPlan, by decide +kernel⟩, kI_yX11_findPlan, kV_yX11_findPlan, by decide, _, rfl, rfl⟩
theorem fG_X11_247 : jGv RX11 247 yX11_outs cX11_outs 3 ((Option.some FieldType.int)) 0 11 := ⟨⟨kM_X11_247, kN_X11, kC_yX11_outs, by decide +kernel⟩, kI_yX11_outs, kV_yX11_outs, by decide, _, rfl, rfl⟩
theorem fG_X2_64 : jGi RX2 64 yX8_init cX8_init 5 4 := ⟨⟨kM_X2_64, kN_X8, kC_yX8_init, by decide +kernel⟩, kI_yX8_init, rfl⟩
theorem fG_X3_51 : jGi RX3 51 yX9_init cX9_init 4 3 := ⟨⟨kM_X3_51, kN_X9, kC_yX9_init, by decide +kernel⟩, kI_yX9_init, rfl⟩
theorem fG_X3_54 : jGv RX3 54 yX3_grownIn cX3_grownIn 2 ((Option.some (FieldType.object "CleanSeed$Lot"))) 1 3 := ⟨⟨kM_X3_54, kN_X3, kC_yX3_grownIn, by decide +kernel⟩, kI_yX3_grownIn, kV_yX3_grownIn, by decide, _, rfl, rfl⟩
theorem fG_X3_69 : jGv RX3 69 yX3_cropIn cX3_cropIn 5 ((Option.some FieldType.int)) 2 3 := ⟨⟨kM_X3_69, kN_X3, kC_yX3_cropIn, by decide +kernel⟩, kI_yX3_cropIn, kV_yX3_cropIn, by decide, _, rfl, rfl⟩
theorem fG_X4_21 : jGv RX4 21 yX2_lotAt cX2_lotAt 2 ((Option.some (FieldType.object "CleanSeed$Lot"))) 1 2 := ⟨⟨kM_X4_21, kN_X2, kC_yX2_lotAt, by decide +kernel⟩, kI_yX2_lotAt, kV_yX2_lotAt, by decide, _, rfl, rfl⟩
theorem fG_X4_31 : jGs RX4 31 yX4_linesOf cX4_linesOf 1 ((Option.some FieldType.int)) 1 := ⟨⟨kM_X4_31, kN_X4, kC_yX4_linesOf, by decide +kernel⟩, kS_yX4_linesOf⟩
theorem fG_X4_48 : jGv RX4 48 yX4_traceBelow cX4_traceBelow 5 (none) 1 4 := ⟨⟨kM_X4_48, kN_X4, kC_yX4_traceBelow, by decide +kernel⟩, kI_yX4_traceBelow, kV_yX4_traceBelow, by decide, _, rfl, rfl⟩
theorem fG_X4_55 : jGv RX4 55 yX2_bagAt cX2_bagAt 2 ((Option.some (FieldType.object "CleanSeed$Bag"))) 1 2 := ⟨⟨kM_X4_55, kN_X2, kC_yX2_bagAt, by decide +kernel⟩, kI_yX2_bagAt, kV_yX2_bagAt, by decide, _, rfl, rfl⟩
theorem fG_X4_59 : jGv RX4 59 yX1_isSold cX1_isSold 1 ((Option.some FieldType.boolean)) 0 1 := ⟨⟨kM_X4_59, kN_X1, kC_yX1_isSold, by decide +kernel⟩, kI_yX1_isSold, kV_yX1_isSold, by decide, _, rfl, rfl⟩
theorem fG_X4_71 : jGv RX4 71 yX4_markAbove cX4_markAbove 4 (none) 1 4 := ⟨⟨kM_X4_71, kN_X4, kC_yX4_markAbove, by decide +kernel⟩, kI_yX4_markAbove, kV_yX4_markAbove, by decide, _, rfl, rfl⟩
theorem fG_X4_74 : jGv RX4 74 yX4_markAkin cX4_markAkin 5 (none) 1 4 := ⟨⟨kM_X4_74, kN_X4, kC_yX4_markAkin, by decide +kernel⟩, kI_yX4_markAkin, kV_yX4_markAkin, by decide, _, rfl, rfl⟩
theorem fG_X4_77 : jGs RX4 77 yX4_rowOf cX4_rowOf 1 ((Option.some FieldType.int)) 1 := ⟨⟨kM_X4_77, kN_X4, kC_yX4_rowOf, by decide +kernel⟩, kS_yX4_rowOf⟩
theorem fG_X4_87 : jGs RX4 87 yX4_markOneAbove cX4_markOneAbove 1 (none) 1 := ⟨⟨kM_X4_87, kN_X4, kC_yX4_markOneAbove, by decide +kernel⟩, kS_yX4_markOneAbove⟩
theorem fG_X4_90 : jGs RX4 90 yX4_isAkin cX4_isAkin 1 ((Option.some FieldType.boolean)) 1 := ⟨⟨kM_X4_90, kN_X4, kC_yX4_isAkin, by decide +kernel⟩, kS_yX4_isAkin⟩
theorem fG_X6_88 : jGv RX6 88 yX6_lookCount cX6_lookCount 1 ((Option.some FieldType.int)) 0 6 := ⟨⟨kM_X6_88, kN_X6, kC_yX6_lookCount, by decide +kernel⟩, kI_yX6_lookCount, kV_yX6_lookCount, by decide, _, rfl, rfl⟩
theorem fG_X7_46 : jGv RX7 46 yX2_inForce cX2_inForce 7 ((Option.some FieldType.int)) 3 2 := ⟨⟨kM_X7_46, kN_X2, kC_yX2_inForce, by decide +kernel⟩, kI_yX2_inForce, kV_yX2_inForce, by decide, _, rfl, rfl⟩
theorem fG_X7_50 : jGv RX7 50 yX7_markMayTake cX7_markMayTake 7 (none) 2 7 := ⟨⟨kM_X7_50, kN_X7, kC_yX7_markMayTake, by decide +kernel⟩, kI_yX7_markMayTake, kV_yX7_markMayTake, by decide, _, rfl, rfl⟩
theorem fG_X7_54 : jGv RX7 54 yX7_markTooNear cX7_markTooNear 6 (none) 1 7 := ⟨⟨kM_X7_54, kN_X7, kC_yX7_markTooNear, by decide +kernel⟩, kI_yX7_markTooNear, kV_yX7_markTooNear, by decide, _, rfl, rfl⟩
theorem fG_X7_58 : jGv RX7 58 yX7_search cX7_search 4 (none) 2 7 := ⟨⟨kM_X7_58, kN_X7, kC_yX7_search, by decide +kernel⟩, kI_yX7_search, kV_yX7_search, by decide, _, rfl, rfl⟩
theorem fG_X7_61 : jGv RX7 61 yX2_fieldAt cX2_fieldAt 2 ((Option.some (FieldType.object "CleanSeed$Field"))) 1 2 := ⟨⟨kM_X7_61, kN_X2, kC_yX2_fieldAt, by decide +kernel⟩, kI_yX2_fieldAt, kV_yX2_fieldAt, by decide, _, rfl, rfl⟩
theorem fG_X7_68 : jGv RX7 68 yX3_stoodAheadOf cX3_stoodAheadOf 7 ((Option.some FieldType.boolean)) 4 3 := ⟨⟨kM_X7_68, kN_X3, kC_yX3_stoodAheadOf, by decide +kernel⟩, kI_yX3_stoodAheadOf, kV_yX3_stoodAheadOf, by decide, _, rfl, rfl⟩
theorem fG_X7_74 : jGv RX7 74 yX3_squareTo cX3_squareTo 4 ((Option.some FieldType.int)) 1 3 := ⟨⟨kM_X7_74, kN_X3, kC_yX3_squareTo, by decide +kernel⟩, kI_yX3_squareTo, kV_yX3_squareTo, by decide, _, rfl, rfl⟩
theorem fG_X7_84 : jGv RX7 84 yX7_fits cX7_fits 6 ((Option.some FieldType.boolean)) 2 7 := ⟨⟨kM_X7_84, kN_X7, kC_yX7_fits, by decide +kernel⟩, kI_yX7_fits, kV_yX7_fits, by decide, _, rfl, rfl⟩
theorem fG_X7_88 : jGs RX7 88 yX7_areOfOneCrop cX7_areOfOneCrop 2 ((Option.some FieldType.boolean)) 2 := ⟨⟨kM_X7_88, kN_X7, kC_yX7_areOfOneCrop, by decide +kernel⟩, kS_yX7_areOfOneCrop⟩
end
section
/-! the reference: its fields 0..8 are ints (S k 0), 9..48 are rows of ints (S k i); ad k: where row k lies; m0: the object -/
def mlen (k : Nat) : Nat := ([0, 0, 0, 0, 0, 0, 0, 0, 0, 40, 40, 40, 40, 300, 300, 300, 300, 100, 100, 100, 100, 200, 200, 200, 200, 200, 200, 200, 200, 200, 200, 200, 200, 200, 300, 300, 300, 300, 200, 200, 200, 200, 5, 500, 200, 200, 200, 5, 5] : List Nat).getD k 0
def Mv (m0 : Nat) (ad : Nat → Nat) (h : jH) (S : Nat → Nat → Int32) : Prop := h_ok h m0 11 ∧ (∀ k, k < 9 → h_I h (64 * 11 + k) m0 = S k 0) ∧ (∀ k, 9 ≤ k → k < 49 → h_R h (64 * 11 + k) m0 = some (ad k) ∧ h_ok h (ad k) 12 ∧ h_N h (ad k) = mlen k ∧ ∀ i, h_A h (ad k) i = S k i) ∧ (∀ j k, 9 ≤ j → j < 49 → 9 ≤ k → k < 49 → ad j = ad k → j = k)
def Fm (m0 : Nat) (ad : Nat → Nat) (h0 h : jH) : Prop := h_L h = h_L h0 ∧ (∀ a, h_K h a = h_K h0 a) ∧ (∀ a, h_N h a = h_N h0 a) ∧ (∀ f a, a ≠ m0 → h_I h f a = h_I h0 f a) ∧ (∀ f a, h_R h f a = h_R h0 f a) ∧ (∀ a i, (∀ k, 9 ≤ k → k < 49 → a ≠ ad k) → h_A h a i = h_A h0 a i) ∧ (∀ a i, h_B h a i = h_B h0 a i)
theorem Fm.rf {m0 : Nat} {ad : Nat → Nat} {h : jH} : Fm m0 ad h h := ⟨rfl, fun _ => rfl, fun _ => rfl, fun _ _ _ => rfl, fun _ _ => rfl, fun _ _ _ => rfl, fun _ _ => rfl⟩
theorem Fm.tr {m0 : Nat} {ad : Nat → Nat} {h1 h2 h3 : jH} (a : Fm m0 ad h1 h2) (b : Fm m0 ad h2 h3) : Fm m0 ad h1 h3 := by
  obtain ⟨a1, a2, a3, a4, a5, a6, a7⟩ := a
  obtain ⟨b1, b2, b3, b4, b5, b6, b7⟩ := b
  exact ⟨b1.trans a1, fun x => (b2 x).trans (a2 x), fun x => (b3 x).trans (a3 x), fun f x hx => (b4 f x hx).trans (a4 f x hx), fun f x => (b5 f x).trans (a5 f x), fun x i hx => (b6 x i hx).trans (a6 x i hx), fun x i => (b7 x i).trans (a7 x i)⟩
theorem u2_same {α : Type} (g : Nat → Nat → α) (f a : Nat) (v : α) : u2 g f a v f a = v := by simp [u2]
theorem u2_ne1 {α : Type} (g : Nat → Nat → α) {f a f' a' : Nat} (v : α) (h : f' ≠ f) : u2 g f a v f' a' = g f' a' := by simp [u2, h]
theorem u2_ne2 {α : Type} (g : Nat → Nat → α) {f a f' a' : Nat} (v : α) (h : a' ≠ a) : u2 g f a v f' a' = g f' a' := by simp [u2, h]
theorem Mv.putS {m0 : Nat} {ad : Nat → Nat} {h h0 : jH} {S : Nat → Nat → Int32} {k : Nat} {v : Int32} (M : Mv m0 ad h S) (F : Fm m0 ad h0 h) (hk : k < 9) : Mv m0 ad (s_I h (64 * 11 + k) m0 v) (u2 S k 0 v) ∧ Fm m0 ad h0 (s_I h (64 * 11 + k) m0 v) := by
  obtain ⟨a1, a2, a3, a4⟩ := M
  refine ⟨⟨a1, fun j hj => ?_, fun j h1 h2 => ?_, a4⟩, F.tr ⟨rfl, fun _ => rfl, fun _ => rfl, fun f a ha => ?_, fun _ _ => rfl, fun _ _ _ => rfl, fun _ _ => rfl⟩⟩
  · rw [g_II]
    by_cases e : j = k
    · subst e; simp [u2]
    · rw [if_neg (fid_ne e), u2_ne1 _ _ e]; exact a2 j hj
  · obtain ⟨b1, b2, b3, b4⟩ := a3 j h1 h2
    refine ⟨b1, b2, b3, fun i => ?_⟩
    rw [u2_ne1 _ _ (by omega)]
    exact b4 i
  · rw [g_II]; simp [ha]
theorem Mv.putA {m0 : Nat} {ad : Nat → Nat} {h h0 : jH} {S : Nat → Nat → Int32} {k i : Nat} {v : Int32} (M : Mv m0 ad h S) (F : Fm m0 ad h0 h) (h1 : 9 ≤ k) (h2 : k < 49) : Mv m0 ad (s_A h (ad k) i v) (u2 S k i v) ∧ Fm m0 ad h0 (s_A h (ad k) i v) := by
  obtain ⟨a1, a2, a3, a4⟩ := M
  refine ⟨⟨a1, fun j hj => ?_, fun j g1 g2 => ?_, a4⟩, F.tr ⟨rfl, fun _ => rfl, fun _ => rfl, fun _ _ _ => rfl, fun _ _ => rfl, fun a j ha => ?_, fun _ _ => rfl⟩⟩
  · rw [u2_ne1 _ _ (by omega)]; exact a2 j hj
  · obtain ⟨b1, b2, b3, b4⟩ := a3 j g1 g2
    refine ⟨b1, b2, b3, fun x => ?_⟩
    rw [g_AA]
    by_cases e : j = k
    · subst e
      simp only [u2, if_true, b4]
    · rw [u2_ne1 _ _ e, if_neg (fun z => e (a4 j k g1 g2 h1 h2 z))]
      exact b4 x
  · rw [g_AA, if_neg (ha k h1 h2)]
/-- 1 if it holds, else 0 -/
def bI (P : Prop) [Decidable P] : Int32 := if P then 1 else 0
theorem bI_t {P : Prop} [Decidable P] (h : P) : bI P = 1 := if_pos h
theorem bI_f {P : Prop} [Decidable P] (h : ¬ P) : bI P = 0 := if_neg h
theorem bI_01 (P : Prop) [Decidable P] : bI P = 0 ∨ bI P = 1 := by by_cases h : P; exact Or.inr (bI_t h); exact Or.inl (bI_f h)
theorem bI_0 {P : Prop} [Decidable P] : bI P = 0 ↔ ¬ P := by
  by_cases h : P
  · rw [bI_t h]; exact ⟨fun e => absurd e (by decide), fun e => absurd h e⟩
  · rw [bI_f h]; exact ⟨fun _ => h, fun _ => rfl⟩
def jM (p : Program) (l : Launch) (e : Env) (R : Room) (s : State) (m : MethodId) (args : Array Value) (below : List Frame) (meth : Method) (c : Code) (D : va_G) (cy : Nat → ClassId) (A : Nat → Prop) (nL : Nat) (Q : State → Prop) (m0 : Nat) (ad : Nat → Nat) (h0 : jH) (S : Nat → Nat → Int32) (lv : List (Nat × Value)) (pc : Nat) (st : List Value) : Prop := ∀ h, Mv m0 ad h S → Fm m0 ad h0 h → jW p l e R s m args below meth c D cy A nL 0 0 Q h lv pc st
section MROWS
variable {p : Program} {l : Launch} {e : Env} {R : Room} {s : State} {m : MethodId} {args : Array Value} {below : List Frame} {meth : Method} {c : Code} {D : va_G} {cy : Nat → ClassId} {A : Nat → Prop} {nL : Nat} {Q : State → Prop} {cc : ByteArray} {m0 : Nat} {ad : Nat → Nat} {h0 : jH} {S : Nat → Nat → Int32} {lv lv' : List (Nat × Value)} {pc : Nat} {st : List Value}
theorem jm_iconst (C : jC p s m args meth c D cy A nL RX11 cc) {n : Int} {v : Int32} (hd : decode cc pc = .ok (.iconst n, 1)) (hv : Int32.ofInt n = v) (k : jM p l e R s m args below meth c D cy A nL Q m0 ad h0 S lv (pc + 1) (.int v :: st)) : jM p l e R s m args below meth c D cy A nL Q m0 ad h0 S lv pc (st) := fun h hM hF => j_iconst C hd hv (k h hM hF)
theorem jm_bipush (C : jC p s m args meth c D cy A nL RX11 cc) {n : Int} {v : Int32} (hd : decode cc pc = .ok (.bipush n, 2)) (hv : (Int8.ofInt n).toInt32 = v) (k : jM p l e R s m args below meth c D cy A nL Q m0 ad h0 S lv (pc + 2) (.int v :: st)) : jM p l e R s m args below meth c D cy A nL Q m0 ad h0 S lv pc (st) := fun h hM hF => j_bipush C hd hv (k h hM hF)
theorem jm_sipush (C : jC p s m args meth c D cy A nL RX11 cc) {n : Int} {v : Int32} (hd : decode cc pc = .ok (.sipush n, 3)) (hv : (Int16.ofInt n).toInt32 = v) (k : jM p l e R s m args below meth c D cy A nL Q m0 ad h0 S lv (pc + 3) (.int v :: st)) : jM p l e R s m args below meth c D cy A nL Q m0 ad h0 S lv pc (st) := fun h hM hF => j_sipush C hd hv (k h hM hF)
theorem jm_lconst (C : jC p s m args meth c D cy A nL RX11 cc) {n : Fin 2} {v : Int64} (hd : decode cc pc = .ok (.lconst n, 1)) (hv : Int64.ofNat (n : Nat) = v) (k : jM p l e R s m args below meth c D cy A nL Q m0 ad h0 S lv (pc + 1) (.long v :: st)) : jM p l e R s m args below meth c D cy A nL Q m0 ad h0 S lv pc (st) := fun h hM hF => j_lconst C hd hv (k h hM hF)
theorem jm_null (C : jC p s m args meth c D cy A nL RX11 cc)  (hd : decode cc pc = .ok (.aconst_null, 1)) (k : jM p l e R s m args below meth c D cy A nL Q m0 ad h0 S lv (pc + 1) (.null :: st)) : jM p l e R s m args below meth c D cy A nL Q m0 ad h0 S lv pc (st) := fun h hM hF => j_null C hd (k h hM hF)
theorem jm_ldc (C : jC p s m args meth c D cy A nL RX11 cc) {i : Nat} {v : Int32} (hd : decode cc pc = .ok (.ldc i, 2)) (hv : Cond.constant RX11 i v ∈ wall) (k : jM p l e R s m args below meth c D cy A nL Q m0 ad h0 S lv (pc + 2) (.int v :: st)) : jM p l e R s m args below meth c D cy A nL Q m0 ad h0 S lv pc (st) := fun h hM hF => j_ldc C hd hv (k h hM hF)
theorem jm_ldc2 (C : jC p s m args meth c D cy A nL RX11 cc) {i : Nat} {v : Int64} (hd : decode cc pc = .ok (.ldc2_w i, 3)) (hv : Cond.constantLong RX11 i v ∈ wall) (k : jM p l e R s m args below meth c D cy A nL Q m0 ad h0 S lv (pc + 3) (.long v :: st)) : jM p l e R s m args below meth c D cy A nL Q m0 ad h0 S lv pc (st) := fun h hM hF => j_ldc2 C hd hv (k h hM hF)
theorem jm_iload (C : jC p s m args meth c D cy A nL RX11 cc) {i : Nat} {x : Int32} (hd : decode cc pc = .ok (.iload i, 2)) (hg : jg lv i = some (.int x)) (k : jM p l e R s m args below meth c D cy A nL Q m0 ad h0 S lv (pc + 2) (.int x :: st)) : jM p l e R s m args below meth c D cy A nL Q m0 ad h0 S lv pc (st) := fun h hM hF => j_iload C hd hg (k h hM hF)
theorem jm_iload_n (C : jC p s m args meth c D cy A nL RX11 cc) {n : Fin 4} {x : Int32} (hd : decode cc pc = .ok (.iload_n n, 1)) (hg : jg lv n.val = some (.int x)) (k : jM p l e R s m args below meth c D cy A nL Q m0 ad h0 S lv (pc + 1) (.int x :: st)) : jM p l e R s m args below meth c D cy A nL Q m0 ad h0 S lv pc (st) := fun h hM hF => j_iload_n C hd hg (k h hM hF)
theorem jm_aload (C : jC p s m args meth c D cy A nL RX11 cc) {i : Nat} {x : Nat} (hd : decode cc pc = .ok (.aload i, 2)) (hg : jg lv i = some (.ref x)) (k : jM p l e R s m args below meth c D cy A nL Q m0 ad h0 S lv (pc + 2) (.ref x :: st)) : jM p l e R s m args below meth c D cy A nL Q m0 ad h0 S lv pc (st) := fun h hM hF => j_aload C hd hg (k h hM hF)
theorem jm_aload_n (C : jC p s m args meth c D cy A nL RX11 cc) {n : Fin 4} {x : Nat} (hd : decode cc pc = .ok (.aload_n n, 1)) (hg : jg lv n.val = some (.ref x)) (k : jM p l e R s m args below meth c D cy A nL Q m0 ad h0 S lv (pc + 1) (.ref x :: st)) : jM p l e R s m args below meth c D cy A nL Q m0 ad h0 S lv pc (st) := fun h hM hF => j_aload_n C hd hg (k h hM hF)
theorem jm_lload (C : jC p s m args meth c D cy A nL RX11 cc) {i : Nat} {x : Int64} (hd : decode cc pc = .ok (.lload i, 2)) (hg : jg lv i = some (.long x)) (k : jM p l e R s m args below meth c D cy A nL Q m0 ad h0 S lv (pc + 2) (.long x :: st)) : jM p l e R s m args below meth c D cy A nL Q m0 ad h0 S lv pc (st) := fun h hM hF => j_lload C hd hg (k h hM hF)
theorem jm_lload_n (C : jC p s m args meth c D cy A nL RX11 cc) {n : Fin 4} {x : Int64} (hd : decode cc pc = .ok (.lload_n n, 1)) (hg : jg lv n.val = some (.long x)) (k : jM p l e R s m args below meth c D cy A nL Q m0 ad h0 S lv (pc + 1) (.long x :: st)) : jM p l e R s m args below meth c D cy A nL Q m0 ad h0 S lv pc (st) := fun h hM hF => j_lload_n C hd hg (k h hM hF)
theorem jm_aloadN (C : jC p s m args meth c D cy A nL RX11 cc) {i : Nat} (hd : decode cc pc = .ok (.aload i, 2)) (hg : jg lv i = some .null) (k : jM p l e R s m args below meth c D cy A nL Q m0 ad h0 S lv (pc + 2) (.null :: st)) : jM p l e R s m args below meth c D cy A nL Q m0 ad h0 S lv pc (st) := fun h hM hF => j_aloadN C hd hg (k h hM hF)
theorem jm_aload_nN (C : jC p s m args meth c D cy A nL RX11 cc) {n : Fin 4} (hd : decode cc pc = .ok (.aload_n n, 1)) (hg : jg lv n.val = some .null) (k : jM p l e R s m args below meth c D cy A nL Q m0 ad h0 S lv (pc + 1) (.null :: st)) : jM p l e R s m args below meth c D cy A nL Q m0 ad h0 S lv pc (st) := fun h hM hF => j_aload_nN C hd hg (k h hM hF)
theorem jm_istore (C : jC p s m args meth c D cy A nL RX11 cc) {i : Nat} {x : Int32} (hd : decode cc pc = .ok (.istore i, 2)) (hn : i < nL) (he : js lv i (.int x) = lv') (k : jM p l e R s m args below meth c D cy A nL Q m0 ad h0 S lv' (pc + 2) st) : jM p l e R s m args below meth c D cy A nL Q m0 ad h0 S lv pc (.int x :: st) := fun h hM hF => j_istore C hd hn he (k h hM hF)
theorem jm_istore_n (C : jC p s m args meth c D cy A nL RX11 cc) {n : Fin 4} {x : Int32} (hd : decode cc pc = .ok (.istore_n n, 1)) (hn : n.val < nL) (he : js lv n.val (.int x) = lv') (k : jM p l e R s m args below meth c D cy A nL Q m0 ad h0 S lv' (pc + 1) st) : jM p l e R s m args below meth c D cy A nL Q m0 ad h0 S lv pc (.int x :: st) := fun h hM hF => j_istore_n C hd hn he (k h hM hF)
theorem jm_astore (C : jC p s m args meth c D cy A nL RX11 cc) {i : Nat} {x : Nat} (hd : decode cc pc = .ok (.astore i, 2)) (hn : i < nL) (he : js lv i (.ref x) = lv') (k : jM p l e R s m args below meth c D cy A nL Q m0 ad h0 S lv' (pc + 2) st) : jM p l e R s m args below meth c D cy A nL Q m0 ad h0 S lv pc (.ref x :: st) := fun h hM hF => j_astore C hd hn he (k h hM hF)
theorem jm_astore_n (C : jC p s m args meth c D cy A nL RX11 cc) {n : Fin 4} {x : Nat} (hd : decode cc pc = .ok (.astore_n n, 1)) (hn : n.val < nL) (he : js lv n.val (.ref x) = lv') (k : jM p l e R s m args below meth c D cy A nL Q m0 ad h0 S lv' (pc + 1) st) : jM p l e R s m args below meth c D cy A nL Q m0 ad h0 S lv pc (.ref x :: st) := fun h hM hF => j_astore_n C hd hn he (k h hM hF)
theorem jm_lstore (C : jC p s m args meth c D cy A nL RX11 cc) {i : Nat} {x : Int64} (hd : decode cc pc = .ok (.lstore i, 2)) (hn : i + 1 < nL) (he : js2 lv i (.long x) = lv') (k : jM p l e R s m args below meth c D cy A nL Q m0 ad h0 S lv' (pc + 2) st) : jM p l e R s m args below meth c D cy A nL Q m0 ad h0 S lv pc (.long x :: st) := fun h hM hF => j_lstore C hd hn he (k h hM hF)
theorem jm_astoreN (C : jC p s m args meth c D cy A nL RX11 cc) {i : Nat} (hd : decode cc pc = .ok (.astore i, 2)) (hn : i < nL) (he : js lv i .null = lv') (k : jM p l e R s m args below meth c D cy A nL Q m0 ad h0 S lv' (pc + 2) st) : jM p l e R s m args below meth c D cy A nL Q m0 ad h0 S lv pc (.null :: st) := fun h hM hF => j_astoreN C hd hn he (k h hM hF)
theorem jm_astore_nN (C : jC p s m args meth c D cy A nL RX11 cc) {n : Fin 4} (hd : decode cc pc = .ok (.astore_n n, 1)) (hn : n.val < nL) (he : js lv n.val .null = lv') (k : jM p l e R s m args below meth c D cy A nL Q m0 ad h0 S lv' (pc + 1) st) : jM p l e R s m args below meth c D cy A nL Q m0 ad h0 S lv pc (.null :: st) := fun h hM hF => j_astore_nN C hd hn he (k h hM hF)
theorem jm_iinc (C : jC p s m args meth c D cy A nL RX11 cc) {i : Nat} {n : Int} {x v : Int32} (hd : decode cc pc = .ok (.iinc i n, 3)) (hg : jg lv i = some (.int x)) (hv : x + Int32.ofInt n = v) (hn : i < nL) (he : js lv i (.int v) = lv') (k : jM p l e R s m args below meth c D cy A nL Q m0 ad h0 S lv' (pc + 3) st) : jM p l e R s m args below meth c D cy A nL Q m0 ad h0 S lv pc st := fun h hM hF => j_iinc C hd hg hv hn he (k h hM hF)
theorem jm_iadd (C : jC p s m args meth c D cy A nL RX11 cc) {x y : Int32} (hd : decode cc pc = .ok (.iadd, 1)) (k : jM p l e R s m args below meth c D cy A nL Q m0 ad h0 S lv (pc + 1) (.int (x + y) :: st)) : jM p l e R s m args below meth c D cy A nL Q m0 ad h0 S lv pc (.int y :: .int x :: st) := fun h hM hF => j_iadd C hd (k h hM hF)
theorem jm_isub (C : jC p s m args meth c D cy A nL RX11 cc) {x y : Int32} (hd : decode cc pc = .ok (.isub, 1)) (k : jM p l e R s m args below meth c D cy A nL Q m0 ad h0 S lv (pc + 1) (.int (x - y) :: st)) : jM p l e R s m args below meth c D cy A nL Q m0 ad h0 S lv pc (.int y :: .int x :: st) := fun h hM hF => j_isub C hd (k h hM hF)
theorem jm_imul (C : jC p s m args meth c D cy A nL RX11 cc) {x y : Int32} (hd : decode cc pc = .ok (.imul, 1)) (k : jM p l e R s m args below meth c D cy A nL Q m0 ad h0 S lv (pc + 1) (.int (x * y) :: st)) : jM p l e R s m args below meth c D cy A nL Q m0 ad h0 S lv pc (.int y :: .int x :: st) := fun h hM hF => j_imul C hd (k h hM hF)
theorem jm_iand (C : jC p s m args meth c D cy A nL RX11 cc) {x y : Int32} (hd : decode cc pc = .ok (.iand, 1)) (k : jM p l e R s m args below meth c D cy A nL Q m0 ad h0 S lv (pc + 1) (.int (x &&& y) :: st)) : jM p l e R s m args below meth c D cy A nL Q m0 ad h0 S lv pc (.int y :: .int x :: st) := fun h hM hF => j_iand C hd (k h hM hF)
theorem jm_ior (C : jC p s m args meth c D cy A nL RX11 cc) {x y : Int32} (hd : decode cc pc = .ok (.ior, 1)) (k : jM p l e R s m args below meth c D cy A nL Q m0 ad h0 S lv (pc + 1) (.int (x ||| y) :: st)) : jM p l e R s m args below meth c D cy A nL Q m0 ad h0 S lv pc (.int y :: .int x :: st) := fun h hM hF => j_ior C hd (k h hM hF)
theorem jm_ladd (C : jC p s m args meth c D cy A nL RX11 cc) {x y : Int64} (hd : decode cc pc = .ok (.ladd, 1)) (k : jM p l e R s m args below meth c D cy A nL Q m0 ad h0 S lv (pc + 1) (.long (x + y) :: st)) : jM p l e R s m args below meth c D cy A nL Q m0 ad h0 S lv pc (.long y :: .long x :: st) := fun h hM hF => j_ladd C hd (k h hM hF)
theorem jm_lmul (C : jC p s m args meth c D cy A nL RX11 cc) {x y : Int64} (hd : decode cc pc = .ok (.lmul, 1)) (k : jM p l e R s m args below meth c D cy A nL Q m0 ad h0 S lv (pc + 1) (.long (x * y) :: st)) : jM p l e R s m args below meth c D cy A nL Q m0 ad h0 S lv pc (.long y :: .long x :: st) := fun h hM hF => j_lmul C hd (k h hM hF)
theorem jm_lor (C : jC p s m args meth c D cy A nL RX11 cc) {x y : Int64} (hd : decode cc pc = .ok (.lor, 1)) (k : jM p l e R s m args below meth c D cy A nL Q m0 ad h0 S lv (pc + 1) (.long (x ||| y) :: st)) : jM p l e R s m args below meth c D cy A nL Q m0 ad h0 S lv pc (.long y :: .long x :: st) := fun h hM hF => j_lor C hd (k h hM hF)
theorem jm_land (C : jC p s m args meth c D cy A nL RX11 cc) {x y : Int64} (hd : decode cc pc = .ok (.land, 1)) (k : jM p l e R s m args below meth c D cy A nL Q m0 ad h0 S lv (pc + 1) (.long (x &&& y) :: st)) : jM p l e R s m args below meth c D cy A nL Q m0 ad h0 S lv pc (.long y :: .long x :: st) := fun h hM hF => j_land C hd (k h hM hF)
theorem jm_irem (C : jC p s m args meth c D cy A nL RX11 cc) {x y : Int32} (hd : decode cc pc = .ok (.irem, 1)) (hne : ¬ y = 0) (k : jM p l e R s m args below meth c D cy A nL Q m0 ad h0 S lv (pc + 1) (.int (x - x / y * y) :: st)) : jM p l e R s m args below meth c D cy A nL Q m0 ad h0 S lv pc (.int y :: .int x :: st) := fun h hM hF => j_irem C hd hne (k h hM hF)
theorem jm_idiv (C : jC p s m args meth c D cy A nL RX11 cc) {x y : Int32} (hd : decode cc pc = .ok (.idiv, 1)) (hne : ¬ y = 0) (k : jM p l e R s m args below meth c D cy A nL Q m0 ad h0 S lv (pc + 1) (.int (x / y) :: st)) : jM p l e R s m args below meth c D cy A nL Q m0 ad h0 S lv pc (.int y :: .int x :: st) := fun h hM hF => j_idiv C hd hne (k h hM hF)
theorem jm_lrem (C : jC p s m args meth c D cy A nL RX11 cc) {x y : Int64} (hd : decode cc pc = .ok (.lrem, 1)) (hne : ¬ y = 0) (k : jM p l e R s m args below meth c D cy A nL Q m0 ad h0 S lv (pc + 1) (.long (x - x / y * y) :: st)) : jM p l e R s m args below meth c D cy A nL Q m0 ad h0 S lv pc (.long y :: .long x :: st) := fun h hM hF => j_lrem C hd hne (k h hM hF)
theorem jm_ishl (C : jC p s m args meth c D cy A nL RX11 cc) {x y : Int32} (hd : decode cc pc = .ok (.ishl, 1)) (k : jM p l e R s m args below meth c D cy A nL Q m0 ad h0 S lv (pc + 1) (.int (x <<< (y &&& 31)) :: st)) : jM p l e R s m args below meth c D cy A nL Q m0 ad h0 S lv pc (.int y :: .int x :: st) := fun h hM hF => j_ishl C hd (k h hM hF)
theorem jm_ishr (C : jC p s m args meth c D cy A nL RX11 cc) {x y : Int32} (hd : decode cc pc = .ok (.ishr, 1)) (k : jM p l e R s m args below meth c D cy A nL Q m0 ad h0 S lv (pc + 1) (.int (x >>> (y &&& 31)) :: st)) : jM p l e R s m args below meth c D cy A nL Q m0 ad h0 S lv pc (.int y :: .int x :: st) := fun h hM hF => j_ishr C hd (k h hM hF)
theorem jm_i2l (C : jC p s m args meth c D cy A nL RX11 cc) {x : Int32} (hd : decode cc pc = .ok (.i2l, 1)) (k : jM p l e R s m args below meth c D cy A nL Q m0 ad h0 S lv (pc + 1) (.long x.toInt64 :: st)) : jM p l e R s m args below meth c D cy A nL Q m0 ad h0 S lv pc (.int x :: st) := fun h hM hF => j_i2l C hd (k h hM hF)
theorem jm_l2i (C : jC p s m args meth c D cy A nL RX11 cc) {x : Int64} (hd : decode cc pc = .ok (.l2i, 1)) (k : jM p l e R s m args below meth c D cy A nL Q m0 ad h0 S lv (pc + 1) (.int x.toInt32 :: st)) : jM p l e R s m args below meth c D cy A nL Q m0 ad h0 S lv pc (.long x :: st) := fun h hM hF => j_l2i C hd (k h hM hF)
theorem jm_lushr (C : jC p s m args meth c D cy A nL RX11 cc) {x : Int64} {y : Int32} (hd : decode cc pc = .ok (.lushr, 1)) (k : jM p l e R s m args below meth c D cy A nL Q m0 ad h0 S lv (pc + 1) (.long (x.toUInt64 >>> (y.toInt64.toUInt64 &&& Int64.toUInt64 63)).toInt64 :: st)) : jM p l e R s m args below meth c D cy A nL Q m0 ad h0 S lv pc (.int y :: .long x :: st) := fun h hM hF => j_lushr C hd (k h hM hF)
theorem jm_dup (C : jC p s m args meth c D cy A nL RX11 cc) {v : Value} (hd : decode cc pc = .ok (.dup, 1)) (hv : v.category = 1) (k : jM p l e R s m args below meth c D cy A nL Q m0 ad h0 S lv (pc + 1) (v :: v :: st)) : jM p l e R s m args below meth c D cy A nL Q m0 ad h0 S lv pc (v :: st) := fun h hM hF => j_dup C hd hv (k h hM hF)
theorem jm_pop (C : jC p s m args meth c D cy A nL RX11 cc) {v : Value} (hd : decode cc pc = .ok (.pop, 1)) (hv : v.category = 1) (k : jM p l e R s m args below meth c D cy A nL Q m0 ad h0 S lv (pc + 1) (st)) : jM p l e R s m args below meth c D cy A nL Q m0 ad h0 S lv pc (v :: st) := fun h hM hF => j_pop C hd hv (k h hM hF)
theorem jm_dup2 (C : jC p s m args meth c D cy A nL RX11 cc) {v w : Value} (hd : decode cc pc = .ok (.dup2, 1)) (hv : v.category = 1) (hw : w.category = 1) (k : jM p l e R s m args below meth c D cy A nL Q m0 ad h0 S lv (pc + 1) (v :: w :: v :: w :: st)) : jM p l e R s m args below meth c D cy A nL Q m0 ad h0 S lv pc (v :: w :: st) := fun h hM hF => j_dup2 C hd hv hw (k h hM hF)
theorem jm_goto (C : jC p s m args meth c D cy A nL RX11 cc) {off : Int} {tgt : Nat} (hd : decode cc pc = .ok (.goto off, 3)) (ht : (pc : Int) + off = (tgt : Int)) (k : jM p l e R s m args below meth c D cy A nL Q m0 ad h0 S lv tgt st) : jM p l e R s m args below meth c D cy A nL Q m0 ad h0 S lv pc st := fun h hM hF => j_goto C hd ht (k h hM hF)
theorem jm_if_eq (C : jC p s m args meth c D cy A nL RX11 cc) {x : Int32} {off : Int} {tgt : Nat} (hd : decode cc pc = .ok (.ifCond .eq off, 3)) (ht : (pc : Int) + off = (tgt : Int)) (kt : x = 0 → jM p l e R s m args below meth c D cy A nL Q m0 ad h0 S lv tgt st) (kf : ¬ x = 0 → jM p l e R s m args below meth c D cy A nL Q m0 ad h0 S lv (pc + 3) st) : jM p l e R s m args below meth c D cy A nL Q m0 ad h0 S lv pc (.int x :: st) := fun h hM hF => j_if_eq C hd ht (fun z => kt z h hM hF) (fun z => kf z h hM hF)
theorem jm_icmp_eq (C : jC p s m args meth c D cy A nL RX11 cc) {x y : Int32} {off : Int} {tgt : Nat} (hd : decode cc pc = .ok (.if_icmp .eq off, 3)) (ht : (pc : Int) + off = (tgt : Int)) (kt : x = y → jM p l e R s m args below meth c D cy A nL Q m0 ad h0 S lv tgt st) (kf : ¬ x = y → jM p l e R s m args below meth c D cy A nL Q m0 ad h0 S lv (pc + 3) st) : jM p l e R s m args below meth c D cy A nL Q m0 ad h0 S lv pc (.int y :: .int x :: st) := fun h hM hF => j_icmp_eq C hd ht (fun z => kt z h hM hF) (fun z => kf z h hM hF)
theorem jm_if_ne (C : jC p s m args meth c D cy A nL RX11 cc) {x : Int32} {off : Int} {tgt : Nat} (hd : decode cc pc = .ok (.ifCond .ne off, 3)) (ht : (pc : Int) + off = (tgt : Int)) (kt : ¬ x = 0 → jM p l e R s m args below meth c D cy A nL Q m0 ad h0 S lv tgt st) (kf : x = 0 → jM p l e R s m args below meth c D cy A nL Q m0 ad h0 S lv (pc + 3) st) : jM p l e R s m args below meth c D cy A nL Q m0 ad h0 S lv pc (.int x :: st) := fun h hM hF => j_if_ne C hd ht (fun z => kt z h hM hF) (fun z => kf z h hM hF)
theorem jm_icmp_ne (C : jC p s m args meth c D cy A nL RX11 cc) {x y : Int32} {off : Int} {tgt : Nat} (hd : decode cc pc = .ok (.if_icmp .ne off, 3)) (ht : (pc : Int) + off = (tgt : Int)) (kt : ¬ x = y → jM p l e R s m args below meth c D cy A nL Q m0 ad h0 S lv tgt st) (kf : x = y → jM p l e R s m args below meth c D cy A nL Q m0 ad h0 S lv (pc + 3) st) : jM p l e R s m args below meth c D cy A nL Q m0 ad h0 S lv pc (.int y :: .int x :: st) := fun h hM hF => j_icmp_ne C hd ht (fun z => kt z h hM hF) (fun z => kf z h hM hF)
theorem jm_if_lt (C : jC p s m args meth c D cy A nL RX11 cc) {x : Int32} {off : Int} {tgt : Nat} (hd : decode cc pc = .ok (.ifCond .lt off, 3)) (ht : (pc : Int) + off = (tgt : Int)) (kt : x < 0 → jM p l e R s m args below meth c D cy A nL Q m0 ad h0 S lv tgt st) (kf : ¬ x < 0 → jM p l e R s m args below meth c D cy A nL Q m0 ad h0 S lv (pc + 3) st) : jM p l e R s m args below meth c D cy A nL Q m0 ad h0 S lv pc (.int x :: st) := fun h hM hF => j_if_lt C hd ht (fun z => kt z h hM hF) (fun z => kf z h hM hF)
theorem jm_icmp_lt (C : jC p s m args meth c D cy A nL RX11 cc) {x y : Int32} {off : Int} {tgt : Nat} (hd : decode cc pc = .ok (.if_icmp .lt off, 3)) (ht : (pc : Int) + off = (tgt : Int)) (kt : x < y → jM p l e R s m args below meth c D cy A nL Q m0 ad h0 S lv tgt st) (kf : ¬ x < y → jM p l e R s m args below meth c D cy A nL Q m0 ad h0 S lv (pc + 3) st) : jM p l e R s m args below meth c D cy A nL Q m0 ad h0 S lv pc (.int y :: .int x :: st) := fun h hM hF => j_icmp_lt C hd ht (fun z => kt z h hM hF) (fun z => kf z h hM hF)
theorem jm_if_ge (C : jC p s m args meth c D cy A nL RX11 cc) {x : Int32} {off : Int} {tgt : Nat} (hd : decode cc pc = .ok (.ifCond .ge off, 3)) (ht : (pc : Int) + off = (tgt : Int)) (kt : 0 ≤ x → jM p l e R s m args below meth c D cy A nL Q m0 ad h0 S lv tgt st) (kf : ¬ 0 ≤ x → jM p l e R s m args below meth c D cy A nL Q m0 ad h0 S lv (pc + 3) st) : jM p l e R s m args below meth c D cy A nL Q m0 ad h0 S lv pc (.int x :: st) := fun h hM hF => j_if_ge C hd ht (fun z => kt z h hM hF) (fun z => kf z h hM hF)
theorem jm_icmp_ge (C : jC p s m args meth c D cy A nL RX11 cc) {x y : Int32} {off : Int} {tgt : Nat} (hd : decode cc pc = .ok (.if_icmp .ge off, 3)) (ht : (pc : Int) + off = (tgt : Int)) (kt : y ≤ x → jM p l e R s m args below meth c D cy A nL Q m0 ad h0 S lv tgt st) (kf : ¬ y ≤ x → jM p l e R s m args below meth c D cy A nL Q m0 ad h0 S lv (pc + 3) st) : jM p l e R s m args below meth c D cy A nL Q m0 ad h0 S lv pc (.int y :: .int x :: st) := fun h hM hF => j_icmp_ge C hd ht (fun z => kt z h hM hF) (fun z => kf z h hM hF)
theorem jm_if_gt (C : jC p s m args meth c D cy A nL RX11 cc) {x : Int32} {off : Int} {tgt : Nat} (hd : decode cc pc = .ok (.ifCond .gt off, 3)) (ht : (pc : Int) + off = (tgt : Int)) (kt : 0 < x → jM p l e R s m args below meth c D cy A nL Q m0 ad h0 S lv tgt st) (kf : ¬ 0 < x → jM p l e R s m args below meth c D cy A nL Q m0 ad h0 S lv (pc + 3) st) : jM p l e R s m args below meth c D cy A nL Q m0 ad h0 S lv pc (.int x :: st) := fun h hM hF => j_if_gt C hd ht (fun z => kt z h hM hF) (fun z => kf z h hM hF)
theorem jm_icmp_gt (C : jC p s m args meth c D cy A nL RX11 cc) {x y : Int32} {off : Int} {tgt : Nat} (hd : decode cc pc = .ok (.if_icmp .gt off, 3)) (ht : (pc : Int) + off = (tgt : Int)) (kt : y < x → jM p l e R s m args below meth c D cy A nL Q m0 ad h0 S lv tgt st) (kf : ¬ y < x → jM p l e R s m args below meth c D cy A nL Q m0 ad h0 S lv (pc + 3) st) : jM p l e R s m args below meth c D cy A nL Q m0 ad h0 S lv pc (.int y :: .int x :: st) := fun h hM hF => j_icmp_gt C hd ht (fun z => kt z h hM hF) (fun z => kf z h hM hF)
theorem jm_if_le (C : jC p s m args meth c D cy A nL RX11 cc) {x : Int32} {off : Int} {tgt : Nat} (hd : decode cc pc = .ok (.ifCond .le off, 3)) (ht : (pc : Int) + off = (tgt : Int)) (kt : x ≤ 0 → jM p l e R s m args below meth c D cy A nL Q m0 ad h0 S lv tgt st) (kf : ¬ x ≤ 0 → jM p l e R s m args below meth c D cy A nL Q m0 ad h0 S lv (pc + 3) st) : jM p l e R s m args below meth c D cy A nL Q m0 ad h0 S lv pc (.int x :: st) := fun h hM hF => j_if_le C hd ht (fun z => kt z h hM hF) (fun z => kf z h hM hF)
theorem jm_icmp_le (C : jC p s m args meth c D cy A nL RX11 cc) {x y : Int32} {off : Int} {tgt : Nat} (hd : decode cc pc = .ok (.if_icmp .le off, 3)) (ht : (pc : Int) + off = (tgt : Int)) (kt : x ≤ y → jM p l e R s m args below meth c D cy A nL Q m0 ad h0 S lv tgt st) (kf : ¬ x ≤ y → jM p l e R s m args below meth c D cy A nL Q m0 ad h0 S lv (pc + 3) st) : jM p l e R s m args below meth c D cy A nL Q m0 ad h0 S lv pc (.int y :: .int x :: st) := fun h hM hF => j_icmp_le C hd ht (fun z => kt z h hM hF) (fun z => kf z h hM hF)
theorem jm_acmp_eq (C : jC p s m args meth c D cy A nL RX11 cc) {rx ry : Option Nat} {off : Int} {tgt : Nat} (hd : decode cc pc = .ok (.if_acmp .eq off, 3)) (ht : (pc : Int) + off = (tgt : Int)) (kt : rx = ry → jM p l e R s m args below meth c D cy A nL Q m0 ad h0 S lv tgt st) (kf : ¬ rx = ry → jM p l e R s m args below meth c D cy A nL Q m0 ad h0 S lv (pc + 3) st) : jM p l e R s m args below meth c D cy A nL Q m0 ad h0 S lv pc (va_rf ry :: va_rf rx :: st) := fun h hM hF => j_acmp_eq C hd ht (fun z => kt z h hM hF) (fun z => kf z h hM hF)
theorem jm_acmp_ne (C : jC p s m args meth c D cy A nL RX11 cc) {rx ry : Option Nat} {off : Int} {tgt : Nat} (hd : decode cc pc = .ok (.if_acmp .ne off, 3)) (ht : (pc : Int) + off = (tgt : Int)) (kt : ¬ rx = ry → jM p l e R s m args below meth c D cy A nL Q m0 ad h0 S lv tgt st) (kf : rx = ry → jM p l e R s m args below meth c D cy A nL Q m0 ad h0 S lv (pc + 3) st) : jM p l e R s m args below meth c D cy A nL Q m0 ad h0 S lv pc (va_rf ry :: va_rf rx :: st) := fun h hM hF => j_acmp_ne C hd ht (fun z => kt z h hM hF) (fun z => kf z h hM hF)
theorem jm_ifnull (C : jC p s m args meth c D cy A nL RX11 cc) {x : Nat} {off : Int} (hd : decode cc pc = .ok (.ifnull off, 3)) (k : jM p l e R s m args below meth c D cy A nL Q m0 ad h0 S lv (pc + 3) st) : jM p l e R s m args below meth c D cy A nL Q m0 ad h0 S lv pc (.ref x :: st) := fun h hM hF => j_ifnull C hd (k h hM hF)
theorem jm_ifnullN (C : jC p s m args meth c D cy A nL RX11 cc) {off : Int} {tgt : Nat} (hd : decode cc pc = .ok (.ifnull off, 3)) (ht : (pc : Int) + off = (tgt : Int)) (k : jM p l e R s m args below meth c D cy A nL Q m0 ad h0 S lv tgt st) : jM p l e R s m args below meth c D cy A nL Q m0 ad h0 S lv pc (.null :: st) := fun h hM hF => j_ifnullN C hd ht (k h hM hF)
theorem jm_ifnonnull (C : jC p s m args meth c D cy A nL RX11 cc) {x : Nat} {off : Int} {tgt : Nat} (hd : decode cc pc = .ok (.ifnonnull off, 3)) (ht : (pc : Int) + off = (tgt : Int)) (k : jM p l e R s m args below meth c D cy A nL Q m0 ad h0 S lv tgt st) : jM p l e R s m args below meth c D cy A nL Q m0 ad h0 S lv pc (.ref x :: st) := fun h hM hF => j_ifnonnull C hd ht (k h hM hF)
theorem jm_ifnonnullN (C : jC p s m args meth c D cy A nL RX11 cc) {off : Int} (hd : decode cc pc = .ok (.ifnonnull off, 3)) (k : jM p l e R s m args below meth c D cy A nL Q m0 ad h0 S lv (pc + 3) st) : jM p l e R s m args below meth c D cy A nL Q m0 ad h0 S lv pc (.null :: st) := fun h hM hF => j_ifnonnullN C hd (k h hM hF)
theorem jm_getS (C : jC p s m args meth c D cy A nL RX11 cc) {index k : Nat} (F : jF RX11 index 11 k false) (hk : k < 9) (hd : decode cc pc = .ok (.getfield index, 3)) (kk : jM p l e R s m args below meth c D cy A nL Q m0 ad h0 S lv (pc + 3) (.int (S k 0) :: st)) : jM p l e R s m args below meth c D cy A nL Q m0 ad h0 S lv pc (.ref m0 :: st) := fun h hM hF => j_getI C F hM.1 hd (by rw [hM.2.1 k hk]; exact kk h hM hF)
theorem jm_getA (C : jC p s m args meth c D cy A nL RX11 cc) {index k : Nat} (F : jF RX11 index 11 k true) (h1 : 9 ≤ k) (h2 : k < 49) (hd : decode cc pc = .ok (.getfield index, 3)) (kk : jM p l e R s m args below meth c D cy A nL Q m0 ad h0 S lv (pc + 3) (.ref (ad k) :: st)) : jM p l e R s m args below meth c D cy A nL Q m0 ad h0 S lv pc (.ref m0 :: st) := fun h hM hF => j_getR C F hM.1 (v := .ref (ad k)) (by rw [(hM.2.2.1 k h1 h2).1]; rfl) hd (kk h hM hF)
theorem jm_putS (C : jC p s m args meth c D cy A nL RX11 cc) {index k : Nat} {v : Int32} (F : jP RX11 index 11 k false false .int) (hk : k < 9) (hd : decode cc pc = .ok (.putfield index, 3)) (kk : jM p l e R s m args below meth c D cy A nL Q m0 ad h0 (u2 S k 0 v) lv (pc + 3) st) : jM p l e R s m args below meth c D cy A nL Q m0 ad h0 S lv pc (.int v :: .ref m0 :: st) := fun h hM hF => j_putI C F hM.1 rfl rfl hd (kk _ (hM.putS hF hk).1 (hM.putS hF hk).2)
theorem jm_ald (C : jC p s m args meth c D cy A nL RX11 cc) (k : Nat) {n : Nat} {i : Int32} (h1 : 9 ≤ k) (h2 : k < 49) (hn : mlen k = n) (hi : vp_in i n) (hd : decode cc pc = .ok (.iaload, 1)) (kk : jM p l e R s m args below meth c D cy A nL Q m0 ad h0 S lv (pc + 1) (.int (S k i.toNatClampNeg) :: st)) : jM p l e R s m args below meth c D cy A nL Q m0 ad h0 S lv pc (.int i :: .ref (ad k) :: st) := fun h hM hF => j_iald C (hM.2.2.1 k h1 h2).2.1 (by rw [(hM.2.2.1 k h1 h2).2.2.1, hn]; exact hi) hd (by rw [(hM.2.2.1 k h1 h2).2.2.2]; exact kk h hM hF)
theorem jm_ast (C : jC p s m args meth c D cy A nL RX11 cc) (k : Nat) {n : Nat} {i x : Int32} (h1 : 9 ≤ k) (h2 : k < 49) (hn : mlen k = n) (hi : vp_in i n) (hd : decode cc pc = .ok (.iastore, 1)) (kk : jM p l e R s m args below meth c D cy A nL Q m0 ad h0 (u2 S k i.toNatClampNeg x) lv (pc + 1) st) : jM p l e R s m args below meth c D cy A nL Q m0 ad h0 S lv pc (.int x :: .int i :: .ref (ad k) :: st) := fun h hM hF => j_iast C (hM.2.2.1 k h1 h2).2.1 (by rw [(hM.2.2.1 k h1 h2).2.2.1, hn]; exact hi) hd (kk _ (hM.putA hF h1 h2).1 (hM.putA hF h1 h2).2)
theorem jm_aldN (C : jC p s m args meth c D cy A nL RX11 cc) (k : Nat) {n j : Nat} (h1 : 9 ≤ k) (h2 : k < 49) (hn : mlen k = n) (hj : j < n) (hd : decode cc pc = .ok (.iaload, 1)) (kk : jM p l e R s m args below meth c D cy A nL Q m0 ad h0 S lv (pc + 1) (.int (S k j) :: st)) (hb : n < 2 ^ 31 := by decide) : jM p l e R s m args below meth c D cy A nL Q m0 ad h0 S lv pc (.int (nI j) :: .ref (ad k) :: st) := jm_ald C k h1 h2 hn (vp_in_nI hj hb) hd (by rw [nI_clamp (Nat.lt_trans hj hb)]; exact kk)
theorem jm_astN (C : jC p s m args meth c D cy A nL RX11 cc) (k : Nat) {n j : Nat} {x : Int32} (h1 : 9 ≤ k) (h2 : k < 49) (hn : mlen k = n) (hj : j < n) (hd : decode cc pc = .ok (.iastore, 1)) (kk : jM p l e R s m args below meth c D cy A nL Q m0 ad h0 (u2 S k j x) lv (pc + 1) st) (hb : n < 2 ^ 31 := by decide) : jM p l e R s m args below meth c D cy A nL Q m0 ad h0 S lv pc (.int x :: .int (nI j) :: .ref (ad k) :: st) := jm_ast C k h1 h2 hn (vp_in_nI hj hb) hd (by rw [nI_clamp (Nat.lt_trans hj hb)]; exact kk)
theorem jm_ifeq_b (C : jC p s m args meth c D cy A nL RX11 cc) {P : Prop} [Decidable P] {off : Int} {tgt : Nat} (hd : decode cc pc = .ok (.ifCond .eq off, 3)) (ht : (pc : Int) + off = (tgt : Int)) (kt : ¬ P → jM p l e R s m args below meth c D cy A nL Q m0 ad h0 S lv tgt st) (kf : P → jM p l e R s m args below meth c D cy A nL Q m0 ad h0 S lv (pc + 3) st) : jM p l e R s m args below meth c D cy A nL Q m0 ad h0 S lv pc (.int (bI P) :: st) := jm_if_eq C hd ht (fun z => kt (bI_0.mp z)) (fun z => kf (Classical.byContradiction fun q => z (bI_f q)))
theorem jm_ifne_b (C : jC p s m args meth c D cy A nL RX11 cc) {P : Prop} [Decidable P] {off : Int} {tgt : Nat} (hd : decode cc pc = .ok (.ifCond .ne off, 3)) (ht : (pc : Int) + off = (tgt : Int)) (kt : P → jM p l e R s m args below meth c D cy A nL Q m0 ad h0 S lv tgt st) (kf : ¬ P → jM p l e R s m args below meth c D cy A nL Q m0 ad h0 S lv (pc + 3) st) : jM p l e R s m args below meth c D cy A nL Q m0 ad h0 S lv pc (.int (bI P) :: st) := jm_if_ne C hd ht (fun z => kt (Classical.byContradiction fun q => z (bI_f q))) (fun z => kf (bI_0.mp z))
theorem jm_max (C : jC p s m args meth c D cy A nL RX11 cc) {index : Nat} {x y : Int32} (hk : Cond.methodLink RX11 index Lib.Math.max.name ∈ wall) (hd : decode cc pc = .ok (.invokestatic index, 3)) (h1 : 1 ≤ R.frames) (h2 : (st.map fun v => v.category).sum + 13 ≤ R.locals) (k : jM p l e R s m args below meth c D cy A nL Q m0 ad h0 S lv (pc + 3) (.int (if x < y then y else x) :: st)) : jM p l e R s m args below meth c D cy A nL Q m0 ad h0 S lv pc (.int y :: .int x :: st) := fun h hM hF => j_max C hk hd h1 h2 (Nat.zero_le _) (Nat.zero_le _) (k h hM hF)
theorem jm_min (C : jC p s m args meth c D cy A nL RX11 cc) {index : Nat} {x y : Int32} (hk : Cond.methodLink RX11 index Lib.Math.min.name ∈ wall) (hd : decode cc pc = .ok (.invokestatic index, 3)) (h1 : 1 ≤ R.frames) (h2 : (st.map fun v => v.category).sum + 13 ≤ R.locals) (k : jM p l e R s m args below meth c D cy A nL Q m0 ad h0 S lv (pc + 3) (.int (if y < x then y else x) :: st)) : jM p l e R s m args below meth c D cy A nL Q m0 ad h0 S lv pc (.int y :: .int x :: st) := fun h hM hF => j_min C hk hd h1 h2 (Nat.zero_le _) (Nat.zero_le _) (k h hM hF)
end MROWS
/-- contracts of the reference's methods -/
def mI (l : Launch) (D : va_G) (cy : Nat → ClassId) (y : MethodName) (cd : Cond) (d : Nat) (m0 : Nat) (ad : Nat → Nat) (As : List Value) (S : Nat → Nat → Int32) (post : Int32 → (Nat → Nat → Int32) → Prop) : Prop := ∀ h, Mv m0 ad h S → jI l D cy y cd (rmd d 0 0) (.ref m0 :: As) h (fun r h' => ∃ S', post r S' ∧ Mv m0 ad h' S' ∧ Fm m0 ad h h')
def mV (l : Launch) (D : va_G) (cy : Nat → ClassId) (y : MethodName) (cd : Cond) (d : Nat) (m0 : Nat) (ad : Nat → Nat) (As : List Value) (S : Nat → Nat → Int32) (post : (Nat → Nat → Int32) → Prop) : Prop := ∀ h, Mv m0 ad h S → jV l D cy y cd (rmd d 0 0) (.ref m0 :: As) h (fun h' => ∃ S', post S' ∧ Mv m0 ad h' S' ∧ Fm m0 ad h h')
/-- .. of a static one that writes nothing -/
def sI (l : Launch) (D : va_G) (cy : Nat → ClassId) (y : MethodName) (cd : Cond) (d : Nat) (As : List Value) (post : Int32 → Prop) : Prop := ∀ h, jI l D cy y cd (rmd d 0 0) As h (fun r h' => post r ∧ h' = h)
theorem m_ofI {l : Launch} {D : va_G} {cy : Nat → ClassId} {y : MethodName} {cc : ByteArray} {nL d : Nat} {m0 : Nat} {ad : Nat → Nat} {As : List Value} {S : Nat → Nat → Int32} {post : Int32 → (Nat → Nat → Int32) → Prop} (hy : y.cls = RX11) (hlen : (lg_sl (.ref m0 :: As)).length ≤ nL)
    (body : ∀ (p : Program) (e : Env) (s : State) (m : MethodId) (args : Array Value) (below : List Frame) (meth : Method) (c : Code) (A : Nat → Prop) (Q : State → Prop) (h0 : jH), jC p s m args meth c D cy A nL RX11 cc → (∀ (r : Int32) (S' : Nat → Nat → Int32) (lv : List (Nat × Value)) (pc : Nat), post r S' → decode cc pc = .ok (.ireturn, 1) → jM p l e (rmd d 0 0) s m args below meth c D cy A nL Q m0 ad h0 S' lv pc [.int r]) → jM p l e (rmd d 0 0) s m args below meth c D cy A nL Q m0 ad h0 S (lv_args 0 (.ref m0 :: As)) 0 []) : mI l D cy y (.code y cc nL (some .int)) d m0 ad As S post := fun h hM => by
  refine j_ofI (by rw [hy]; decide) hlen (fun p e s m args below meth c Q C hn ret => ?_)
  rw [hy] at C
  exact body p e s m args below meth c _ Q h C (fun r S' lv pc hp hd h' hM' hF' => ret r h' 0 0 lv pc ⟨S', hp, hM', hF'⟩ (Nat.zero_le _) (Nat.zero_le _) hd) h hM Fm.rf
theorem m_ofZ {l : Launch} {D : va_G} {cy : Nat → ClassId} {y : MethodName} {cc : ByteArray} {nL d : Nat} {m0 : Nat} {ad : Nat → Nat} {As : List Value} {S : Nat → Nat → Int32} {post : Int32 → (Nat → Nat → Int32) → Prop} (hy : y.cls = RX11) (hlen : (lg_sl (.ref m0 :: As)).length ≤ nL)
    (body : ∀ (p : Program) (e : Env) (s : State) (m : MethodId) (args : Array Value) (below : List Frame) (meth : Method) (c : Code) (A : Nat → Prop) (Q : State → Prop) (h0 : jH), jC p s m args meth c D cy A nL RX11 cc → (∀ (r : Int32) (S' : Nat → Nat → Int32) (lv : List (Nat × Value)) (pc : Nat), post r S' → (r = 0 ∨ r = 1) → decode cc pc = .ok (.ireturn, 1) → jM p l e (rmd d 0 0) s m args below meth c D cy A nL Q m0 ad h0 S' lv pc [.int r]) → jM p l e (rmd d 0 0) s m args below meth c D cy A nL Q m0 ad h0 S (lv_args 0 (.ref m0 :: As)) 0 []) : mI l D cy y (.code y cc nL (some .boolean)) d m0 ad As S post := fun h hM => by
  refine j_ofZ (by rw [hy]; decide) hlen (fun p e s m args below meth c Q C hn ret => ?_)
  rw [hy] at C
  exact body p e s m args below meth c _ Q h C (fun r S' lv pc hp hz hd h' hM' hF' => ret r h' 0 0 lv pc ⟨S', hp, hM', hF'⟩ hz (Nat.zero_le _) (Nat.zero_le _) hd) h hM Fm.rf
theorem m_ofV {l : Launch} {D : va_G} {cy : Nat → ClassId} {y : MethodName} {cc : ByteArray} {nL d : Nat} {m0 : Nat} {ad : Nat → Nat} {As : List Value} {S : Nat → Nat → Int32} {post : (Nat → Nat → Int32) → Prop} (hy : y.cls = RX11) (hlen : (lg_sl (.ref m0 :: As)).length ≤ nL)
    (body : ∀ (p : Program) (e : Env) (s : State) (m : MethodId) (args : Array Value) (below : List Frame) (meth : Method) (c : Code) (A : Nat → Prop) (Q : State → Prop) (h0 : jH), jC p s m args meth c D cy A nL RX11 cc → (∀ (S' : Nat → Nat → Int32) (lv : List (Nat × Value)) (pc : Nat), post S' → decode cc pc = .ok (.return_, 1) → jM p l e (rmd d 0 0) s m args below meth c D cy A nL Q m0 ad h0 S' lv pc []) → jM p l e (rmd d 0 0) s m args below meth c D cy A nL Q m0 ad h0 S (lv_args 0 (.ref m0 :: As)) 0 []) : mV l D cy y (.code y cc nL none) d m0 ad As S post := fun h hM => by
  refine j_ofV (by rw [hy]; decide) hlen (fun p e s m args below meth c Q C hn ret => ?_)
  rw [hy] at C
  exact body p e s m args below meth c _ Q h C (fun S' lv pc hp hd h' hM' hF' => ret h' 0 0 lv pc ⟨S', hp, hM', hF'⟩ (Nat.zero_le _) (Nat.zero_le _) hd) h hM Fm.rf
section MCALLS
variable {p : Program} {l : Launch} {e : Env} {R : Room} {s : State} {m : MethodId} {args : Array Value} {below : List Frame} {meth : Method} {c : Code} {D : va_G} {cy : Nat → ClassId} {A : Nat → Prop} {nL : Nat} {Q : State → Prop} {cc : ByteArray} {m0 : Nat} {ad : Nat → Nat} {h0 : jH} {S : Nat → Nat → Int32} {lv lv' : List (Nat × Value)} {pc : Nat} {st : List Value}
theorem jm_calli (C : jC p s m args meth c D cy A nL RX11 cc) {index n nLc d : Nat} {y : MethodName} {bytes : ByteArray} {ret : Option FieldType} {As rest : List Value} {post : Int32 → (Nat → Nat → Int32) → Prop} (G : jGv RX11 index y bytes nLc ret n 11) (M : mI l D cy y (.code y bytes nLc ret) d m0 ad As S post) (hn : As.length = n) (hst : st = As.reverse ++ .ref m0 :: rest) (hW : (rest.map fun v => v.category).sum ≤ 8) (hR : d + 1 ≤ R.frames ∧ 8 + (nLc + 11) + 40 * d ≤ R.locals) (hd : decode cc pc = .ok (.invokevirtual index, 3)) (kk : ∀ (r : Int32) (S' : Nat → Nat → Int32), post r S' → jM p l e R s m args below meth c D cy A nL Q m0 ad h0 S' lv (pc + 3) (.int r :: rest)) : jM p l e R s m args below meth c D cy A nL Q m0 ad h0 S lv pc st := fun h hM hF => j_callVi C G (M h hM) hM.1 hn hst hW hR ⟨Nat.zero_le _, Nat.zero_le _⟩ hd (fun r h' hp => by
  obtain ⟨S', h1, h2, h3⟩ := hp
  exact kk r S' h1 h' h2 (hF.tr h3))
theorem jm_callv (C : jC p s m args meth c D cy A nL RX11 cc) {index n nLc d : Nat} {y : MethodName} {bytes : ByteArray} {ret : Option FieldType} {As rest : List Value} {post : (Nat → Nat → Int32) → Prop} (G : jGv RX11 index y bytes nLc ret n 11) (M : mV l D cy y (.code y bytes nLc ret) d m0 ad As S post) (hn : As.length = n) (hst : st = As.reverse ++ .ref m0 :: rest) (hW : (rest.map fun v => v.category).sum ≤ 8) (hR : d + 1 ≤ R.frames ∧ 8 + (nLc + 11) + 40 * d ≤ R.locals) (hd : decode cc pc = .ok (.invokevirtual index, 3)) (kk : ∀ (S' : Nat → Nat → Int32), post S' → jM p l e R s m args below meth c D cy A nL Q m0 ad h0 S' lv (pc + 3) (rest)) : jM p l e R s m args below meth c D cy A nL Q m0 ad h0 S lv pc st := fun h hM hF => j_callVv C G (M h hM) hM.1 hn hst hW hR ⟨Nat.zero_le _, Nat.zero_le _⟩ hd (fun h' hp => by
  obtain ⟨S', h1, h2, h3⟩ := hp
  exact kk S' h1 h' h2 (hF.tr h3))
theorem jm_calls (C : jC p s m args meth c D cy A nL RX11 cc) {index n nLc d : Nat} {y : MethodName} {bytes : ByteArray} {ret : Option FieldType} {As rest : List Value} {post : Int32 → Prop} (G : jGs RX11 index y bytes nLc ret n) (M : sI l D cy y (.code y bytes nLc ret) d As post) (hn : As.length = n) (hst : st = As.reverse ++ rest) (hW : (rest.map fun v => v.category).sum ≤ 8) (hR : d + 1 ≤ R.frames ∧ 8 + (nLc + 11) + 40 * d ≤ R.locals) (hd : decode cc pc = .ok (.invokestatic index, 3)) (kk : ∀ r, post r → jM p l e R s m args below meth c D cy A nL Q m0 ad h0 S lv (pc + 3) (.int r :: rest)) : jM p l e R s m args below meth c D cy A nL Q m0 ad h0 S lv pc st := fun h hM hF => j_callSi C G (M h) hn hst hW hR ⟨Nat.zero_le _, Nat.zero_le _⟩ hd (fun r h' hp => by
  obtain ⟨h1, rfl⟩ := hp
  exact kk r h1 h' hM hF)
end MCALLS
end
section
/-- the first i from i on, among k, with p; else -1 -/
def ffst (p : Nat → Bool) : Nat → Nat → Int32
  | _, 0 => -1
  | i, k + 1 => if p i = true then nI i else ffst p (i + 1) k
theorem ffst_t {p : Nat → Bool} {i k : Nat} (h : p i = true) : ffst p i (k + 1) = nI i := if_pos h
theorem ffst_f {p : Nat → Bool} {i k : Nat} (h : p i = false) : ffst p i (k + 1) = ffst p (i + 1) k := if_neg (by rw [h]; decide)

/-- k turns of a loop from i on -/
def flp {α : Type} (g : Nat → α → α) : Nat → Nat → α → α
  | _, 0, a => a
  | i, k + 1, a => flp g (i + 1) k (g i a)
theorem flp_s {α : Type} {g : Nat → α → α} {i k : Nat} {a a' : α} (h : g i a = a') : flp g i (k + 1) a = flp g (i + 1) k a' := by rw [← h]; rfl
theorem nI_ge_of {i n : Nat} (h : nI n ≤ nI i) (hn : n < 2 ^ 31) (hi : i < 2 ^ 31) : n ≤ i := (nI_leI hn hi).mp h
theorem nI_lt_of {i n : Nat} (h : ¬ nI n ≤ nI i) (hi : i < 2 ^ 31) : i < n := by
  rcases Nat.lt_or_ge i n with q | q
  · exact q
  · exact absurd (nI_le q (by omega)) h
set_option maxHeartbeats 4000000 in
set_option maxRecDepth 100000 in
theorem c_in {l : Launch} {D : va_G} {cy : Nat → ClassId} (v lo hi : Int32) : sI l D cy yX11_in (.code yX11_in cX11_in 3 ((Option.some FieldType.boolean))) 0 [.int v, .int lo, .int hi] (fun r => r = bI (lo ≤ v ∧ v ≤ hi)) := fun h => by
  refine j_ofZ (by decide) (Nat.le_of_ble_eq_true rfl) (fun p e s m args below meth c Q C hn ret => ?_)
  refine j_iload_n C dX11_in_0 rfl ?_
  refine j_iload_n C dX11_in_1 rfl ?_
  refine j_icmp_lt (tgt := 14) C dX11_in_2 (by decide) (fun c_2 => ?_) (fun c_2 => ?_)
  · refine j_iconst (v := 0) C dX11_in_14 (by decide) ?_
    exact ret _ h 0 0 _ _ ⟨(bI_f (fun z => Int32.not_lt.mpr z.1 c_2)).symm, rfl⟩ (by decide) (Nat.zero_le _) (Nat.zero_le _) dX11_in_15
  · refine j_iload_n C dX11_in_5 rfl ?_
    refine j_iload_n C dX11_in_6 rfl ?_
    refine j_icmp_gt (tgt := 14) C dX11_in_7 (by decide) (fun c_7 => ?_) (fun c_7 => ?_)
    · refine j_iconst (v := 0) C dX11_in_14 (by decide) ?_
      exact ret _ h 0 0 _ _ ⟨(bI_f (fun z => Int32.not_lt.mpr z.2 c_7)).symm, rfl⟩ (by decide) (Nat.zero_le _) (Nat.zero_le _) dX11_in_15
    · refine j_iconst (v := 1) C dX11_in_10 (by decide) ?_
      refine j_goto (tgt := 15) C dX11_in_11 (by decide) ?_
      exact ret _ h 0 0 _ _ ⟨(bI_t ⟨Int32.not_lt.mp c_2, Int32.not_lt.mp c_7⟩).symm, rfl⟩ (by decide) (Nat.zero_le _) (Nat.zero_le _) dX11_in_15
set_option maxHeartbeats 4000000 in
set_option maxRecDepth 100000 in
theorem c_isField {l : Launch} {D : va_G} {cy : Nat → ClassId} {m0 : Nat} {ad : Nat → Nat} {S : Nat → Nat → Int32} (x : Int32) : mI l D cy yX11_isField (.code yX11_isField cX11_isField 2 ((Option.some FieldType.boolean))) 1 m0 ad [.int x] S (fun r S' => r = bI (0 ≤ x ∧ x ≤ S 1 0 - 1) ∧ S' = S) := by
  refine m_ofZ rfl (Nat.le_of_ble_eq_true rfl) (fun p e s m args below meth c A Q h0 C ret => ?_)
  refine jm_iload_n C dX11_isField_0 rfl ?_
  refine jm_iconst (v := 0) C dX11_isField_1 (by decide) ?_
  refine jm_aload_n C dX11_isField_2 rfl ?_
  refine jm_getS C fF_X11_130 (by decide) dX11_isField_3 ?_
  refine jm_iconst (v := 1) C dX11_isField_6 (by decide) ?_
  refine jm_isub C dX11_isField_7 ?_
  refine jm_calls (As := [.int x, .int 0, .int ((S 1 0) - 1)]) (rest := []) C fG_X11_134 (c_in (x) (0) (((S 1 0) - 1))) rfl rfl (Nat.le_of_ble_eq_true rfl) ⟨Nat.le_of_ble_eq_true rfl, Nat.le_of_ble_eq_true rfl⟩ dX11_isField_8 (fun r_8 e_8 => ?_)
  subst e_8
  exact ret _ _ _ _ ⟨rfl, rfl⟩ (bI_01 _) dX11_isField_11
set_option maxHeartbeats 4000000 in
set_option maxRecDepth 100000 in
theorem c_isLot {l : Launch} {D : va_G} {cy : Nat → ClassId} {m0 : Nat} {ad : Nat → Nat} {S : Nat → Nat → Int32} (x : Int32) : mI l D cy yX11_isLot (.code yX11_isLot cX11_isLot 2 ((Option.some FieldType.boolean))) 1 m0 ad [.int x] S (fun r S' => r = bI (0 ≤ x ∧ x ≤ S 2 0 - 1) ∧ S' = S) := by
  refine m_ofZ rfl (Nat.le_of_ble_eq_true rfl) (fun p e s m args below meth c A Q h0 C ret => ?_)
  refine jm_iload_n C dX11_isLot_0 rfl ?_
  refine jm_iconst (v := 0) C dX11_isLot_1 (by decide) ?_
  refine jm_aload_n C dX11_isLot_2 rfl ?_
  refine jm_getS C fF_X11_138 (by decide) dX11_isLot_3 ?_
  refine jm_iconst (v := 1) C dX11_isLot_6 (by decide) ?_
  refine jm_isub C dX11_isLot_7 ?_
  refine jm_calls (As := [.int x, .int 0, .int ((S 2 0) - 1)]) (rest := []) C fG_X11_134 (c_in (x) (0) (((S 2 0) - 1))) rfl rfl (Nat.le_of_ble_eq_true rfl) ⟨Nat.le_of_ble_eq_true rfl, Nat.le_of_ble_eq_true rfl⟩ dX11_isLot_8 (fun r_8 e_8 => ?_)
  subst e_8
  exact ret _ _ _ _ ⟨rfl, rfl⟩ (bI_01 _) dX11_isLot_11
set_option maxHeartbeats 4000000 in
set_option maxRecDepth 100000 in
theorem c_isYear {l : Launch} {D : va_G} {cy : Nat → ClassId} {m0 : Nat} {ad : Nat → Nat} {S : Nat → Nat → Int32} (x : Int32) : mI l D cy yX11_isYear (.code yX11_isYear cX11_isYear 2 ((Option.some FieldType.boolean))) 1 m0 ad [.int x] S (fun r S' => r = bI (0 ≤ x ∧ x ≤ S 0 0) ∧ S' = S) := by
  refine m_ofZ rfl (Nat.le_of_ble_eq_true rfl) (fun p e s m args below meth c A Q h0 C ret => ?_)
  refine jm_iload_n C dX11_isYear_0 rfl ?_
  refine jm_iconst (v := 0) C dX11_isYear_1 (by decide) ?_
  refine jm_aload_n C dX11_isYear_2 rfl ?_
  refine jm_getS C fF_X11_141 (by decide) dX11_isYear_3 ?_
  refine jm_calls (As := [.int x, .int 0, .int (S 0 0)]) (rest := []) C fG_X11_134 (c_in (x) (0) ((S 0 0))) rfl rfl (Nat.le_of_ble_eq_true rfl) ⟨Nat.le_of_ble_eq_true rfl, Nat.le_of_ble_eq_true rfl⟩ dX11_isYear_6 (fun r_6 e_6 => ?_)
  subst e_6
  exact ret _ _ _ _ ⟨rfl, rfl⟩ (bI_01 _) dX11_isYear_9
set_option maxHeartbeats 4000000 in
set_option maxRecDepth 100000 in
theorem c_isBag {l : Launch} {D : va_G} {cy : Nat → ClassId} {m0 : Nat} {ad : Nat → Nat} {S : Nat → Nat → Int32} (x : Int32) : mI l D cy yX11_isBag (.code yX11_isBag cX11_isBag 2 ((Option.some FieldType.boolean))) 1 m0 ad [.int x] S (fun r S' => r = bI (0 ≤ x ∧ x ≤ S 3 0 - 1) ∧ S' = S) := by
  refine m_ofZ rfl (Nat.le_of_ble_eq_true rfl) (fun p e s m args below meth c A Q h0 C ret => ?_)
  refine jm_iload_n C dX11_isBag_0 rfl ?_
  refine jm_iconst (v := 0) C dX11_isBag_1 (by decide) ?_
  refine jm_aload_n C dX11_isBag_2 rfl ?_
  refine jm_getS C fF_X11_190 (by decide) dX11_isBag_3 ?_
  refine jm_iconst (v := 1) C dX11_isBag_6 (by decide) ?_
  refine jm_isub C dX11_isBag_7 ?_
  refine jm_calls (As := [.int x, .int 0, .int ((S 3 0) - 1)]) (rest := []) C fG_X11_134 (c_in (x) (0) (((S 3 0) - 1))) rfl rfl (Nat.le_of_ble_eq_true rfl) ⟨Nat.le_of_ble_eq_true rfl, Nat.le_of_ble_eq_true rfl⟩ dX11_isBag_8 (fun r_8 e_8 => ?_)
  subst e_8
  exact ret _ _ _ _ ⟨rfl, rfl⟩ (bI_01 _) dX11_isBag_11
def mx (x y : Int32) : Int32 := if x < y then y else x
def mn (x y : Int32) : Int32 := if y < x then y else x
def nearS (S : Nat → Nat → Int32) (a b : Nat) : Int32 := mx 0 (mx (S 9 a - S 11 b) (S 9 b - S 11 a)) * mx 0 (mx (S 9 a - S 11 b) (S 9 b - S 11 a)) + mx 0 (mx (S 10 a - S 12 b) (S 10 b - S 12 a)) * mx 0 (mx (S 10 a - S 12 b) (S 10 b - S 12 a))
set_option maxHeartbeats 4000000 in
set_option maxRecDepth 100000 in
theorem c_nearness {l : Launch} {D : va_G} {cy : Nat → ClassId} {m0 : Nat} {ad : Nat → Nat} {S : Nat → Nat → Int32} {a b : Nat} (ha : a < 40) (hb : b < 40) : mI l D cy yX11_nearness (.code yX11_nearness cX11_nearness 5 ((Option.some FieldType.int))) 1 m0 ad [.int (nI a), .int (nI b)] S (fun r S' => r = nearS S a b ∧ S' = S) := by
  refine m_ofI rfl (Nat.le_of_ble_eq_true rfl) (fun p e s m args below meth c A Q h0 C ret => ?_)
  refine jm_iconst (v := 0) C dX11_nearness_0 (by decide) ?_
  refine jm_aload_n C dX11_nearness_1 rfl ?_
  refine jm_getA C fF_X11_9 (by decide) (by decide) dX11_nearness_2 ?_
  refine jm_iload_n C dX11_nearness_5 rfl ?_
  refine jm_aldN C 9 (n := 40) (by decide) (by decide) rfl (by omega) dX11_nearness_6 ?_
  refine jm_aload_n C dX11_nearness_7 rfl ?_
  refine jm_getA C fF_X11_16 (by decide) (by decide) dX11_nearness_8 ?_
  refine jm_iload_n C dX11_nearness_11 rfl ?_
  refine jm_aldN C 11 (n := 40) (by decide) (by decide) rfl (by omega) dX11_nearness_12 ?_
  refine jm_isub C dX11_nearness_13 ?_
  refine jm_aload_n C dX11_nearness_14 rfl ?_
  refine jm_getA C fF_X11_9 (by decide) (by decide) dX11_nearness_15 ?_
  refine jm_iload_n C dX11_nearness_18 rfl ?_
  refine jm_aldN C 9 (n := 40) (by decide) (by decide) rfl (by omega) dX11_nearness_19 ?_
  refine jm_aload_n C dX11_nearness_20 rfl ?_
  refine jm_getA C fF_X11_16 (by decide) (by decide) dX11_nearness_21 ?_
  refine jm_iload_n C dX11_nearness_24 rfl ?_
  refine jm_aldN C 11 (n := 40) (by decide) (by decide) rfl (by omega) dX11_nearness_25 ?_
  refine jm_isub C dX11_nearness_26 ?_
  refine jm_max C kM_X11_150 dX11_nearness_27 (Nat.le_of_ble_eq_true rfl) (Nat.le_of_ble_eq_true rfl) ?_
  refine jm_max C kM_X11_150 dX11_nearness_30 (Nat.le_of_ble_eq_true rfl) (Nat.le_of_ble_eq_true rfl) ?_
  refine jm_istore_n (lv' := [(0, .ref m0), (1, .int (nI a)), (2, .int (nI b)), (3, .int (if 0 < (if ((S 9 a) - (S 11 b)) < ((S 9 b) - (S 11 a)) then ((S 9 b) - (S 11 a)) else ((S 9 a) - (S 11 b))) then (if ((S 9 a) - (S 11 b)) < ((S 9 b) - (S 11 a)) then ((S 9 b) - (S 11 a)) else ((S 9 a) - (S 11 b))) else 0))]) C dX11_nearness_33 (by decide) rfl ?_
  refine jm_iconst (v := 0) C dX11_nearness_34 (by decide) ?_
  refine jm_aload_n C dX11_nearness_35 rfl ?_
  refine jm_getA C fF_X11_13 (by decide) (by decide) dX11_nearness_36 ?_
  refine jm_iload_n C dX11_nearness_39 rfl ?_
  refine jm_aldN C 10 (n := 40) (by decide) (by decide) rfl (by omega) dX11_nearness_40 ?_
  refine jm_aload_n C dX11_nearness_41 rfl ?_
  refine jm_getA C fF_X11_19 (by decide) (by decide) dX11_nearness_42 ?_
  refine jm_iload_n C dX11_nearness_45 rfl ?_
  refine jm_aldN C 12 (n := 40) (by decide) (by decide) rfl (by omega) dX11_nearness_46 ?_
  refine jm_isub C dX11_nearness_47 ?_
  refine jm_aload_n C dX11_nearness_48 rfl ?_
  refine jm_getA C fF_X11_13 (by decide) (by decide) dX11_nearness_49 ?_
  refine jm_iload_n C dX11_nearness_52 rfl ?_
  refine jm_aldN C 10 (n := 40) (by decide) (by decide) rfl (by omega) dX11_nearness_53 ?_
  refine jm_aload_n C dX11_nearness_54 rfl ?_
  refine jm_getA C fF_X11_19 (by decide) (by decide) dX11_nearness_55 ?_
  refine jm_iload_n C dX11_nearness_58 rfl ?_
  refine jm_aldN C 12 (n := 40) (by decide) (by decide) rfl (by omega) dX11_nearness_59 ?_
  refine jm_isub C dX11_nearness_60 ?_
  refine jm_max C kM_X11_150 dX11_nearness_61 (Nat.le_of_ble_eq_true rfl) (Nat.le_of_ble_eq_true rfl) ?_
  refine jm_max C kM_X11_150 dX11_nearness_64 (Nat.le_of_ble_eq_true rfl) (Nat.le_of_ble_eq_true rfl) ?_
  refine jm_istore (lv' := [(0, .ref m0), (1, .int (nI a)), (2, .int (nI b)), (3, .int (if 0 < (if ((S 9 a) - (S 11 b)) < ((S 9 b) - (S 11 a)) then ((S 9 b) - (S 11 a)) else ((S 9 a) - (S 11 b))) then (if ((S 9 a) - (S 11 b)) < ((S 9 b) - (S 11 a)) then ((S 9 b) - (S 11 a)) else ((S 9 a) - (S 11 b))) else 0)), (4, .int (if 0 < (if ((S 10 a) - (S 12 b)) < ((S 10 b) - (S 12 a)) then ((S 10 b) - (S 12 a)) else ((S 10 a) - (S 12 b))) then (if ((S 10 a) - (S 12 b)) < ((S 10 b) - (S 12 a)) then ((S 10 b) - (S 12 a)) else ((S 10 a) - (S 12 b))) else 0))]) C dX11_nearness_67 (by decide) rfl ?_
  refine jm_iload_n C dX11_nearness_69 rfl ?_
  refine jm_iload_n C dX11_nearness_70 rfl ?_
  refine jm_imul C dX11_nearness_71 ?_
  refine jm_iload C dX11_nearness_72 rfl ?_
  refine jm_iload C dX11_nearness_74 rfl ?_
  refine jm_imul C dX11_nearness_76 ?_
  refine jm_iadd C dX11_nearness_77 ?_
  exact ret _ _ _ _ ⟨rfl, rfl⟩ dX11_nearness_78
def lotInB (S : Nat → Nat → Int32) (f y : Int32) (l : Nat) : Bool := decide (S 21 l = 1 ∧ S 25 l = f ∧ S 24 l = y)
def lotInS (S : Nat → Nat → Int32) (f y : Int32) (nl : Nat) : Int32 := ffst (lotInB S f y) 0 nl
set_option maxHeartbeats 4000000 in
set_option maxRecDepth 100000 in
theorem L_lotIn {p : Program} {l : Launch} {e : Env} {R : Room} {s : State} {m : MethodId} {args : Array Value} {below : List Frame} {meth : Method} {c : Code} {D : va_G} {cy : Nat → ClassId} {A : Nat → Prop} {Q : State → Prop} {m0 : Nat} {ad : Nat → Nat} {h0 : jH} {S : Nat → Nat → Int32} (C : jC p s m args meth c D cy A 4 RX11 cX11_lotIn) {f y : Int32} {nl : Nat} (hl : S 2 0 = nI nl) (hnl : nl ≤ 200) (ret : ∀ (r : Int32) (S' : Nat → Nat → Int32) (lv : List (Nat × Value)) (pc : Nat), r = lotInS S f y nl ∧ S' = S → decode cX11_lotIn pc = .ok (.ireturn, 1) → jM p l e R s m args below meth c D cy A 4 Q m0 ad h0 S' lv pc [.int r]) : ∀ (n k i : Nat), k < n → i + k = nl → lotInS S f y nl = ffst (lotInB S f y) i k → jM p l e R s m args below meth c D cy A 4 Q m0 ad h0 S [(0, .ref m0), (1, .int f), (2, .int y), (3, .int (nI i))] 2 [] := by
  intro n
  induction n with
  | zero => intro k i  h1; exact absurd h1 (Nat.not_lt_zero _)
  | succ n ih =>
    intro k i  h1 h2 he
    refine jm_iload_n C dX11_lotIn_2 rfl ?_
    refine jm_aload_n C dX11_lotIn_3 rfl ?_
    refine jm_getS C fF_X11_138 (by decide) dX11_lotIn_4 ?_
    refine jm_icmp_ge (tgt := 48) C dX11_lotIn_7 (by decide) (fun c_7 => ?_) (fun c_7 => ?_)
    · rw [hl] at c_7
      have hge : nl ≤ i := nI_ge_of c_7 (by omega) (by omega)
      obtain rfl : k = 0 := by omega
      refine jm_iconst (v := (-1)) C dX11_lotIn_48 (by decide) ?_
      exact ret _ _ _ _ ⟨by rw [he]; rfl, rfl⟩ dX11_lotIn_49
    · rw [hl] at c_7
      have hlt : i < nl := nI_lt_of c_7 (by omega)
      obtain ⟨k, rfl⟩ : ∃ q, k = q + 1 := ⟨k - 1, by omega⟩
      refine jm_aload_n C dX11_lotIn_10 rfl ?_
      refine jm_getA C fF_X11_46 (by decide) (by decide) dX11_lotIn_11 ?_
      refine jm_iload_n C dX11_lotIn_14 rfl ?_
      refine jm_aldN C 21 (n := 200) (by decide) (by decide) rfl (by omega) dX11_lotIn_15 ?_
      refine jm_iconst (v := 1) C dX11_lotIn_16 (by decide) ?_
      refine jm_icmp_ne (tgt := 42) C dX11_lotIn_17 (by decide) (fun c_17 => ?_) (fun c_17 => ?_)
      · refine jm_iinc (lv' := [(0, .ref m0), (1, .int f), (2, .int y), (3, .int (nI (i + 1)))]) C dX11_lotIn_42 rfl (nI_1 _) (by decide) rfl ?_
        refine jm_goto (tgt := 2) C dX11_lotIn_45 (by decide) ?_
        exact ih k (i + 1) (by omega) (by omega) (he.trans (ffst_f (by simp [lotInB, c_17])))
      · refine jm_aload_n C dX11_lotIn_20 rfl ?_
        refine jm_getA C fF_X11_58 (by decide) (by decide) dX11_lotIn_21 ?_
        refine jm_iload_n C dX11_lotIn_24 rfl ?_
        refine jm_aldN C 25 (n := 200) (by decide) (by decide) rfl (by omega) dX11_lotIn_25 ?_
        refine jm_iload_n C dX11_lotIn_26 rfl ?_
        refine jm_icmp_ne (tgt := 42) C dX11_lotIn_27 (by decide) (fun c_27 => ?_) (fun c_27 => ?_)
        · refine jm_iinc (lv' := [(0, .ref m0), (1, .int f), (2, .int y), (3, .int (nI (i + 1)))]) C dX11_lotIn_42 rfl (nI_1 _) (by decide) rfl ?_
          refine jm_goto (tgt := 2) C dX11_lotIn_45 (by decide) ?_
          exact ih k (i + 1) (by omega) (by omega) (he.trans (ffst_f (by simp [lotInB, c_17, c_27])))
        · refine jm_aload_n C dX11_lotIn_30 rfl ?_
          refine jm_getA C fF_X11_55 (by decide) (by decide) dX11_lotIn_31 ?_
          refine jm_iload_n C dX11_lotIn_34 rfl ?_
          refine jm_aldN C 24 (n := 200) (by decide) (by decide) rfl (by omega) dX11_lotIn_35 ?_
          refine jm_iload_n C dX11_lotIn_36 rfl ?_
          refine jm_icmp_ne (tgt := 42) C dX11_lotIn_37 (by decide) (fun c_37 => ?_) (fun c_37 => ?_)
          · refine jm_iinc (lv' := [(0, .ref m0), (1, .int f), (2, .int y), (3, .int (nI (i + 1)))]) C dX11_lotIn_42 rfl (nI_1 _) (by decide) rfl ?_
            refine jm_goto (tgt := 2) C dX11_lotIn_45 (by decide) ?_
            exact ih k (i + 1) (by omega) (by omega) (he.trans (ffst_f (by simp [lotInB, c_17, c_27, c_37])))
          · refine jm_iload_n C dX11_lotIn_40 rfl ?_
            exact ret _ _ _ _ ⟨by rw [he]; exact (ffst_t (by simp [lotInB, c_17, c_27, c_37])).symm, rfl⟩ dX11_lotIn_41
set_option maxHeartbeats 4000000 in
set_option maxRecDepth 100000 in
theorem c_lotIn {l : Launch} {D : va_G} {cy : Nat → ClassId} {m0 : Nat} {ad : Nat → Nat} {S : Nat → Nat → Int32} (f y : Int32) {nl : Nat} (hl : S 2 0 = nI nl) (hnl : nl ≤ 200) : mI l D cy yX11_lotIn (.code yX11_lotIn cX11_lotIn 4 ((Option.some FieldType.int))) 1 m0 ad [.int f, .int y] S (fun r S' => r = lotInS S f y nl ∧ S' = S) := by
  refine m_ofI rfl (Nat.le_of_ble_eq_true rfl) (fun p e s m args below meth c A Q h0 C ret => ?_)
  refine jm_iconst (v := 0) C dX11_lotIn_0 (by decide) ?_
  refine jm_istore_n (lv' := [(0, .ref m0), (1, .int f), (2, .int y), (3, .int 0)]) C dX11_lotIn_1 (by decide) rfl ?_
  exact L_lotIn C hl hnl ret (nl + 1) nl 0 (by omega) (by omega) rfl
def gLooks (S : Nat → Nat → Int32) (l q : Int32) (k : Nat) (n : Int32) : Int32 := n + if S 34 k = l ∧ ¬ q < S 37 k then 1 else 0
def looksS (S : Nat → Nat → Int32) (l q : Int32) (nk : Nat) : Int32 := flp (gLooks S l q) 0 nk 0
set_option maxHeartbeats 4000000 in
set_option maxRecDepth 100000 in
theorem L_looksOf {p : Program} {l : Launch} {e : Env} {R : Room} {s : State} {m : MethodId} {args : Array Value} {below : List Frame} {meth : Method} {c : Code} {D : va_G} {cy : Nat → ClassId} {A : Nat → Prop} {Q : State → Prop} {m0 : Nat} {ad : Nat → Nat} {h0 : jH} {S : Nat → Nat → Int32} (C : jC p s m args meth c D cy A 5 RX11 cX11_looksOf) {l0 q : Int32} {nk : Nat} (hk : S 7 0 = nI nk) (hnk : nk ≤ 300) (ret : ∀ (r : Int32) (S' : Nat → Nat → Int32) (lv : List (Nat × Value)) (pc : Nat), r = looksS S l0 q nk ∧ S' = S → decode cX11_looksOf pc = .ok (.ireturn, 1) → jM p l e R s m args below meth c D cy A 5 Q m0 ad h0 S' lv pc [.int r]) : ∀ (n k i : Nat) (a : Int32), k < n → i + k = nk → looksS S l0 q nk = flp (gLooks S l0 q) i k a → jM p l e R s m args below meth c D cy A 5 Q m0 ad h0 S [(0, .ref m0), (1, .int l0), (2, .int q), (3, .int a), (4, .int (nI i))] 5 [] := by
  intro n
  induction n with
  | zero => intro k i a h1; exact absurd h1 (Nat.not_lt_zero _)
  | succ n ih =>
    intro k i a h1 h2 he
    refine jm_iload C dX11_looksOf_5 rfl ?_
    refine jm_aload_n C dX11_looksOf_7 rfl ?_
    refine jm_getS C fF_X11_202 (by decide) dX11_looksOf_8 ?_
    refine jm_icmp_ge (tgt := 50) C dX11_looksOf_11 (by decide) (fun c_11 => ?_) (fun c_11 => ?_)
    · rw [hk] at c_11
      have hge : nk ≤ i := nI_ge_of c_11 (by omega) (by omega)
      obtain rfl : k = 0 := by omega
      refine jm_iload_n C dX11_looksOf_50 rfl ?_
      exact ret _ _ _ _ ⟨by rw [he]; rfl, rfl⟩ dX11_looksOf_51
    · rw [hk] at c_11
      have hlt : i < nk := nI_lt_of c_11 (by omega)
      obtain ⟨k, rfl⟩ : ∃ q, k = q + 1 := ⟨k - 1, by omega⟩
      refine jm_iload_n C dX11_looksOf_14 rfl ?_
      refine jm_aload_n C dX11_looksOf_15 rfl ?_
      refine jm_getA C fF_X11_85 (by decide) (by decide) dX11_looksOf_16 ?_
      refine jm_iload C dX11_looksOf_19 rfl ?_
      refine jm_aldN C 34 (n := 300) (by decide) (by decide) rfl (by omega) dX11_looksOf_21 ?_
      refine jm_iload_n C dX11_looksOf_22 rfl ?_
      refine jm_icmp_ne (tgt := 41) C dX11_looksOf_23 (by decide) (fun c_23 => ?_) (fun c_23 => ?_)
      · refine jm_iconst (v := 0) C dX11_looksOf_41 (by decide) ?_
        refine jm_iadd C dX11_looksOf_42 ?_
        refine jm_istore_n (lv' := [(0, .ref m0), (1, .int l0), (2, .int q), (3, .int (a + 0)), (4, .int (nI i))]) C dX11_looksOf_43 (by decide) rfl ?_
        refine jm_iinc (lv' := [(0, .ref m0), (1, .int l0), (2, .int q), (3, .int (a + 0)), (4, .int (nI (i + 1)))]) C dX11_looksOf_44 rfl (nI_1 _) (by decide) rfl ?_
        refine jm_goto (tgt := 5) C dX11_looksOf_47 (by decide) ?_
        exact ih k (i + 1) _ (by omega) (by omega) (he.trans (flp_s (by simp [gLooks, c_23])))
      · refine jm_aload_n C dX11_looksOf_26 rfl ?_
        refine jm_getA C fF_X11_94 (by decide) (by decide) dX11_looksOf_27 ?_
        refine jm_iload C dX11_looksOf_30 rfl ?_
        refine jm_aldN C 37 (n := 300) (by decide) (by decide) rfl (by omega) dX11_looksOf_32 ?_
        refine jm_iload_n C dX11_looksOf_33 rfl ?_
        refine jm_icmp_gt (tgt := 41) C dX11_looksOf_34 (by decide) (fun c_34 => ?_) (fun c_34 => ?_)
        · refine jm_iconst (v := 0) C dX11_looksOf_41 (by decide) ?_
          refine jm_iadd C dX11_looksOf_42 ?_
          refine jm_istore_n (lv' := [(0, .ref m0), (1, .int l0), (2, .int q), (3, .int (a + 0)), (4, .int (nI i))]) C dX11_looksOf_43 (by decide) rfl ?_
          refine jm_iinc (lv' := [(0, .ref m0), (1, .int l0), (2, .int q), (3, .int (a + 0)), (4, .int (nI (i + 1)))]) C dX11_looksOf_44 rfl (nI_1 _) (by decide) rfl ?_
          refine jm_goto (tgt := 5) C dX11_looksOf_47 (by decide) ?_
          exact ih k (i + 1) _ (by omega) (by omega) (he.trans (flp_s (by simp [gLooks, c_23, c_34])))
        · refine jm_iconst (v := 1) C dX11_looksOf_37 (by decide) ?_
          refine jm_goto (tgt := 42) C dX11_looksOf_38 (by decide) ?_
          refine jm_iadd C dX11_looksOf_42 ?_
          refine jm_istore_n (lv' := [(0, .ref m0), (1, .int l0), (2, .int q), (3, .int (a + 1)), (4, .int (nI i))]) C dX11_looksOf_43 (by decide) rfl ?_
          refine jm_iinc (lv' := [(0, .ref m0), (1, .int l0), (2, .int q), (3, .int (a + 1)), (4, .int (nI (i + 1)))]) C dX11_looksOf_44 rfl (nI_1 _) (by decide) rfl ?_
          refine jm_goto (tgt := 5) C dX11_looksOf_47 (by decide) ?_
          exact ih k (i + 1) _ (by omega) (by omega) (he.trans (flp_s (by simp [gLooks, c_23, c_34])))
set_option maxHeartbeats 4000000 in
set_option maxRecDepth 100000 in
theorem c_looksOf {l : Launch} {D : va_G} {cy : Nat → ClassId} {m0 : Nat} {ad : Nat → Nat} {S : Nat → Nat → Int32} (l0 q : Int32) {nk : Nat} (hk : S 7 0 = nI nk) (hnk : nk ≤ 300) : mI l D cy yX11_looksOf (.code yX11_looksOf cX11_looksOf 5 ((Option.some FieldType.int))) 1 m0 ad [.int l0, .int q] S (fun r S' => r = looksS S l0 q nk ∧ S' = S) := by
  refine m_ofI rfl (Nat.le_of_ble_eq_true rfl) (fun p e s m args below meth c A Q h0 C ret => ?_)
  refine jm_iconst (v := 0) C dX11_looksOf_0 (by decide) ?_
  refine jm_istore_n (lv' := [(0, .ref m0), (1, .int l0), (2, .int q), (3, .int 0)]) C dX11_looksOf_1 (by decide) rfl ?_
  refine jm_iconst (v := 0) C dX11_looksOf_2 (by decide) ?_
  refine jm_istore (lv' := [(0, .ref m0), (1, .int l0), (2, .int q), (3, .int 0), (4, .int 0)]) C dX11_looksOf_3 (by decide) rfl ?_
  exact L_looksOf C hk hnk ret (nk + 1) nk 0 0 (by omega) (by omega) rfl
end
