theorem fF_X2_9 : jF RX2 9 2 0 false := ⟨_, _, _, rfl, i_X2, kF_X2_9, rfl, by decide, rfl, rfl, by decide⟩
theorem fP_X2_9 : jP RX2 9 2 0 false false (.int) := ⟨_, _, _, tyX2, rfl, i_X2, kF_X2_9, rfl, by decide, rfl, rfl, by decide, tyX2_ok, nmX2, rfl, by decide +kernel, fun h => by cases h⟩
theorem fF_X10_67 : jF RX10 67 2 0 false := ⟨_, _, _, rfl, i_X2, kF_X10_67, rfl, by decide, rfl, rfl, by decide⟩
theorem fP_X10_67 : jP RX10 67 2 0 false false (.int) := ⟨_, _, _, tyX2, rfl, i_X2, kF_X10_67, rfl, by decide, rfl, rfl, by decide, tyX2_ok, nmX2, rfl, by decide +kernel, fun h => by cases h⟩
theorem fF_X7_41 : jF RX7 41 2 0 false := ⟨_, _, _, rfl, i_X2, kF_X7_41, rfl, by decide, rfl, rfl, by decide⟩
theorem fF_X2_17 : jF RX2 17 2 1 true := ⟨_, _, _, rfl, i_X2, kF_X2_17, rfl, by decide, rfl, rfl, by decide⟩
theorem fP_X2_17 : jP RX2 17 2 1 true true (.array (.object "CleanSeed$Field")) := ⟨_, _, _, tyX2, rfl, i_X2, kF_X2_17, rfl, by decide, rfl, rfl, by decide, tyX2_ok, nmX2, rfl, by decide +kernel, fun _ => rfl⟩
theorem fF_X2_21 : jF RX2 21 2 2 false := ⟨_, _, _, rfl, i_X2, kF_X2_21, rfl, by decide, rfl, rfl, by decide⟩
theorem fP_X2_21 : jP RX2 21 2 2 false false (.int) := ⟨_, _, _, tyX2, rfl, i_X2, kF_X2_21, rfl, by decide, rfl, rfl, by decide, tyX2_ok, nmX2, rfl, by decide +kernel, fun h => by cases h⟩
theorem fF_X10_47 : jF RX10 47 2 2 false := ⟨_, _, _, rfl, i_X2, kF_X10_47, rfl, by decide, rfl, rfl, by decide⟩
theorem fF_X0_97 : jF RX0 97 2 2 false := ⟨_, _, _, rfl, i_X2, kF_X0_97, rfl, by decide, rfl, rfl, by decide⟩
theorem fF_X2_26 : jF RX2 26 2 3 true := ⟨_, _, _, rfl, i_X2, kF_X2_26, rfl, by decide, rfl, rfl, by decide⟩
theorem fP_X2_26 : jP RX2 26 2 3 true true (.array (.object "CleanSeed$Lot")) := ⟨_, _, _, tyX2, rfl, i_X2, kF_X2_26, rfl, by decide, rfl, rfl, by decide, tyX2_ok, nmX2, rfl, by decide +kernel, fun _ => rfl⟩
theorem fF_X2_30 : jF RX2 30 2 4 false := ⟨_, _, _, rfl, i_X2, kF_X2_30, rfl, by decide, rfl, rfl, by decide⟩
theorem fP_X2_30 : jP RX2 30 2 4 false false (.int) := ⟨_, _, _, tyX2, rfl, i_X2, kF_X2_30, rfl, by decide, rfl, rfl, by decide, tyX2_ok, nmX2, rfl, by decide +kernel, fun h => by cases h⟩
theorem fF_X0_15 : jF RX0 15 2 4 false := ⟨_, _, _, rfl, i_X2, kF_X0_15, rfl, by decide, rfl, rfl, by decide⟩
theorem fF_X4_15 : jF RX4 15 2 4 false := ⟨_, _, _, rfl, i_X2, kF_X4_15, rfl, by decide, rfl, rfl, by decide⟩
theorem fF_X10_91 : jF RX10 91 2 4 false := ⟨_, _, _, rfl, i_X2, kF_X10_91, rfl, by decide, rfl, rfl, by decide⟩
theorem fF_X2_35 : jF RX2 35 2 5 true := ⟨_, _, _, rfl, i_X2, kF_X2_35, rfl, by decide, rfl, rfl, by decide⟩
theorem fP_X2_35 : jP RX2 35 2 5 true true (.array (.object "CleanSeed$Bag")) := ⟨_, _, _, tyX2, rfl, i_X2, kF_X2_35, rfl, by decide, rfl, rfl, by decide, tyX2_ok, nmX2, rfl, by decide +kernel, fun _ => rfl⟩
theorem fF_X2_39 : jF RX2 39 2 6 false := ⟨_, _, _, rfl, i_X2, kF_X2_39, rfl, by decide, rfl, rfl, by decide⟩
theorem fP_X2_39 : jP RX2 39 2 6 false false (.int) := ⟨_, _, _, tyX2, rfl, i_X2, kF_X2_39, rfl, by decide, rfl, rfl, by decide, tyX2_ok, nmX2, rfl, by decide +kernel, fun h => by cases h⟩
theorem fF_X4_52 : jF RX4 52 2 6 false := ⟨_, _, _, rfl, i_X2, kF_X4_52, rfl, by decide, rfl, rfl, by decide⟩
theorem fF_X10_155 : jF RX10 155 2 6 false := ⟨_, _, _, rfl, i_X2, kF_X10_155, rfl, by decide, rfl, rfl, by decide⟩
theorem fF_X2_42 : jF RX2 42 2 7 false := ⟨_, _, _, rfl, i_X2, kF_X2_42, rfl, by decide, rfl, rfl, by decide⟩
theorem fP_X2_42 : jP RX2 42 2 7 false false (.int) := ⟨_, _, _, tyX2, rfl, i_X2, kF_X2_42, rfl, by decide, rfl, rfl, by decide, tyX2_ok, nmX2, rfl, by decide +kernel, fun h => by cases h⟩
theorem fF_X10_271 : jF RX10 271 2 7 false := ⟨_, _, _, rfl, i_X2, kF_X10_271, rfl, by decide, rfl, rfl, by decide⟩
theorem fF_X2_51 : jF RX2 51 2 8 true := ⟨_, _, _, rfl, i_X2, kF_X2_51, rfl, by decide, rfl, rfl, by decide⟩
theorem fP_X2_51 : jP RX2 51 2 8 true true (.array (.object "CleanSeed$Statute")) := ⟨_, _, _, tyX2, rfl, i_X2, kF_X2_51, rfl, by decide, rfl, rfl, by decide, tyX2_ok, nmX2, rfl, by decide +kernel, fun _ => rfl⟩
theorem fF_X2_55 : jF RX2 55 2 9 false := ⟨_, _, _, rfl, i_X2, kF_X2_55, rfl, by decide, rfl, rfl, by decide⟩
theorem fP_X2_55 : jP RX2 55 2 9 false false (.int) := ⟨_, _, _, tyX2, rfl, i_X2, kF_X2_55, rfl, by decide, rfl, rfl, by decide, tyX2_ok, nmX2, rfl, by decide +kernel, fun h => by cases h⟩
theorem fF_X10_274 : jF RX10 274 2 9 false := ⟨_, _, _, rfl, i_X2, kF_X10_274, rfl, by decide, rfl, rfl, by decide⟩
theorem fF_X2_58 : jF RX2 58 2 10 false := ⟨_, _, _, rfl, i_X2, kF_X2_58, rfl, by decide, rfl, rfl, by decide⟩
theorem fP_X2_58 : jP RX2 58 2 10 false false (.int) := ⟨_, _, _, tyX2, rfl, i_X2, kF_X2_58, rfl, by decide, rfl, rfl, by decide, tyX2_ok, nmX2, rfl, by decide +kernel, fun h => by cases h⟩
theorem fF_X10_70 : jF RX10 70 2 10 false := ⟨_, _, _, rfl, i_X2, kF_X10_70, rfl, by decide, rfl, rfl, by decide⟩
theorem fP_X10_70 : jP RX10 70 2 10 false false (.int) := ⟨_, _, _, tyX2, rfl, i_X2, kF_X10_70, rfl, by decide, rfl, rfl, by decide, tyX2_ok, nmX2, rfl, by decide +kernel, fun h => by cases h⟩
theorem fF_X2_61 : jF RX2 61 2 11 false := ⟨_, _, _, rfl, i_X2, kF_X2_61, rfl, by decide, rfl, rfl, by decide⟩
theorem fP_X2_61 : jP RX2 61 2 11 false false (.int) := ⟨_, _, _, tyX2, rfl, i_X2, kF_X2_61, rfl, by decide, rfl, rfl, by decide, tyX2_ok, nmX2, rfl, by decide +kernel, fun h => by cases h⟩
theorem fF_X10_207 : jF RX10 207 2 11 false := ⟨_, _, _, rfl, i_X2, kF_X10_207, rfl, by decide, rfl, rfl, by decide⟩
theorem fP_X10_207 : jP RX10 207 2 11 false false (.int) := ⟨_, _, _, tyX2, rfl, i_X2, kF_X10_207, rfl, by decide, rfl, rfl, by decide, tyX2_ok, nmX2, rfl, by decide +kernel, fun h => by cases h⟩
theorem fF_X0_9 : jF RX0 9 0 0 true := ⟨_, _, _, rfl, i_X0, kF_X0_9, rfl, by decide, rfl, rfl, by decide⟩
theorem fP_X0_9 : jP RX0 9 0 0 true true (.object "CleanSeed$Book") := ⟨_, _, _, tyX0, rfl, i_X0, kF_X0_9, rfl, by decide, rfl, rfl, by decide, tyX0_ok, nmX0, rfl, by decide +kernel, fun _ => rfl⟩
theorem fF_X4_9 : jF RX4 9 4 0 true := ⟨_, _, _, rfl, i_X4, kF_X4_9, rfl, by decide, rfl, rfl, by decide⟩
theorem fP_X4_9 : jP RX4 9 4 0 true true (.object "CleanSeed$Book") := ⟨_, _, _, tyX4, rfl, i_X4, kF_X4_9, rfl, by decide, rfl, rfl, by decide, tyX4_ok, nmX4, rfl, by decide +kernel, fun _ => rfl⟩
theorem fF_X7_37 : jF RX7 37 7 0 true := ⟨_, _, _, rfl, i_X7, kF_X7_37, rfl, by decide, rfl, rfl, by decide⟩
theorem fP_X7_37 : jP RX7 37 7 0 true true (.object "CleanSeed$Book") := ⟨_, _, _, tyX7, rfl, i_X7, kF_X7_37, rfl, by decide, rfl, rfl, by decide, tyX7_ok, nmX7, rfl, by decide +kernel, fun _ => rfl⟩
theorem fF_X7_11 : jF RX7 11 7 1 true := ⟨_, _, _, rfl, i_X7, kF_X7_11, rfl, by decide, rfl, rfl, by decide⟩
theorem fP_X7_11 : jP RX7 11 7 1 true true (.array (.object "CleanSeed$Lot")) := ⟨_, _, _, tyX7, rfl, i_X7, kF_X7_11, rfl, by decide, rfl, rfl, by decide, tyX7_ok, nmX7, rfl, by decide +kernel, fun _ => rfl⟩
theorem fF_X7_17 : jF RX7 17 7 2 true := ⟨_, _, _, rfl, i_X7, kF_X7_17, rfl, by decide, rfl, rfl, by decide⟩
theorem fP_X7_17 : jP RX7 17 7 2 true true (.array .int) := ⟨_, _, _, tyX7, rfl, i_X7, kF_X7_17, rfl, by decide, rfl, rfl, by decide, tyX7_ok, nmX7, rfl, by decide +kernel, fun _ => rfl⟩
theorem fF_X7_21 : jF RX7 21 7 3 true := ⟨_, _, _, rfl, i_X7, kF_X7_21, rfl, by decide, rfl, rfl, by decide⟩
theorem fP_X7_21 : jP RX7 21 7 3 true true (.array .int) := ⟨_, _, _, tyX7, rfl, i_X7, kF_X7_21, rfl, by decide, rfl, rfl, by decide, tyX7_ok, nmX7, rfl, by decide +kernel, fun _ => rfl⟩
theorem fF_X7_24 : jF RX7 24 7 4 true := ⟨_, _, _, rfl, i_X7, kF_X7_24, rfl, by decide, rfl, rfl, by decide⟩
theorem fP_X7_24 : jP RX7 24 7 4 true true (.array .int) := ⟨_, _, _, tyX7, rfl, i_X7, kF_X7_24, rfl, by decide, rfl, rfl, by decide, tyX7_ok, nmX7, rfl, by decide +kernel, fun _ => rfl⟩
theorem fF_X7_27 : jF RX7 27 7 5 true := ⟨_, _, _, rfl, i_X7, kF_X7_27, rfl, by decide, rfl, rfl, by decide⟩
theorem fP_X7_27 : jP RX7 27 7 5 true true (.array .int) := ⟨_, _, _, tyX7, rfl, i_X7, kF_X7_27, rfl, by decide, rfl, rfl, by decide, tyX7_ok, nmX7, rfl, by decide +kernel, fun _ => rfl⟩
theorem fF_X7_30 : jF RX7 30 7 6 false := ⟨_, _, _, rfl, i_X7, kF_X7_30, rfl, by decide, rfl, rfl, by decide⟩
theorem fP_X7_30 : jP RX7 30 7 6 false false (.int) := ⟨_, _, _, tyX7, rfl, i_X7, kF_X7_30, rfl, by decide, rfl, rfl, by decide, tyX7_ok, nmX7, rfl, by decide +kernel, fun h => by cases h⟩
theorem fF_X7_34 : jF RX7 34 7 7 false := ⟨_, _, _, rfl, i_X7, kF_X7_34, rfl, by decide, rfl, rfl, by decide⟩
theorem fP_X7_34 : jP RX7 34 7 7 false false (.int) := ⟨_, _, _, tyX7, rfl, i_X7, kF_X7_34, rfl, by decide, rfl, rfl, by decide, tyX7_ok, nmX7, rfl, by decide +kernel, fun h => by cases h⟩
theorem fF_X10_260 : jF RX10 260 7 7 false := ⟨_, _, _, rfl, i_X7, kF_X10_260, rfl, by decide, rfl, rfl, by decide⟩
theorem fF_X10_10 : jF RX10 10 10 0 true := ⟨_, _, _, rfl, i_X10, kF_X10_10, rfl, by decide, rfl, rfl, by decide⟩
theorem fP_X10_10 : jP RX10 10 10 0 true true (.object "CleanSeed$Book") := ⟨_, _, _, tyX10, rfl, i_X10, kF_X10_10, rfl, by decide, rfl, rfl, by decide, tyX10_ok, nmX10, rfl, by decide +kernel, fun _ => rfl⟩
theorem fF_X10_21 : jF RX10 21 10 1 true := ⟨_, _, _, rfl, i_X10, kF_X10_21, rfl, by decide, rfl, rfl, by decide⟩
theorem fP_X10_21 : jP RX10 21 10 1 true true (.object "CleanSeed$Assessor") := ⟨_, _, _, tyX10, rfl, i_X10, kF_X10_21, rfl, by decide, rfl, rfl, by decide, tyX10_ok, nmX10, rfl, by decide +kernel, fun _ => rfl⟩
theorem fF_X10_28 : jF RX10 28 10 2 true := ⟨_, _, _, rfl, i_X10, kF_X10_28, rfl, by decide, rfl, rfl, by decide⟩
theorem fP_X10_28 : jP RX10 28 10 2 true true (.object "CleanSeed$Kin") := ⟨_, _, _, tyX10, rfl, i_X10, kF_X10_28, rfl, by decide, rfl, rfl, by decide, tyX10_ok, nmX10, rfl, by decide +kernel, fun _ => rfl⟩
theorem fF_X10_35 : jF RX10 35 10 3 true := ⟨_, _, _, rfl, i_X10, kF_X10_35, rfl, by decide, rfl, rfl, by decide⟩
theorem fP_X10_35 : jP RX10 35 10 3 true true (.object "CleanSeed$Planner") := ⟨_, _, _, tyX10, rfl, i_X10, kF_X10_35, rfl, by decide, rfl, rfl, by decide, tyX10_ok, nmX10, rfl, by decide +kernel, fun _ => rfl⟩
theorem fF_X10_39 : jF RX10 39 10 4 true := ⟨_, _, _, rfl, i_X10, kF_X10_39, rfl, by decide, rfl, rfl, by decide⟩
theorem fP_X10_39 : jP RX10 39 10 4 true true (.array .int) := ⟨_, _, _, tyX10, rfl, i_X10, kF_X10_39, rfl, by decide, rfl, rfl, by decide, tyX10_ok, nmX10, rfl, by decide +kernel, fun _ => rfl⟩
theorem fF_X3_23 : jF RX3 23 3 0 false := ⟨_, _, _, rfl, i_X3, kF_X3_23, rfl, by decide, rfl, rfl, by decide⟩
theorem fP_X3_23 : jP RX3 23 3 0 false true (.int) := ⟨_, _, _, tyX3, rfl, i_X3, kF_X3_23, rfl, by decide, rfl, rfl, by decide, tyX3_ok, nmX3, rfl, by decide +kernel, fun _ => rfl⟩
theorem fF_X6_85 : jF RX6 85 3 0 false := ⟨_, _, _, rfl, i_X3, kF_X6_85, rfl, by decide, rfl, rfl, by decide⟩
theorem fF_X3_33 : jF RX3 33 3 1 false := ⟨_, _, _, rfl, i_X3, kF_X3_33, rfl, by decide, rfl, rfl, by decide⟩
theorem fP_X3_33 : jP RX3 33 3 1 false true (.int) := ⟨_, _, _, tyX3, rfl, i_X3, kF_X3_33, rfl, by decide, rfl, rfl, by decide, tyX3_ok, nmX3, rfl, by decide +kernel, fun _ => rfl⟩
theorem fF_X3_39 : jF RX3 39 3 2 false := ⟨_, _, _, rfl, i_X3, kF_X3_39, rfl, by decide, rfl, rfl, by decide⟩
theorem fP_X3_39 : jP RX3 39 3 2 false true (.int) := ⟨_, _, _, tyX3, rfl, i_X3, kF_X3_39, rfl, by decide, rfl, rfl, by decide, tyX3_ok, nmX3, rfl, by decide +kernel, fun _ => rfl⟩
theorem fF_X3_42 : jF RX3 42 3 3 false := ⟨_, _, _, rfl, i_X3, kF_X3_42, rfl, by decide, rfl, rfl, by decide⟩
theorem fP_X3_42 : jP RX3 42 3 3 false true (.int) := ⟨_, _, _, tyX3, rfl, i_X3, kF_X3_42, rfl, by decide, rfl, rfl, by decide, tyX3_ok, nmX3, rfl, by decide +kernel, fun _ => rfl⟩
theorem fF_X3_45 : jF RX3 45 3 4 false := ⟨_, _, _, rfl, i_X3, kF_X3_45, rfl, by decide, rfl, rfl, by decide⟩
theorem fP_X3_45 : jP RX3 45 3 4 false true (.int) := ⟨_, _, _, tyX3, rfl, i_X3, kF_X3_45, rfl, by decide, rfl, rfl, by decide, tyX3_ok, nmX3, rfl, by decide +kernel, fun _ => rfl⟩
theorem fF_X3_11 : jF RX3 11 3 5 true := ⟨_, _, _, rfl, i_X3, kF_X3_11, rfl, by decide, rfl, rfl, by decide⟩
theorem fP_X3_11 : jP RX3 11 3 5 true true (.array (.object "CleanSeed$Lot")) := ⟨_, _, _, tyX3, rfl, i_X3, kF_X3_11, rfl, by decide, rfl, rfl, by decide, tyX3_ok, nmX3, rfl, by decide +kernel, fun _ => rfl⟩
theorem fF_X3_19 : jF RX3 19 3 6 true := ⟨_, _, _, rfl, i_X3, kF_X3_19, rfl, by decide, rfl, rfl, by decide⟩
theorem fP_X3_19 : jP RX3 19 3 6 true true (.array (.object "CleanSeed$Telling")) := ⟨_, _, _, tyX3, rfl, i_X3, kF_X3_19, rfl, by decide, rfl, rfl, by decide, tyX3_ok, nmX3, rfl, by decide +kernel, fun _ => rfl⟩
theorem fF_X9_7 : jF RX9 7 9 0 true := ⟨_, _, _, rfl, i_X9, kF_X9_7, rfl, by decide, rfl, rfl, by decide⟩
theorem fP_X9_7 : jP RX9 7 9 0 true true (.object "CleanSeed$Telling") := ⟨_, _, _, tyX9, rfl, i_X9, kF_X9_7, rfl, by decide, rfl, rfl, by decide, tyX9_ok, nmX9, rfl, by decide +kernel, fun _ => rfl⟩
theorem fF_X3_65 : jF RX3 65 9 0 true := ⟨_, _, _, rfl, i_X9, kF_X3_65, rfl, by decide, rfl, rfl, by decide⟩
theorem fF_X9_13 : jF RX9 13 9 1 false := ⟨_, _, _, rfl, i_X9, kF_X9_13, rfl, by decide, rfl, rfl, by decide⟩
theorem fP_X9_13 : jP RX9 13 9 1 false true (.int) := ⟨_, _, _, tyX9, rfl, i_X9, kF_X9_13, rfl, by decide, rfl, rfl, by decide, tyX9_ok, nmX9, rfl, by decide +kernel, fun _ => rfl⟩
theorem fF_X3_61 : jF RX3 61 9 1 false := ⟨_, _, _, rfl, i_X9, kF_X3_61, rfl, by decide, rfl, rfl, by decide⟩
theorem fF_X9_17 : jF RX9 17 9 2 false := ⟨_, _, _, rfl, i_X9, kF_X9_17, rfl, by decide, rfl, rfl, by decide⟩
theorem fP_X9_17 : jP RX9 17 9 2 false true (.int) := ⟨_, _, _, tyX9, rfl, i_X9, kF_X9_17, rfl, by decide, rfl, rfl, by decide, tyX9_ok, nmX9, rfl, by decide +kernel, fun _ => rfl⟩
theorem fF_X3_64 : jF RX3 64 9 2 false := ⟨_, _, _, rfl, i_X9, kF_X3_64, rfl, by decide, rfl, rfl, by decide⟩
theorem fF_X8_7 : jF RX8 7 8 0 true := ⟨_, _, _, rfl, i_X8, kF_X8_7, rfl, by decide, rfl, rfl, by decide⟩
theorem fP_X8_7 : jP RX8 7 8 0 true true (.object "CleanSeed$Statute") := ⟨_, _, _, tyX8, rfl, i_X8, kF_X8_7, rfl, by decide, rfl, rfl, by decide, tyX8_ok, nmX8, rfl, by decide +kernel, fun _ => rfl⟩
theorem fF_X2_76 : jF RX2 76 8 0 true := ⟨_, _, _, rfl, i_X8, kF_X2_76, rfl, by decide, rfl, rfl, by decide⟩
theorem fF_X8_13 : jF RX8 13 8 1 false := ⟨_, _, _, rfl, i_X8, kF_X8_13, rfl, by decide, rfl, rfl, by decide⟩
theorem fP_X8_13 : jP RX8 13 8 1 false true (.int) := ⟨_, _, _, tyX8, rfl, i_X8, kF_X8_13, rfl, by decide, rfl, rfl, by decide, tyX8_ok, nmX8, rfl, by decide +kernel, fun _ => rfl⟩
theorem fF_X2_70 : jF RX2 70 8 1 false := ⟨_, _, _, rfl, i_X8, kF_X2_70, rfl, by decide, rfl, rfl, by decide⟩
theorem fF_X8_17 : jF RX8 17 8 2 false := ⟨_, _, _, rfl, i_X8, kF_X8_17, rfl, by decide, rfl, rfl, by decide⟩
theorem fP_X8_17 : jP RX8 17 8 2 false true (.int) := ⟨_, _, _, tyX8, rfl, i_X8, kF_X8_17, rfl, by decide, rfl, rfl, by decide, tyX8_ok, nmX8, rfl, by decide +kernel, fun _ => rfl⟩
theorem fF_X2_73 : jF RX2 73 8 2 false := ⟨_, _, _, rfl, i_X8, kF_X2_73, rfl, by decide, rfl, rfl, by decide⟩
theorem fF_X8_20 : jF RX8 20 8 3 false := ⟨_, _, _, rfl, i_X8, kF_X8_20, rfl, by decide, rfl, rfl, by decide⟩
theorem fP_X8_20 : jP RX8 20 8 3 false true (.int) := ⟨_, _, _, tyX8, rfl, i_X8, kF_X8_20, rfl, by decide, rfl, rfl, by decide, tyX8_ok, nmX8, rfl, by decide +kernel, fun _ => rfl⟩
theorem fF_X2_80 : jF RX2 80 8 3 false := ⟨_, _, _, rfl, i_X8, kF_X2_80, rfl, by decide, rfl, rfl, by decide⟩
theorem fF_X6_64 : jF RX6 64 6 0 false := ⟨_, _, _, rfl, i_X6, kF_X6_64, rfl, by decide, rfl, rfl, by decide⟩
theorem fP_X6_64 : jP RX6 64 6 0 false true (.int) := ⟨_, _, _, tyX6, rfl, i_X6, kF_X6_64, rfl, by decide, rfl, rfl, by decide, tyX6_ok, nmX6, rfl, by decide +kernel, fun _ => rfl⟩
theorem fF_X1_25 : jF RX1 25 6 0 false := ⟨_, _, _, rfl, i_X6, kF_X1_25, rfl, by decide, rfl, rfl, by decide⟩
theorem fF_X4_84 : jF RX4 84 6 0 false := ⟨_, _, _, rfl, i_X6, kF_X4_84, rfl, by decide, rfl, rfl, by decide⟩
theorem fF_X10_158 : jF RX10 158 6 0 false := ⟨_, _, _, rfl, i_X6, kF_X10_158, rfl, by decide, rfl, rfl, by decide⟩
theorem fF_X6_67 : jF RX6 67 6 1 false := ⟨_, _, _, rfl, i_X6, kF_X6_67, rfl, by decide, rfl, rfl, by decide⟩
theorem fP_X6_67 : jP RX6 67 6 1 false true (.int) := ⟨_, _, _, tyX6, rfl, i_X6, kF_X6_67, rfl, by decide, rfl, rfl, by decide, tyX6_ok, nmX6, rfl, by decide +kernel, fun _ => rfl⟩
theorem fF_X0_25 : jF RX0 25 6 1 false := ⟨_, _, _, rfl, i_X6, kF_X0_25, rfl, by decide, rfl, rfl, by decide⟩
theorem fF_X10_115 : jF RX10 115 6 1 false := ⟨_, _, _, rfl, i_X6, kF_X10_115, rfl, by decide, rfl, rfl, by decide⟩
theorem fF_X6_70 : jF RX6 70 6 2 false := ⟨_, _, _, rfl, i_X6, kF_X6_70, rfl, by decide, rfl, rfl, by decide⟩
theorem fP_X6_70 : jP RX6 70 6 2 false true (.int) := ⟨_, _, _, tyX6, rfl, i_X6, kF_X6_70, rfl, by decide, rfl, rfl, by decide, tyX6_ok, nmX6, rfl, by decide +kernel, fun _ => rfl⟩
theorem fF_X0_71 : jF RX0 71 6 2 false := ⟨_, _, _, rfl, i_X6, kF_X0_71, rfl, by decide, rfl, rfl, by decide⟩
theorem fF_X7_65 : jF RX7 65 6 2 false := ⟨_, _, _, rfl, i_X6, kF_X7_65, rfl, by decide, rfl, rfl, by decide⟩
theorem fF_X3_58 : jF RX3 58 6 2 false := ⟨_, _, _, rfl, i_X6, kF_X3_58, rfl, by decide, rfl, rfl, by decide⟩
theorem fF_X10_124 : jF RX10 124 6 2 false := ⟨_, _, _, rfl, i_X6, kF_X10_124, rfl, by decide, rfl, rfl, by decide⟩
theorem fF_X6_73 : jF RX6 73 6 3 false := ⟨_, _, _, rfl, i_X6, kF_X6_73, rfl, by decide, rfl, rfl, by decide⟩
theorem fP_X6_73 : jP RX6 73 6 3 false true (.int) := ⟨_, _, _, tyX6, rfl, i_X6, kF_X6_73, rfl, by decide, rfl, rfl, by decide, tyX6_ok, nmX6, rfl, by decide +kernel, fun _ => rfl⟩
theorem fF_X3_48 : jF RX3 48 6 3 false := ⟨_, _, _, rfl, i_X6, kF_X3_48, rfl, by decide, rfl, rfl, by decide⟩
theorem fF_X0_64 : jF RX0 64 6 3 false := ⟨_, _, _, rfl, i_X6, kF_X0_64, rfl, by decide, rfl, rfl, by decide⟩
theorem fF_X10_118 : jF RX10 118 6 3 false := ⟨_, _, _, rfl, i_X6, kF_X10_118, rfl, by decide, rfl, rfl, by decide⟩
theorem fF_X6_9 : jF RX6 9 6 4 true := ⟨_, _, _, rfl, i_X6, kF_X6_9, rfl, by decide, rfl, rfl, by decide⟩
theorem fP_X6_9 : jP RX6 9 6 4 true false (.object "CleanSeed$Field") := ⟨_, _, _, tyX6, rfl, i_X6, kF_X6_9, rfl, by decide, rfl, rfl, by decide, tyX6_ok, nmX6, rfl, by decide +kernel, fun h => by cases h⟩
theorem fF_X0_56 : jF RX0 56 6 4 true := ⟨_, _, _, rfl, i_X6, kF_X0_56, rfl, by decide, rfl, rfl, by decide⟩
theorem fF_X10_131 : jF RX10 131 6 4 true := ⟨_, _, _, rfl, i_X6, kF_X10_131, rfl, by decide, rfl, rfl, by decide⟩
theorem fP_X10_131 : jP RX10 131 6 4 true false (.object "CleanSeed$Field") := ⟨_, _, _, tyX6, rfl, i_X6, kF_X10_131, rfl, by decide, rfl, rfl, by decide, tyX6_ok, nmX6, rfl, by decide +kernel, fun h => by cases h⟩
theorem fF_X6_15 : jF RX6 15 6 5 true := ⟨_, _, _, rfl, i_X6, kF_X6_15, rfl, by decide, rfl, rfl, by decide⟩
theorem fP_X6_15 : jP RX6 15 6 5 true false (.object "CleanSeed$Lot") := ⟨_, _, _, tyX6, rfl, i_X6, kF_X6_15, rfl, by decide, rfl, rfl, by decide, tyX6_ok, nmX6, rfl, by decide +kernel, fun h => by cases h⟩
theorem fF_X4_25 : jF RX4 25 6 5 true := ⟨_, _, _, rfl, i_X6, kF_X4_25, rfl, by decide, rfl, rfl, by decide⟩
theorem fF_X10_127 : jF RX10 127 6 5 true := ⟨_, _, _, rfl, i_X6, kF_X10_127, rfl, by decide, rfl, rfl, by decide⟩
theorem fP_X10_127 : jP RX10 127 6 5 true false (.object "CleanSeed$Lot") := ⟨_, _, _, tyX6, rfl, i_X6, kF_X10_127, rfl, by decide, rfl, rfl, by decide, tyX6_ok, nmX6, rfl, by decide +kernel, fun h => by cases h⟩
theorem fF_X6_19 : jF RX6 19 6 6 true := ⟨_, _, _, rfl, i_X6, kF_X6_19, rfl, by decide, rfl, rfl, by decide⟩
theorem fP_X6_19 : jP RX6 19 6 6 true false (.object "CleanSeed$Lot") := ⟨_, _, _, tyX6, rfl, i_X6, kF_X6_19, rfl, by decide, rfl, rfl, by decide, tyX6_ok, nmX6, rfl, by decide +kernel, fun h => by cases h⟩
theorem fF_X4_35 : jF RX4 35 6 6 true := ⟨_, _, _, rfl, i_X6, kF_X4_35, rfl, by decide, rfl, rfl, by decide⟩
theorem fF_X10_149 : jF RX10 149 6 6 true := ⟨_, _, _, rfl, i_X6, kF_X10_149, rfl, by decide, rfl, rfl, by decide⟩
theorem fP_X10_149 : jP RX10 149 6 6 true false (.object "CleanSeed$Lot") := ⟨_, _, _, tyX6, rfl, i_X6, kF_X10_149, rfl, by decide, rfl, rfl, by decide, tyX6_ok, nmX6, rfl, by decide +kernel, fun h => by cases h⟩
theorem fF_X6_22 : jF RX6 22 6 7 false := ⟨_, _, _, rfl, i_X6, kF_X6_22, rfl, by decide, rfl, rfl, by decide⟩
theorem fP_X6_22 : jP RX6 22 6 7 false false (.int) := ⟨_, _, _, tyX6, rfl, i_X6, kF_X6_22, rfl, by decide, rfl, rfl, by decide, tyX6_ok, nmX6, rfl, by decide +kernel, fun h => by cases h⟩
theorem fF_X10_139 : jF RX10 139 6 7 false := ⟨_, _, _, rfl, i_X6, kF_X10_139, rfl, by decide, rfl, rfl, by decide⟩
theorem fP_X10_139 : jP RX10 139 6 7 false false (.int) := ⟨_, _, _, tyX6, rfl, i_X6, kF_X10_139, rfl, by decide, rfl, rfl, by decide, tyX6_ok, nmX6, rfl, by decide +kernel, fun h => by cases h⟩
theorem fF_X6_26 : jF RX6 26 6 8 false := ⟨_, _, _, rfl, i_X6, kF_X6_26, rfl, by decide, rfl, rfl, by decide⟩
theorem fP_X6_26 : jP RX6 26 6 8 false false (.int) := ⟨_, _, _, tyX6, rfl, i_X6, kF_X6_26, rfl, by decide, rfl, rfl, by decide, tyX6_ok, nmX6, rfl, by decide +kernel, fun h => by cases h⟩
theorem fF_X10_145 : jF RX10 145 6 8 false := ⟨_, _, _, rfl, i_X6, kF_X10_145, rfl, by decide, rfl, rfl, by decide⟩
theorem fF_X6_29 : jF RX6 29 6 9 false := ⟨_, _, _, rfl, i_X6, kF_X6_29, rfl, by decide, rfl, rfl, by decide⟩
theorem fP_X6_29 : jP RX6 29 6 9 false false (.int) := ⟨_, _, _, tyX6, rfl, i_X6, kF_X6_29, rfl, by decide, rfl, rfl, by decide, tyX6_ok, nmX6, rfl, by decide +kernel, fun h => by cases h⟩
theorem fF_X10_142 : jF RX10 142 6 9 false := ⟨_, _, _, rfl, i_X6, kF_X10_142, rfl, by decide, rfl, rfl, by decide⟩
theorem fP_X10_142 : jP RX10 142 6 9 false false (.int) := ⟨_, _, _, tyX6, rfl, i_X6, kF_X10_142, rfl, by decide, rfl, rfl, by decide, tyX6_ok, nmX6, rfl, by decide +kernel, fun h => by cases h⟩
theorem fF_X6_32 : jF RX6 32 6 10 false := ⟨_, _, _, rfl, i_X6, kF_X6_32, rfl, by decide, rfl, rfl, by decide⟩
theorem fP_X6_32 : jP RX6 32 6 10 false false (.int) := ⟨_, _, _, tyX6, rfl, i_X6, kF_X6_32, rfl, by decide, rfl, rfl, by decide, tyX6_ok, nmX6, rfl, by decide +kernel, fun h => by cases h⟩
theorem fF_X10_152 : jF RX10 152 6 10 false := ⟨_, _, _, rfl, i_X6, kF_X10_152, rfl, by decide, rfl, rfl, by decide⟩
theorem fP_X10_152 : jP RX10 152 6 10 false false (.int) := ⟨_, _, _, tyX6, rfl, i_X6, kF_X10_152, rfl, by decide, rfl, rfl, by decide, tyX6_ok, nmX6, rfl, by decide +kernel, fun h => by cases h⟩
theorem fF_X6_35 : jF RX6 35 6 11 false := ⟨_, _, _, rfl, i_X6, kF_X6_35, rfl, by decide, rfl, rfl, by decide⟩
theorem fP_X6_35 : jP RX6 35 6 11 false false (.int) := ⟨_, _, _, tyX6, rfl, i_X6, kF_X6_35, rfl, by decide, rfl, rfl, by decide, tyX6_ok, nmX6, rfl, by decide +kernel, fun h => by cases h⟩
theorem fF_X10_168 : jF RX10 168 6 11 false := ⟨_, _, _, rfl, i_X6, kF_X10_168, rfl, by decide, rfl, rfl, by decide⟩
theorem fP_X10_168 : jP RX10 168 6 11 false false (.int) := ⟨_, _, _, tyX6, rfl, i_X6, kF_X10_168, rfl, by decide, rfl, rfl, by decide, tyX6_ok, nmX6, rfl, by decide +kernel, fun h => by cases h⟩
theorem fF_X6_38 : jF RX6 38 6 12 false := ⟨_, _, _, rfl, i_X6, kF_X6_38, rfl, by decide, rfl, rfl, by decide⟩
theorem fP_X6_38 : jP RX6 38 6 12 false false (.int) := ⟨_, _, _, tyX6, rfl, i_X6, kF_X6_38, rfl, by decide, rfl, rfl, by decide, tyX6_ok, nmX6, rfl, by decide +kernel, fun h => by cases h⟩
theorem fF_X10_204 : jF RX10 204 6 12 false := ⟨_, _, _, rfl, i_X6, kF_X10_204, rfl, by decide, rfl, rfl, by decide⟩
theorem fP_X10_204 : jP RX10 204 6 12 false false (.int) := ⟨_, _, _, tyX6, rfl, i_X6, kF_X10_204, rfl, by decide, rfl, rfl, by decide, tyX6_ok, nmX6, rfl, by decide +kernel, fun h => by cases h⟩
theorem fF_X6_41 : jF RX6 41 6 13 true := ⟨_, _, _, rfl, i_X6, kF_X6_41, rfl, by decide, rfl, rfl, by decide⟩
theorem fP_X6_41 : jP RX6 41 6 13 true false (.object "CleanSeed$Look") := ⟨_, _, _, tyX6, rfl, i_X6, kF_X6_41, rfl, by decide, rfl, rfl, by decide, tyX6_ok, nmX6, rfl, by decide +kernel, fun h => by cases h⟩
theorem fF_X10_212 : jF RX10 212 6 13 true := ⟨_, _, _, rfl, i_X6, kF_X10_212, rfl, by decide, rfl, rfl, by decide⟩
theorem fP_X10_212 : jP RX10 212 6 13 true false (.object "CleanSeed$Look") := ⟨_, _, _, tyX6, rfl, i_X6, kF_X10_212, rfl, by decide, rfl, rfl, by decide, tyX6_ok, nmX6, rfl, by decide +kernel, fun h => by cases h⟩
theorem fF_X6_45 : jF RX6 45 6 14 false := ⟨_, _, _, rfl, i_X6, kF_X6_45, rfl, by decide, rfl, rfl, by decide⟩
theorem fP_X6_45 : jP RX6 45 6 14 false false (.int) := ⟨_, _, _, tyX6, rfl, i_X6, kF_X6_45, rfl, by decide, rfl, rfl, by decide, tyX6_ok, nmX6, rfl, by decide +kernel, fun h => by cases h⟩
theorem fF_X10_231 : jF RX10 231 6 14 false := ⟨_, _, _, rfl, i_X6, kF_X10_231, rfl, by decide, rfl, rfl, by decide⟩
theorem fP_X10_231 : jP RX10 231 6 14 false false (.int) := ⟨_, _, _, tyX6, rfl, i_X6, kF_X10_231, rfl, by decide, rfl, rfl, by decide, tyX6_ok, nmX6, rfl, by decide +kernel, fun h => by cases h⟩
theorem fF_X6_48 : jF RX6 48 6 15 false := ⟨_, _, _, rfl, i_X6, kF_X6_48, rfl, by decide, rfl, rfl, by decide⟩
theorem fP_X6_48 : jP RX6 48 6 15 false false (.int) := ⟨_, _, _, tyX6, rfl, i_X6, kF_X6_48, rfl, by decide, rfl, rfl, by decide, tyX6_ok, nmX6, rfl, by decide +kernel, fun h => by cases h⟩
theorem fF_X0_38 : jF RX0 38 6 15 false := ⟨_, _, _, rfl, i_X6, kF_X0_38, rfl, by decide, rfl, rfl, by decide⟩
theorem fP_X0_38 : jP RX0 38 6 15 false false (.int) := ⟨_, _, _, tyX6, rfl, i_X6, kF_X0_38, rfl, by decide, rfl, rfl, by decide, tyX6_ok, nmX6, rfl, by decide +kernel, fun h => by cases h⟩
theorem fF_X10_165 : jF RX10 165 6 15 false := ⟨_, _, _, rfl, i_X6, kF_X10_165, rfl, by decide, rfl, rfl, by decide⟩
theorem fF_X6_51 : jF RX6 51 6 16 false := ⟨_, _, _, rfl, i_X6, kF_X6_51, rfl, by decide, rfl, rfl, by decide⟩
theorem fP_X6_51 : jP RX6 51 6 16 false false (.int) := ⟨_, _, _, tyX6, rfl, i_X6, kF_X6_51, rfl, by decide, rfl, rfl, by decide, tyX6_ok, nmX6, rfl, by decide +kernel, fun h => by cases h⟩
theorem fF_X0_45 : jF RX0 45 6 16 false := ⟨_, _, _, rfl, i_X6, kF_X0_45, rfl, by decide, rfl, rfl, by decide⟩
theorem fP_X0_45 : jP RX0 45 6 16 false false (.int) := ⟨_, _, _, tyX6, rfl, i_X6, kF_X0_45, rfl, by decide, rfl, rfl, by decide, tyX6_ok, nmX6, rfl, by decide +kernel, fun h => by cases h⟩
theorem fF_X10_238 : jF RX10 238 6 16 false := ⟨_, _, _, rfl, i_X6, kF_X10_238, rfl, by decide, rfl, rfl, by decide⟩
theorem fF_X6_54 : jF RX6 54 6 17 false := ⟨_, _, _, rfl, i_X6, kF_X6_54, rfl, by decide, rfl, rfl, by decide⟩
theorem fP_X6_54 : jP RX6 54 6 17 false false (.int) := ⟨_, _, _, tyX6, rfl, i_X6, kF_X6_54, rfl, by decide, rfl, rfl, by decide, tyX6_ok, nmX6, rfl, by decide +kernel, fun h => by cases h⟩
theorem fF_X4_45 : jF RX4 45 6 17 false := ⟨_, _, _, rfl, i_X6, kF_X4_45, rfl, by decide, rfl, rfl, by decide⟩
theorem fP_X4_45 : jP RX4 45 6 17 false false (.int) := ⟨_, _, _, tyX6, rfl, i_X6, kF_X4_45, rfl, by decide, rfl, rfl, by decide, tyX6_ok, nmX6, rfl, by decide +kernel, fun h => by cases h⟩
theorem fF_X10_244 : jF RX10 244 6 17 false := ⟨_, _, _, rfl, i_X6, kF_X10_244, rfl, by decide, rfl, rfl, by decide⟩
theorem fF_X6_57 : jF RX6 57 6 18 false := ⟨_, _, _, rfl, i_X6, kF_X6_57, rfl, by decide, rfl, rfl, by decide⟩
theorem fP_X6_57 : jP RX6 57 6 18 false false (.boolean) := ⟨_, _, _, tyX6, rfl, i_X6, kF_X6_57, rfl, by decide, rfl, rfl, by decide, tyX6_ok, nmX6, rfl, by decide +kernel, fun h => by cases h⟩
theorem fF_X4_80 : jF RX4 80 6 18 false := ⟨_, _, _, rfl, i_X6, kF_X4_80, rfl, by decide, rfl, rfl, by decide⟩
theorem fP_X4_80 : jP RX4 80 6 18 false false (.boolean) := ⟨_, _, _, tyX6, rfl, i_X6, kF_X4_80, rfl, by decide, rfl, rfl, by decide, tyX6_ok, nmX6, rfl, by decide +kernel, fun h => by cases h⟩
theorem fF_X6_61 : jF RX6 61 6 19 false := ⟨_, _, _, rfl, i_X6, kF_X6_61, rfl, by decide, rfl, rfl, by decide⟩
theorem fP_X6_61 : jP RX6 61 6 19 false false (.boolean) := ⟨_, _, _, tyX6, rfl, i_X6, kF_X6_61, rfl, by decide, rfl, rfl, by decide, tyX6_ok, nmX6, rfl, by decide +kernel, fun h => by cases h⟩
theorem fF_X4_94 : jF RX4 94 6 19 false := ⟨_, _, _, rfl, i_X6, kF_X4_94, rfl, by decide, rfl, rfl, by decide⟩
theorem fP_X4_94 : jP RX4 94 6 19 false false (.boolean) := ⟨_, _, _, tyX6, rfl, i_X6, kF_X4_94, rfl, by decide, rfl, rfl, by decide, tyX6_ok, nmX6, rfl, by decide +kernel, fun h => by cases h⟩
theorem fF_X1_15 : jF RX1 15 1 0 true := ⟨_, _, _, rfl, i_X1, kF_X1_15, rfl, by decide, rfl, rfl, by decide⟩
theorem fP_X1_15 : jP RX1 15 1 0 true true (.object "CleanSeed$Lot") := ⟨_, _, _, tyX1, rfl, i_X1, kF_X1_15, rfl, by decide, rfl, rfl, by decide, tyX1_ok, nmX1, rfl, by decide +kernel, fun _ => rfl⟩
theorem fF_X4_65 : jF RX4 65 1 0 true := ⟨_, _, _, rfl, i_X1, kF_X4_65, rfl, by decide, rfl, rfl, by decide⟩
theorem fF_X10_198 : jF RX10 198 1 0 true := ⟨_, _, _, rfl, i_X1, kF_X10_198, rfl, by decide, rfl, rfl, by decide⟩
theorem fF_X1_19 : jF RX1 19 1 1 false := ⟨_, _, _, rfl, i_X1, kF_X1_19, rfl, by decide, rfl, rfl, by decide⟩
theorem fP_X1_19 : jP RX1 19 1 1 false true (.int) := ⟨_, _, _, tyX1, rfl, i_X1, kF_X1_19, rfl, by decide, rfl, rfl, by decide, tyX1_ok, nmX1, rfl, by decide +kernel, fun _ => rfl⟩
theorem fF_X1_22 : jF RX1 22 1 2 false := ⟨_, _, _, rfl, i_X1, kF_X1_22, rfl, by decide, rfl, rfl, by decide⟩
theorem fP_X1_22 : jP RX1 22 1 2 false false (.int) := ⟨_, _, _, tyX1, rfl, i_X1, kF_X1_22, rfl, by decide, rfl, rfl, by decide, tyX1_ok, nmX1, rfl, by decide +kernel, fun h => by cases h⟩
theorem fF_X10_192 : jF RX10 192 1 2 false := ⟨_, _, _, rfl, i_X1, kF_X10_192, rfl, by decide, rfl, rfl, by decide⟩
theorem fP_X10_192 : jP RX10 192 1 2 false false (.int) := ⟨_, _, _, tyX1, rfl, i_X1, kF_X10_192, rfl, by decide, rfl, rfl, by decide, tyX1_ok, nmX1, rfl, by decide +kernel, fun h => by cases h⟩
theorem fF_X1_9 : jF RX1 9 1 3 false := ⟨_, _, _, rfl, i_X1, kF_X1_9, rfl, by decide, rfl, rfl, by decide⟩
theorem fP_X1_9 : jP RX1 9 1 3 false false (.int) := ⟨_, _, _, tyX1, rfl, i_X1, kF_X1_9, rfl, by decide, rfl, rfl, by decide, tyX1_ok, nmX1, rfl, by decide +kernel, fun h => by cases h⟩
theorem fF_X4_68 : jF RX4 68 1 3 false := ⟨_, _, _, rfl, i_X1, kF_X4_68, rfl, by decide, rfl, rfl, by decide⟩
theorem fF_X10_201 : jF RX10 201 1 3 false := ⟨_, _, _, rfl, i_X1, kF_X10_201, rfl, by decide, rfl, rfl, by decide⟩
theorem fP_X10_201 : jP RX10 201 1 3 false false (.int) := ⟨_, _, _, tyX1, rfl, i_X1, kF_X10_201, rfl, by decide, rfl, rfl, by decide, tyX1_ok, nmX1, rfl, by decide +kernel, fun h => by cases h⟩
theorem fF_X5_7 : jF RX5 7 5 0 true := ⟨_, _, _, rfl, i_X5, kF_X5_7, rfl, by decide, rfl, rfl, by decide⟩
theorem fP_X5_7 : jP RX5 7 5 0 true true (.object "CleanSeed$Look") := ⟨_, _, _, tyX5, rfl, i_X5, kF_X5_7, rfl, by decide, rfl, rfl, by decide, tyX5_ok, nmX5, rfl, by decide +kernel, fun _ => rfl⟩
theorem fF_X6_82 : jF RX6 82 5 0 true := ⟨_, _, _, rfl, i_X5, kF_X6_82, rfl, by decide, rfl, rfl, by decide⟩
theorem fF_X5_13 : jF RX5 13 5 1 false := ⟨_, _, _, rfl, i_X5, kF_X5_13, rfl, by decide, rfl, rfl, by decide⟩
theorem fP_X5_13 : jP RX5 13 5 1 false true (.int) := ⟨_, _, _, tyX5, rfl, i_X5, kF_X5_13, rfl, by decide, rfl, rfl, by decide, tyX5_ok, nmX5, rfl, by decide +kernel, fun _ => rfl⟩
theorem fF_X6_79 : jF RX6 79 5 1 false := ⟨_, _, _, rfl, i_X5, kF_X6_79, rfl, by decide, rfl, rfl, by decide⟩
theorem fF_X5_17 : jF RX5 17 5 2 false := ⟨_, _, _, rfl, i_X5, kF_X5_17, rfl, by decide, rfl, rfl, by decide⟩
theorem fP_X5_17 : jP RX5 17 5 2 false true (.int) := ⟨_, _, _, tyX5, rfl, i_X5, kF_X5_17, rfl, by decide, rfl, rfl, by decide, tyX5_ok, nmX5, rfl, by decide +kernel, fun _ => rfl⟩
theorem fF_X6_76 : jF RX6 76 5 2 false := ⟨_, _, _, rfl, i_X5, kF_X6_76, rfl, by decide, rfl, rfl, by decide⟩
theorem fF_X0_84 : jF RX0 84 5 2 false := ⟨_, _, _, rfl, i_X5, kF_X0_84, rfl, by decide, rfl, rfl, by decide⟩
theorem fF_X5_20 : jF RX5 20 5 3 false := ⟨_, _, _, rfl, i_X5, kF_X5_20, rfl, by decide, rfl, rfl, by decide⟩
theorem fP_X5_20 : jP RX5 20 5 3 false true (.int) := ⟨_, _, _, tyX5, rfl, i_X5, kF_X5_20, rfl, by decide, rfl, rfl, by decide, tyX5_ok, nmX5, rfl, by decide +kernel, fun _ => rfl⟩
theorem fF_X0_94 : jF RX0 94 5 3 false := ⟨_, _, _, rfl, i_X5, kF_X0_94, rfl, by decide, rfl, rfl, by decide⟩
theorem fF_X5_23 : jF RX5 23 5 4 false := ⟨_, _, _, rfl, i_X5, kF_X5_23, rfl, by decide, rfl, rfl, by decide⟩
theorem fP_X5_23 : jP RX5 23 5 4 false true (.int) := ⟨_, _, _, tyX5, rfl, i_X5, kF_X5_23, rfl, by decide, rfl, rfl, by decide, tyX5_ok, nmX5, rfl, by decide +kernel, fun _ => rfl⟩
theorem fF_X0_91 : jF RX0 91 5 4 false := ⟨_, _, _, rfl, i_X5, kF_X0_91, rfl, by decide, rfl, rfl, by decide⟩
theorem fF_X11_141 : jF RX11 141 11 0 false := ⟨_, _, _, rfl, i_X11, kF_X11_141, rfl, by decide, rfl, rfl, by decide⟩
theorem fP_X11_141 : jP RX11 141 11 0 false false (.int) := ⟨_, _, _, tyX11, rfl, i_X11, kF_X11_141, rfl, by decide, rfl, rfl, by decide, tyX11_ok, nmX11, rfl, by decide +kernel, fun h => by cases h⟩
theorem fF_X11_130 : jF RX11 130 11 1 false := ⟨_, _, _, rfl, i_X11, kF_X11_130, rfl, by decide, rfl, rfl, by decide⟩
theorem fP_X11_130 : jP RX11 130 11 1 false false (.int) := ⟨_, _, _, tyX11, rfl, i_X11, kF_X11_130, rfl, by decide, rfl, rfl, by decide, tyX11_ok, nmX11, rfl, by decide +kernel, fun h => by cases h⟩
theorem fF_X11_138 : jF RX11 138 11 2 false := ⟨_, _, _, rfl, i_X11, kF_X11_138, rfl, by decide, rfl, rfl, by decide⟩
theorem fP_X11_138 : jP RX11 138 11 2 false false (.int) := ⟨_, _, _, tyX11, rfl, i_X11, kF_X11_138, rfl, by decide, rfl, rfl, by decide, tyX11_ok, nmX11, rfl, by decide +kernel, fun h => by cases h⟩
theorem fF_X11_190 : jF RX11 190 11 3 false := ⟨_, _, _, rfl, i_X11, kF_X11_190, rfl, by decide, rfl, rfl, by decide⟩
theorem fP_X11_190 : jP RX11 190 11 3 false false (.int) := ⟨_, _, _, tyX11, rfl, i_X11, kF_X11_190, rfl, by decide, rfl, rfl, by decide, tyX11_ok, nmX11, rfl, by decide +kernel, fun h => by cases h⟩
theorem fF_X11_196 : jF RX11 196 11 4 false := ⟨_, _, _, rfl, i_X11, kF_X11_196, rfl, by decide, rfl, rfl, by decide⟩
theorem fP_X11_196 : jP RX11 196 11 4 false false (.int) := ⟨_, _, _, tyX11, rfl, i_X11, kF_X11_196, rfl, by decide, rfl, rfl, by decide, tyX11_ok, nmX11, rfl, by decide +kernel, fun h => by cases h⟩
theorem fF_X11_163 : jF RX11 163 11 5 false := ⟨_, _, _, rfl, i_X11, kF_X11_163, rfl, by decide, rfl, rfl, by decide⟩
theorem fP_X11_163 : jP RX11 163 11 5 false false (.int) := ⟨_, _, _, tyX11, rfl, i_X11, kF_X11_163, rfl, by decide, rfl, rfl, by decide, tyX11_ok, nmX11, rfl, by decide +kernel, fun h => by cases h⟩
theorem fF_X11_177 : jF RX11 177 11 6 false := ⟨_, _, _, rfl, i_X11, kF_X11_177, rfl, by decide, rfl, rfl, by decide⟩
theorem fP_X11_177 : jP RX11 177 11 6 false false (.int) := ⟨_, _, _, tyX11, rfl, i_X11, kF_X11_177, rfl, by decide, rfl, rfl, by decide, tyX11_ok, nmX11, rfl, by decide +kernel, fun h => by cases h⟩
theorem fF_X11_202 : jF RX11 202 11 7 false := ⟨_, _, _, rfl, i_X11, kF_X11_202, rfl, by decide, rfl, rfl, by decide⟩
theorem fP_X11_202 : jP RX11 202 11 7 false false (.int) := ⟨_, _, _, tyX11, rfl, i_X11, kF_X11_202, rfl, by decide, rfl, rfl, by decide, tyX11_ok, nmX11, rfl, by decide +kernel, fun h => by cases h⟩
theorem fF_X11_235 : jF RX11 235 11 8 false := ⟨_, _, _, rfl, i_X11, kF_X11_235, rfl, by decide, rfl, rfl, by decide⟩
theorem fP_X11_235 : jP RX11 235 11 8 false false (.int) := ⟨_, _, _, tyX11, rfl, i_X11, kF_X11_235, rfl, by decide, rfl, rfl, by decide, tyX11_ok, nmX11, rfl, by decide +kernel, fun h => by cases h⟩
theorem fF_X11_9 : jF RX11 9 11 9 true := ⟨_, _, _, rfl, i_X11, kF_X11_9, rfl, by decide, rfl, rfl, by decide⟩
theorem fP_X11_9 : jP RX11 9 11 9 true true (.array .int) := ⟨_, _, _, tyX11, rfl, i_X11, kF_X11_9, rfl, by decide, rfl, rfl, by decide, tyX11_ok, nmX11, rfl, by decide +kernel, fun _ => rfl⟩
theorem fF_X11_13 : jF RX11 13 11 10 true := ⟨_, _, _, rfl, i_X11, kF_X11_13, rfl, by decide, rfl, rfl, by decide⟩
theorem fP_X11_13 : jP RX11 13 11 10 true true (.array .int) := ⟨_, _, _, tyX11, rfl, i_X11, kF_X11_13, rfl, by decide, rfl, rfl, by decide, tyX11_ok, nmX11, rfl, by decide +kernel, fun _ => rfl⟩
theorem fF_X11_16 : jF RX11 16 11 11 true := ⟨_, _, _, rfl, i_X11, kF_X11_16, rfl, by decide, rfl, rfl, by decide⟩
theorem fP_X11_16 : jP RX11 16 11 11 true true (.array .int) := ⟨_, _, _, tyX11, rfl, i_X11, kF_X11_16, rfl, by decide, rfl, rfl, by decide, tyX11_ok, nmX11, rfl, by decide +kernel, fun _ => rfl⟩
theorem fF_X11_19 : jF RX11 19 11 12 true := ⟨_, _, _, rfl, i_X11, kF_X11_19, rfl, by decide, rfl, rfl, by decide⟩
theorem fP_X11_19 : jP RX11 19 11 12 true true (.array .int) := ⟨_, _, _, tyX11, rfl, i_X11, kF_X11_19, rfl, by decide, rfl, rfl, by decide, tyX11_ok, nmX11, rfl, by decide +kernel, fun _ => rfl⟩
theorem fF_X11_22 : jF RX11 22 11 13 true := ⟨_, _, _, rfl, i_X11, kF_X11_22, rfl, by decide, rfl, rfl, by decide⟩
theorem fP_X11_22 : jP RX11 22 11 13 true true (.array .int) := ⟨_, _, _, tyX11, rfl, i_X11, kF_X11_22, rfl, by decide, rfl, rfl, by decide, tyX11_ok, nmX11, rfl, by decide +kernel, fun _ => rfl⟩
theorem fF_X11_25 : jF RX11 25 11 14 true := ⟨_, _, _, rfl, i_X11, kF_X11_25, rfl, by decide, rfl, rfl, by decide⟩
theorem fP_X11_25 : jP RX11 25 11 14 true true (.array .int) := ⟨_, _, _, tyX11, rfl, i_X11, kF_X11_25, rfl, by decide, rfl, rfl, by decide, tyX11_ok, nmX11, rfl, by decide +kernel, fun _ => rfl⟩
theorem fF_X11_28 : jF RX11 28 11 15 true := ⟨_, _, _, rfl, i_X11, kF_X11_28, rfl, by decide, rfl, rfl, by decide⟩
theorem fP_X11_28 : jP RX11 28 11 15 true true (.array .int) := ⟨_, _, _, tyX11, rfl, i_X11, kF_X11_28, rfl, by decide, rfl, rfl, by decide, tyX11_ok, nmX11, rfl, by decide +kernel, fun _ => rfl⟩
theorem fF_X11_31 : jF RX11 31 11 16 true := ⟨_, _, _, rfl, i_X11, kF_X11_31, rfl, by decide, rfl, rfl, by decide⟩
theorem fP_X11_31 : jP RX11 31 11 16 true true (.array .int) := ⟨_, _, _, tyX11, rfl, i_X11, kF_X11_31, rfl, by decide, rfl, rfl, by decide, tyX11_ok, nmX11, rfl, by decide +kernel, fun _ => rfl⟩
theorem fF_X11_34 : jF RX11 34 11 17 true := ⟨_, _, _, rfl, i_X11, kF_X11_34, rfl, by decide, rfl, rfl, by decide⟩
theorem fP_X11_34 : jP RX11 34 11 17 true true (.array .int) := ⟨_, _, _, tyX11, rfl, i_X11, kF_X11_34, rfl, by decide, rfl, rfl, by decide, tyX11_ok, nmX11, rfl, by decide +kernel, fun _ => rfl⟩
theorem fF_X11_37 : jF RX11 37 11 18 true := ⟨_, _, _, rfl, i_X11, kF_X11_37, rfl, by decide, rfl, rfl, by decide⟩
theorem fP_X11_37 : jP RX11 37 11 18 true true (.array .int) := ⟨_, _, _, tyX11, rfl, i_X11, kF_X11_37, rfl, by decide, rfl, rfl, by decide, tyX11_ok, nmX11, rfl, by decide +kernel, fun _ => rfl⟩
theorem fF_X11_40 : jF RX11 40 11 19 true := ⟨_, _, _, rfl, i_X11, kF_X11_40, rfl, by decide, rfl, rfl, by decide⟩
theorem fP_X11_40 : jP RX11 40 11 19 true true (.array .int) := ⟨_, _, _, tyX11, rfl, i_X11, kF_X11_40, rfl, by decide, rfl, rfl, by decide, tyX11_ok, nmX11, rfl, by decide +kernel, fun _ => rfl⟩
theorem fF_X11_43 : jF RX11 43 11 20 true := ⟨_, _, _, rfl, i_X11, kF_X11_43, rfl, by decide, rfl, rfl, by decide⟩
theorem fP_X11_43 : jP RX11 43 11 20 true true (.array .int) := ⟨_, _, _, tyX11, rfl, i_X11, kF_X11_43, rfl, by decide, rfl, rfl, by decide, tyX11_ok, nmX11, rfl, by decide +kernel, fun _ => rfl⟩
theorem fF_X11_46 : jF RX11 46 11 21 true := ⟨_, _, _, rfl, i_X11, kF_X11_46, rfl, by decide, rfl, rfl, by decide⟩
theorem fP_X11_46 : jP RX11 46 11 21 true true (.array .int) := ⟨_, _, _, tyX11, rfl, i_X11, kF_X11_46, rfl, by decide, rfl, rfl, by decide, tyX11_ok, nmX11, rfl, by decide +kernel, fun _ => rfl⟩
theorem fF_X11_49 : jF RX11 49 11 22 true := ⟨_, _, _, rfl, i_X11, kF_X11_49, rfl, by decide, rfl, rfl, by decide⟩
theorem fP_X11_49 : jP RX11 49 11 22 true true (.array .int) := ⟨_, _, _, tyX11, rfl, i_X11, kF_X11_49, rfl, by decide, rfl, rfl, by decide, tyX11_ok, nmX11, rfl, by decide +kernel, fun _ => rfl⟩
theorem fF_X11_52 : jF RX11 52 11 23 true := ⟨_, _, _, rfl, i_X11, kF_X11_52, rfl, by decide, rfl, rfl, by decide⟩
theorem fP_X11_52 : jP RX11 52 11 23 true true (.array .int) := ⟨_, _, _, tyX11, rfl, i_X11, kF_X11_52, rfl, by decide, rfl, rfl, by decide, tyX11_ok, nmX11, rfl, by decide +kernel, fun _ => rfl⟩
theorem fF_X11_55 : jF RX11 55 11 24 true := ⟨_, _, _, rfl, i_X11, kF_X11_55, rfl, by decide, rfl, rfl, by decide⟩
theorem fP_X11_55 : jP RX11 55 11 24 true true (.array .int) := ⟨_, _, _, tyX11, rfl, i_X11, kF_X11_55, rfl, by decide, rfl, rfl, by decide, tyX11_ok, nmX11, rfl, by decide +kernel, fun _ => rfl⟩
theorem fF_X11_58 : jF RX11 58 11 25 true := ⟨_, _, _, rfl, i_X11, kF_X11_58, rfl, by decide, rfl, rfl, by decide⟩
theorem fP_X11_58 : jP RX11 58 11 25 true true (.array .int) := ⟨_, _, _, tyX11, rfl, i_X11, kF_X11_58, rfl, by decide, rfl, rfl, by decide, tyX11_ok, nmX11, rfl, by decide +kernel, fun _ => rfl⟩
theorem fF_X11_61 : jF RX11 61 11 26 true := ⟨_, _, _, rfl, i_X11, kF_X11_61, rfl, by decide, rfl, rfl, by decide⟩
theorem fP_X11_61 : jP RX11 61 11 26 true true (.array .int) := ⟨_, _, _, tyX11, rfl, i_X11, kF_X11_61, rfl, by decide, rfl, rfl, by decide, tyX11_ok, nmX11, rfl, by decide +kernel, fun _ => rfl⟩
theorem fF_X11_64 : jF RX11 64 11 27 true := ⟨_, _, _, rfl, i_X11, kF_X11_64, rfl, by decide, rfl, rfl, by decide⟩
theorem fP_X11_64 : jP RX11 64 11 27 true true (.array .int) := ⟨_, _, _, tyX11, rfl, i_X11, kF_X11_64, rfl, by decide, rfl, rfl, by decide, tyX11_ok, nmX11, rfl, by decide +kernel, fun _ => rfl⟩
theorem fF_X11_67 : jF RX11 67 11 28 true := ⟨_, _, _, rfl, i_X11, kF_X11_67, rfl, by decide, rfl, rfl, by decide⟩
theorem fP_X11_67 : jP RX11 67 11 28 true true (.array .int) := ⟨_, _, _, tyX11, rfl, i_X11, kF_X11_67, rfl, by decide, rfl, rfl, by decide, tyX11_ok, nmX11, rfl, by decide +kernel, fun _ => rfl⟩
theorem fF_X11_70 : jF RX11 70 11 29 true := ⟨_, _, _, rfl, i_X11, kF_X11_70, rfl, by decide, rfl, rfl, by decide⟩
theorem fP_X11_70 : jP RX11 70 11 29 true true (.array .int) := ⟨_, _, _, tyX11, rfl, i_X11, kF_X11_70, rfl, by decide, rfl, rfl, by decide, tyX11_ok, nmX11, rfl, by decide +kernel, fun _ => rfl⟩
theorem fF_X11_73 : jF RX11 73 11 30 true := ⟨_, _, _, rfl, i_X11, kF_X11_73, rfl, by decide, rfl, rfl, by decide⟩
theorem fP_X11_73 : jP RX11 73 11 30 true true (.array .int) := ⟨_, _, _, tyX11, rfl, i_X11, kF_X11_73, rfl, by decide, rfl, rfl, by decide, tyX11_ok, nmX11, rfl, by decide +kernel, fun _ => rfl⟩
theorem fF_X11_76 : jF RX11 76 11 31 true := ⟨_, _, _, rfl, i_X11, kF_X11_76, rfl, by decide, rfl, rfl, by decide⟩
theorem fP_X11_76 : jP RX11 76 11 31 true true (.array .int) := ⟨_, _, _, tyX11, rfl, i_X11, kF_X11_76, rfl, by decide, rfl, rfl, by decide, tyX11_ok, nmX11, rfl, by decide +kernel, fun _ => rfl⟩
theorem fF_X11_79 : jF RX11 79 11 32 true := ⟨_, _, _, rfl, i_X11, kF_X11_79, rfl, by decide, rfl, rfl, by decide⟩
theorem fP_X11_79 : jP RX11 79 11 32 true true (.array .int) := ⟨_, _, _, tyX11, rfl, i_X11, kF_X11_79, rfl, by decide, rfl, rfl, by decide, tyX11_ok, nmX11, rfl, by decide +kernel, fun _ => rfl⟩
theorem fF_X11_82 : jF RX11 82 11 33 true := ⟨_, _, _, rfl, i_X11, kF_X11_82, rfl, by decide, rfl, rfl, by decide⟩
theorem fP_X11_82 : jP RX11 82 11 33 true true (.array .int) := ⟨_, _, _, tyX11, rfl, i_X11, kF_X11_82, rfl, by decide, rfl, rfl, by decide, tyX11_ok, nmX11, rfl, by decide +kernel, fun _ => rfl⟩
theorem fF_X11_85 : jF RX11 85 11 34 true := ⟨_, _, _, rfl, i_X11, kF_X11_85, rfl, by decide, rfl, rfl, by decide⟩
theorem fP_X11_85 : jP RX11 85 11 34 true true (.array .int) := ⟨_, _, _, tyX11, rfl, i_X11, kF_X11_85, rfl, by decide, rfl, rfl, by decide, tyX11_ok, nmX11, rfl, by decide +kernel, fun _ => rfl⟩
theorem fF_X11_88 : jF RX11 88 11 35 true := ⟨_, _, _, rfl, i_X11, kF_X11_88, rfl, by decide, rfl, rfl, by decide⟩
theorem fP_X11_88 : jP RX11 88 11 35 true true (.array .int) := ⟨_, _, _, tyX11, rfl, i_X11, kF_X11_88, rfl, by decide, rfl, rfl, by decide, tyX11_ok, nmX11, rfl, by decide +kernel, fun _ => rfl⟩
theorem fF_X11_91 : jF RX11 91 11 36 true := ⟨_, _, _, rfl, i_X11, kF_X11_91, rfl, by decide, rfl, rfl, by decide⟩
theorem fP_X11_91 : jP RX11 91 11 36 true true (.array .int) := ⟨_, _, _, tyX11, rfl, i_X11, kF_X11_91, rfl, by decide, rfl, rfl, by decide, tyX11_ok, nmX11, rfl, by decide +kernel, fun _ => rfl⟩
theorem fF_X11_94 : jF RX11 94 11 37 true := ⟨_, _, _, rfl, i_X11, kF_X11_94, rfl, by decide, rfl, rfl, by decide⟩
theorem fP_X11_94 : jP RX11 94 11 37 true true (.array .int) := ⟨_, _, _, tyX11, rfl, i_X11, kF_X11_94, rfl, by decide, rfl, rfl, by decide, tyX11_ok, nmX11, rfl, by decide +kernel, fun _ => rfl⟩
theorem fF_X11_97 : jF RX11 97 11 38 true := ⟨_, _, _, rfl, i_X11, kF_X11_97, rfl, by decide, rfl, rfl, by decide⟩
theorem fP_X11_97 : jP RX11 97 11 38 true true (.array .int) := ⟨_, _, _, tyX11, rfl, i_X11, kF_X11_97, rfl, by decide, rfl, rfl, by decide, tyX11_ok, nmX11, rfl, by decide +kernel, fun _ => rfl⟩
theorem fF_X11_100 : jF RX11 100 11 39 true := ⟨_, _, _, rfl, i_X11, kF_X11_100, rfl, by decide, rfl, rfl, by decide⟩
theorem fP_X11_100 : jP RX11 100 11 39 true true (.array .int) := ⟨_, _, _, tyX11, rfl, i_X11, kF_X11_100, rfl, by decide, rfl, rfl, by decide, tyX11_ok, nmX11, rfl, by decide +kernel, fun _ => rfl⟩
theorem fF_X11_103 : jF RX11 103 11 40 true := ⟨_, _, _, rfl, i_X11, kF_X11_103, rfl, by decide, rfl, rfl, by decide⟩
theorem fP_X11_103 : jP RX11 103 11 40 true true (.array .int) := ⟨_, _, _, tyX11, rfl, i_X11, kF_X11_103, rfl, by decide, rfl, rfl, by decide, tyX11_ok, nmX11, rfl, by decide +kernel, fun _ => rfl⟩
theorem fF_X11_106 : jF RX11 106 11 41 true := ⟨_, _, _, rfl, i_X11, kF_X11_106, rfl, by decide, rfl, rfl, by decide⟩
theorem fP_X11_106 : jP RX11 106 11 41 true true (.array .int) := ⟨_, _, _, tyX11, rfl, i_X11, kF_X11_106, rfl, by decide, rfl, rfl, by decide, tyX11_ok, nmX11, rfl, by decide +kernel, fun _ => rfl⟩
theorem fF_X11_109 : jF RX11 109 11 42 true := ⟨_, _, _, rfl, i_X11, kF_X11_109, rfl, by decide, rfl, rfl, by decide⟩
theorem fP_X11_109 : jP RX11 109 11 42 true true (.array .int) := ⟨_, _, _, tyX11, rfl, i_X11, kF_X11_109, rfl, by decide, rfl, rfl, by decide, tyX11_ok, nmX11, rfl, by decide +kernel, fun _ => rfl⟩
theorem fF_X11_112 : jF RX11 112 11 43 true := ⟨_, _, _, rfl, i_X11, kF_X11_112, rfl, by decide, rfl, rfl, by decide⟩
theorem fP_X11_112 : jP RX11 112 11 43 true true (.array .int) := ⟨_, _, _, tyX11, rfl, i_X11, kF_X11_112, rfl, by decide, rfl, rfl, by decide, tyX11_ok, nmX11, rfl, by decide +kernel, fun _ => rfl⟩
theorem fF_X11_115 : jF RX11 115 11 44 true := ⟨_, _, _, rfl, i_X11, kF_X11_115, rfl, by decide, rfl, rfl, by decide⟩
theorem fP_X11_115 : jP RX11 115 11 44 true true (.array .int) := ⟨_, _, _, tyX11, rfl, i_X11, kF_X11_115, rfl, by decide, rfl, rfl, by decide, tyX11_ok, nmX11, rfl, by decide +kernel, fun _ => rfl⟩
theorem fF_X11_118 : jF RX11 118 11 45 true := ⟨_, _, _, rfl, i_X11, kF_X11_118, rfl, by decide, rfl, rfl, by decide⟩
theorem fP_X11_118 : jP RX11 118 11 45 true true (.array .int) := ⟨_, _, _, tyX11, rfl, i_X11, kF_X11_118, rfl, by decide, rfl, rfl, by decide, tyX11_ok, nmX11, rfl, by decide +kernel, fun _ => rfl⟩
theorem fF_X11_121 : jF RX11 121 11 46 true := ⟨_, _, _, rfl, i_X11, kF_X11_121, rfl, by decide, rfl, rfl, by decide⟩
theorem fP_X11_121 : jP RX11 121 11 46 true true (.array .int) := ⟨_, _, _, tyX11, rfl, i_X11, kF_X11_121, rfl, by decide, rfl, rfl, by decide, tyX11_ok, nmX11, rfl, by decide +kernel, fun _ => rfl⟩
theorem fF_X11_124 : jF RX11 124 11 47 true := ⟨_, _, _, rfl, i_X11, kF_X11_124, rfl, by decide, rfl, rfl, by decide⟩
theorem fP_X11_124 : jP RX11 124 11 47 true true (.array .int) := ⟨_, _, _, tyX11, rfl, i_X11, kF_X11_124, rfl, by decide, rfl, rfl, by decide, tyX11_ok, nmX11, rfl, by decide +kernel, fun _ => rfl⟩
theorem fF_X11_127 : jF RX11 127 11 48 true := ⟨_, _, _, rfl, i_X11, kF_X11_127, rfl, by decide, rfl, rfl, by decide⟩
theorem fP_X11_127 : jP RX11 127 11 48 true true (.array .int) := ⟨_, _, _, tyX11, rfl, i_X11, kF_X11_127, rfl, by decide, rfl, rfl, by decide, tyX11_ok, nmX11, rfl, by decide +kernel, fun _ => rfl⟩
theorem fG_L_100 : jGv RL 100 yX10_judge cX10_judge 4 ((Option.some FieldType.int)) 2 10 := ⟨⟨kM_L_100, kN_X10, kC_yX10_judge, by decide +kernel⟩, kI_yX10_judge, kV_yX10_judge, by decide, _, rfl, rfl⟩
theorem fG_L_103 : jGv RL 103 yX11_judge cX11_judge 3 ((Option.some FieldType.int)) 2 11 := ⟨⟨kM_L_103, kN_X11, kC_yX11_judge, by decide +kernel⟩, kI_yX11_judge, kV_yX11_judge, by decide, _, rfl, rfl⟩
theorem fG_L_104 : jGv RL 104 yX10_why cX10_why 4 ((Option.some FieldType.int)) 2 10 := ⟨⟨kM_L_104, kN_X10, kC_yX10_why, by decide +kernel⟩, kI_yX10_why, kV_yX10_why, by decide, _, rfl, rfl⟩
theorem fG_L_107 : jGv RL 107 yX11_why cX11_why 3 ((Option.some FieldType.int)) 2 11 := ⟨⟨kM_L_107, kN_X11, kC_yX11_why, by decide +kernel⟩, kI_yX11_why, kV_yX11_why, by decide, _, rfl, rfl⟩
theorem fG_L_108 : jGv RL 108 yX10_ways cX10_ways 5 ((Option.some FieldType.int)) 2 10 := ⟨⟨kM_L_108, kN_X10, kC_yX10_ways, by decide +kernel⟩, kI_yX10_ways, kV_yX10_ways, by decide, _, rfl, rfl⟩
theorem fG_L_111 : jGv RL 111 yX11_ways cX11_ways 3 ((Option.some FieldType.int)) 2 11 := ⟨⟨kM_L_111, kN_X11, kC_yX11_ways, by decide +kernel⟩, kI_yX11_ways, kV_yX11_ways, by decide, _, rfl, rfl⟩
theorem fG_L_112 : jGv RL 112 yX10_touched cX10_touched 5 ((Option.some FieldType.int)) 3 10 := ⟨⟨kM_L_112, kN_X10, kC_yX10_touched, by decide +kernel⟩, kI_yX10_touched, kV_yX10_touched, by decide, _, rfl, rfl⟩
theorem fG_L_115 : jGv RL 115 yX11_touched cX11_touched 6 ((Option.some FieldType.int)) 3 11 := ⟨⟨kM_L_115, kN_X11, kC_yX11_touched, by decide +kernel⟩, kI_yX11_touched, kV_yX11_touched, by decide, _, rfl, rfl⟩
theorem fG_L_116 : jGv RL 116 yX10_buyers cX10_buyers 3 ((Option.some FieldType.int)) 1 10 := ⟨⟨kM_L_116, kN_X10, kC_yX10_buyers, by decide +kernel⟩, kI_yX10_buyers, kV_yX10_buyers, by decide, _, rfl, rfl⟩
theorem fG_L_119 : jGv RL 119 yX11_buyers cX11_buyers 4 ((Option.some FieldType.int)) 1 11 := ⟨⟨kM_L_119, kN_X11, kC_yX11_buyers, by decide +kernel⟩, kI_yX11_buyers, kV_yX11_buyers, by decide, _, rfl, rfl⟩
theorem fG_L_12 : jGi RL 12 yX11_init cX11_init 1 0 := ⟨⟨kM_L_12, kN_X11, kC_yX11_init, by decide +kernel⟩, kI_yX11_init, rfl⟩
theorem fG_L_120 : jGv RL 120 yX10_want cX10_want 3 ((Option.some FieldType.int)) 1 10 := ⟨⟨kM_L_120, kN_X10, kC_yX10_want, by decide +kernel⟩, kI_yX10_want, kV_yX10_want, by decide, _, rfl, rfl⟩
theorem fG_L_123 : jGv RL 123 yX11_want cX11_want 3 ((Option.some FieldType.int)) 1 11 := ⟨⟨kM_L_123, kN_X11, kC_yX11_want, by decide +kernel⟩, kI_yX11_want, kV_yX11_want, by decide, _, rfl, rfl⟩
theorem fG_L_124 : jGv RL 124 yX10_plan cX10_plan 2 ((Option.some FieldType.int)) 1 10 := ⟨⟨kM_L_124, kN_X10, kC_yX10_plan, by decide +kernel⟩, kI_yX10_plan, kV_yX10_plan, by decide, _, rfl, rfl⟩
theorem fG_L_127 : jGv RL 127 yX11_plan cX11_plan 2 ((Option.some FieldType.int)) 1 11 := ⟨⟨kM_L_127, kN_X11, kC_yX11_plan, by decide +kernel⟩, kI_yX11_plan, kV_yX11_plan, by decide, _, rfl, rfl⟩
theorem fG_L_128 : jGv RL 128 yX10_told cX10_told 4 ((Option.some FieldType.int)) 2 10 := ⟨⟨kM_L_128, kN_X10, kC_yX10_told, by decide +kernel⟩, kI_yX10_told, kV_yX10_told, by decide, _, rfl, rfl⟩
theorem fG_L_13 : jGv RL 13 yX10_field cX10_field 6 ((Option.some FieldType.int)) 4 10 := ⟨⟨kM_L_13, kN_X10, kC_yX10_field, by decide +kernel⟩, kI_yX10_field, kV_yX10_field, by decide, _, rfl, rfl⟩
theorem fG_L_131 : jGv RL 131 yX11_told cX11_told 3 ((Option.some FieldType.int)) 2 11 := ⟨⟨kM_L_131, kN_X11, kC_yX11_told, by decide +kernel⟩, kI_yX11_told, kV_yX11_told, by decide, _, rfl, rfl⟩
theorem fG_L_132 : jGv RL 132 yX10_sack cX10_sack 4 ((Option.some FieldType.int)) 2 10 := ⟨⟨kM_L_132, kN_X10, kC_yX10_sack, by decide +kernel⟩, kI_yX10_sack, kV_yX10_sack, by decide, _, rfl, rfl⟩
theorem fG_L_135 : jGv RL 135 yX11_sack cX11_sack 3 ((Option.some FieldType.int)) 2 11 := ⟨⟨kM_L_135, kN_X11, kC_yX11_sack, by decide +kernel⟩, kI_yX11_sack, kV_yX11_sack, by decide, _, rfl, rfl⟩
theorem fG_L_136 : jGv RL 136 yX10_count cX10_count 2 ((Option.some FieldType.int)) 1 10 := ⟨⟨kM_L_136, kN_X10, kC_yX10_count, by decide +kernel⟩, kI_yX10_count, kV_yX10_count, by decide, _, rfl, rfl⟩
theorem fG_L_139 : jGv RL 139 yX11_count cX11_count 2 ((Option.some FieldType.int)) 1 11 := ⟨⟨kM_L_139, kN_X11, kC_yX11_count, by decide +kernel⟩, kI_yX11_count, kV_yX11_count, by decide, _, rfl, rfl⟩
theorem fG_L_17 : jGv RL 17 yX11_field cX11_field 5 ((Option.some FieldType.int)) 4 11 := ⟨⟨kM_L_17, kN_X11, kC_yX11_field, by decide +kernel⟩, kI_yX11_field, kV_yX11_field, by decide, _, rfl, rfl⟩
theorem fG_L_18 : jGv RL 18 yX10_near cX10_near 5 ((Option.some FieldType.int)) 2 10 := ⟨⟨kM_L_18, kN_X10, kC_yX10_near, by decide +kernel⟩, kI_yX10_near, kV_yX10_near, by decide, _, rfl, rfl⟩
theorem fG_L_22 : jGv RL 22 yX11_near cX11_near 3 ((Option.some FieldType.int)) 2 11 := ⟨⟨kM_L_22, kN_X11, kC_yX11_near, by decide +kernel⟩, kI_yX11_near, kV_yX11_near, by decide, _, rfl, rfl⟩
theorem fG_L_23 : jGv RL 23 yX10_stand cX10_stand 5 ((Option.some FieldType.boolean)) 3 10 := ⟨⟨kM_L_23, kN_X10, kC_yX10_stand, by decide +kernel⟩, kI_yX10_stand, kV_yX10_stand, by decide, _, rfl, rfl⟩
theorem fG_L_27 : jGv RL 27 yX11_stand cX11_stand 4 ((Option.some FieldType.boolean)) 3 11 := ⟨⟨kM_L_27, kN_X11, kC_yX11_stand, by decide +kernel⟩, kI_yX11_stand, kV_yX11_stand, by decide, _, rfl, rfl⟩
theorem fG_L_28 : jGv RL 28 yX10_stands cX10_stands 5 ((Option.some FieldType.int)) 3 10 := ⟨⟨kM_L_28, kN_X10, kC_yX10_stands, by decide +kernel⟩, kI_yX10_stands, kV_yX10_stands, by decide, _, rfl, rfl⟩
theorem fG_L_32 : jGv RL 32 yX11_stands cX11_stands 4 ((Option.some FieldType.int)) 3 11 := ⟨⟨kM_L_32, kN_X11, kC_yX11_stands, by decide +kernel⟩, kI_yX11_stands, kV_yX11_stands, by decide, _, rfl, rfl⟩
theorem fG_L_33 : jGv RL 33 yX10_statute cX10_statute 4 ((Option.some FieldType.int)) 3 10 := ⟨⟨kM_L_33, kN_X10, kC_yX10_statute, by decide +kernel⟩, kI_yX10_statute, kV_yX10_statute, by decide, _, rfl, rfl⟩
theorem fG_L_36 : jGv RL 36 yX11_statute cX11_statute 4 ((Option.some FieldType.int)) 3 11 := ⟨⟨kM_L_36, kN_X11, kC_yX11_statute, by decide +kernel⟩, kI_yX11_statute, kV_yX11_statute, by decide, _, rfl, rfl⟩
theorem fG_L_37 : jGv RL 37 yX10_force cX10_force 4 ((Option.some FieldType.int)) 3 10 := ⟨⟨kM_L_37, kN_X10, kC_yX10_force, by decide +kernel⟩, kI_yX10_force, kV_yX10_force, by decide, _, rfl, rfl⟩
theorem fG_L_40 : jGv RL 40 yX11_force cX11_force 4 ((Option.some FieldType.int)) 3 11 := ⟨⟨kM_L_40, kN_X11, kC_yX11_force, by decide +kernel⟩, kI_yX11_force, kV_yX11_force, by decide, _, rfl, rfl⟩
theorem fG_L_41 : jGv RL 41 yX10_tube cX10_tube 3 ((Option.some FieldType.int)) 1 10 := ⟨⟨kM_L_41, kN_X10, kC_yX10_tube, by decide +kernel⟩, kI_yX10_tube, kV_yX10_tube, by decide, _, rfl, rfl⟩
theorem fG_L_45 : jGv RL 45 yX11_tube cX11_tube 3 ((Option.some FieldType.int)) 1 11 := ⟨⟨kM_L_45, kN_X11, kC_yX11_tube, by decide +kernel⟩, kI_yX11_tube, kV_yX11_tube, by decide, _, rfl, rfl⟩
theorem fG_L_46 : jGv RL 46 yX10_sow cX10_sow 8 ((Option.some FieldType.int)) 3 10 := ⟨⟨kM_L_46, kN_X10, kC_yX10_sow, by decide +kernel⟩, kI_yX10_sow, kV_yX10_sow, by decide, _, rfl, rfl⟩
theorem fG_L_49 : jGv RL 49 yX11_sow cX11_sow 6 ((Option.some FieldType.int)) 3 11 := ⟨⟨kM_L_49, kN_X11, kC_yX11_sow, by decide +kernel⟩, kI_yX11_sow, kV_yX11_sow, by decide, _, rfl, rfl⟩
theorem fG_L_50 : jGv RL 50 yX10_harvest cX10_harvest 4 ((Option.some FieldType.boolean)) 2 10 := ⟨⟨kM_L_50, kN_X10, kC_yX10_harvest, by decide +kernel⟩, kI_yX10_harvest, kV_yX10_harvest, by decide, _, rfl, rfl⟩
theorem fG_L_54 : jGv RL 54 yX11_harvest cX11_harvest 3 ((Option.some FieldType.boolean)) 2 11 := ⟨⟨kM_L_54, kN_X11, kC_yX11_harvest, by decide +kernel⟩, kI_yX11_harvest, kV_yX11_harvest, by decide, _, rfl, rfl⟩
theorem fG_L_55 : jGv RL 55 yX10_mix cX10_mix 8 ((Option.some FieldType.int)) 4 10 := ⟨⟨kM_L_55, kN_X10, kC_yX10_mix, by decide +kernel⟩, kI_yX10_mix, kV_yX10_mix, by decide, _, rfl, rfl⟩
theorem fG_L_58 : jGv RL 58 yX11_mix cX11_mix 7 ((Option.some FieldType.int)) 4 11 := ⟨⟨kM_L_58, kN_X11, kC_yX11_mix, by decide +kernel⟩, kI_yX11_mix, kV_yX11_mix, by decide, _, rfl, rfl⟩
theorem fG_L_59 : jGv RL 59 yX10_bag cX10_bag 4 ((Option.some FieldType.int)) 2 10 := ⟨⟨kM_L_59, kN_X10, kC_yX10_bag, by decide +kernel⟩, kI_yX10_bag, kV_yX10_bag, by decide, _, rfl, rfl⟩
theorem fG_L_62 : jGv RL 62 yX11_bag cX11_bag 3 ((Option.some FieldType.int)) 2 11 := ⟨⟨kM_L_62, kN_X11, kC_yX11_bag, by decide +kernel⟩, kI_yX11_bag, kV_yX11_bag, by decide, _, rfl, rfl⟩
theorem fG_L_63 : jGv RL 63 yX10_open cX10_open 3 ((Option.some FieldType.boolean)) 1 10 := ⟨⟨kM_L_63, kN_X10, kC_yX10_open, by decide +kernel⟩, kI_yX10_open, kV_yX10_open, by decide, _, rfl, rfl⟩
theorem fG_L_67 : jGv RL 67 yX11_open cX11_open 2 ((Option.some FieldType.boolean)) 1 11 := ⟨⟨kM_L_67, kN_X11, kC_yX11_open, by decide +kernel⟩, kI_yX11_open, kV_yX11_open, by decide, _, rfl, rfl⟩
theorem fG_L_68 : jGv RL 68 yX10_seal cX10_seal 3 ((Option.some FieldType.int)) 1 10 := ⟨⟨kM_L_68, kN_X10, kC_yX10_seal, by decide +kernel⟩, kI_yX10_seal, kV_yX10_seal, by decide, _, rfl, rfl⟩
theorem fG_L_71 : jGv RL 71 yX11_seal cX11_seal 2 ((Option.some FieldType.int)) 1 11 := ⟨⟨kM_L_71, kN_X11, kC_yX11_seal, by decide +kernel⟩, kI_yX11_seal, kV_yX11_seal, by decide, _, rfl, rfl⟩
theorem fG_L_72 : jGv RL 72 yX10_sell cX10_sell 4 ((Option.some FieldType.boolean)) 2 10 := ⟨⟨kM_L_72, kN_X10, kC_yX10_sell, by decide +kernel⟩, kI_yX10_sell, kV_yX10_sell, by decide, _, rfl, rfl⟩
theorem fG_L_75 : jGv RL 75 yX11_sell cX11_sell 3 ((Option.some FieldType.boolean)) 2 11 := ⟨⟨kM_L_75, kN_X11, kC_yX11_sell, by decide +kernel⟩, kI_yX11_sell, kV_yX11_sell, by decide, _, rfl, rfl⟩
theorem fG_L_76 : jGv RL 76 yX10_toss cX10_toss 4 ((Option.some FieldType.boolean)) 2 10 := ⟨⟨kM_L_76, kN_X10, kC_yX10_toss, by decide +kernel⟩, kI_yX10_toss, kV_yX10_toss, by decide, _, rfl, rfl⟩
theorem fG_L_79 : jGv RL 79 yX11_toss cX11_toss 3 ((Option.some FieldType.boolean)) 2 11 := ⟨⟨kM_L_79, kN_X11, kC_yX11_toss, by decide +kernel⟩, kI_yX11_toss, kV_yX11_toss, by decide, _, rfl, rfl⟩
theorem fG_L_80 : jGv RL 80 yX10_look cX10_look 5 ((Option.some FieldType.int)) 3 10 := ⟨⟨kM_L_80, kN_X10, kC_yX10_look, by decide +kernel⟩, kI_yX10_look, kV_yX10_look, by decide, _, rfl, rfl⟩
theorem fG_L_83 : jGv RL 83 yX11_look cX11_look 4 ((Option.some FieldType.int)) 3 11 := ⟨⟨kM_L_83, kN_X11, kC_yX11_look, by decide +kernel⟩, kI_yX11_look, kV_yX11_look, by decide, _, rfl, rfl⟩
theorem fG_L_86 : jGv RL 86 yX10_drawn cX10_drawn 11 ((Option.some FieldType.int)) 4 10 := ⟨⟨kM_L_86, kN_X10, kC_yX10_drawn, by decide +kernel⟩, kI_yX10_drawn, kV_yX10_drawn, by decide, _, rfl, rfl⟩
theorem fG_L_9 : jGi RL 9 yX10_init cX10_init 1 0 := ⟨⟨kM_L_9, kN_X10, kC_yX10_init, by decide +kernel⟩, kI_yX10_init, rfl⟩
theorem fG_L_90 : jGv RL 90 yX11_drawn cX11_drawn 11 ((Option.some FieldType.int)) 4 11 := ⟨⟨kM_L_90, kN_X11, kC_yX11_drawn, by decide +kernel⟩, kI_yX11_drawn, kV_yX11_drawn, by decide, _, rfl, rfl⟩
theorem fG_L_91 : jGv RL 91 yX10_prove cX10_prove 3 ((Option.some FieldType.boolean)) 1 10 := ⟨⟨kM_L_91, kN_X10, kC_yX10_prove, by decide +kernel⟩, kI_yX10_prove, kV_yX10_prove, by decide, _, rfl, rfl⟩
theorem fG_L_94 : jGv RL 94 yX11_prove cX11_prove 2 ((Option.some FieldType.boolean)) 1 11 := ⟨⟨kM_L_94, kN_X11, kC_yX11_prove, by decide +kernel⟩, kI_yX11_prove, kV_yX11_prove, by decide, _, rfl, rfl⟩
theorem fG_L_95 : jGv RL 95 yX10_year cX10_year 1 ((Option.some FieldType.int)) 0 10 := ⟨⟨kM_L_95, kN_X10, kC_yX10_year, by decide +kernel⟩, kI_yX10_year, kV_yX10_year, by decide, _, rfl, rfl⟩
theorem fG_L_99 : jGv RL 99 yX11_year cX11_year 1 ((Option.some FieldType.int)) 0 11 := ⟨⟨kM_L_99, kN_X11, kC_yX11_year, by decide +kernel⟩, kI_yX11_year, kV_yX11_year, by decide, _, rfl, rfl⟩
theorem fG_X0_100 : jGv RX0 100 yX2_fieldAt cX2_fieldAt 2 ((Option.some (FieldType.object "CleanSeed$Field"))) 1 2 := ⟨⟨kM_X0_100, kN_X2, kC_yX2_fieldAt, by decide +kernel⟩, kI_yX2_fieldAt, kV_yX2_fieldAt, by decide, _, rfl, rfl⟩
theorem fG_X0_104 : jGv RX0 104 yX3_cropIn cX3_cropIn 5 ((Option.some FieldType.int)) 2 3 := ⟨⟨kM_X0_104, kN_X3, kC_yX3_cropIn, by decide +kernel⟩, kI_yX3_cropIn, kV_yX3_cropIn, by decide, _, rfl, rfl⟩
theorem fG_X0_108 : jGv RX0 108 yX3_squareTo cX3_squareTo 4 ((Option.some FieldType.int)) 1 3 := ⟨⟨kM_X0_108, kN_X3, kC_yX3_squareTo, by decide +kernel⟩, kI_yX3_squareTo, kV_yX3_squareTo, by decide, _, rfl, rfl⟩
theorem fG_X0_112 : jGv RX0 112 yX3_grownIn cX3_grownIn 2 ((Option.some (FieldType.object "CleanSeed$Lot"))) 1 3 := ⟨⟨kM_X0_112, kN_X3, kC_yX3_grownIn, by decide +kernel⟩, kI_yX3_grownIn, kV_yX3_grownIn, by decide, _, rfl, rfl⟩
theorem fG_X0_115 : jGv RX0 115 yX0_isAsGood cX0_isAsGood 3 ((Option.some FieldType.boolean)) 2 0 := ⟨⟨kM_X0_115, kN_X0, kC_yX0_isAsGood, by decide +kernel⟩, kI_yX0_isAsGood, kV_yX0_isAsGood, by decide, _, rfl, rfl⟩
theorem fG_X0_21 : jGv RX0 21 yX2_lotAt cX2_lotAt 2 ((Option.some (FieldType.object "CleanSeed$Lot"))) 1 2 := ⟨⟨kM_X0_21, kN_X2, kC_yX2_lotAt, by decide +kernel⟩, kI_yX2_lotAt, kV_yX2_lotAt, by decide, _, rfl, rfl⟩
theorem fG_X0_30 : jGv RX0 30 yX0_assess cX0_assess 4 (none) 2 0 := ⟨⟨kM_X0_30, kN_X0, kC_yX0_assess, by decide +kernel⟩, kI_yX0_assess, kV_yX0_assess, by decide, _, rfl, rfl⟩
theorem fG_X0_34 : jGv RX0 34 yX0_assessUpTo cX0_assessUpTo 5 (none) 2 0 := ⟨⟨kM_X0_34, kN_X0, kC_yX0_assessUpTo, by decide +kernel⟩, kI_yX0_assessUpTo, kV_yX0_assessUpTo, by decide, _, rfl, rfl⟩
theorem fG_X0_41 : jGv RX0 41 yX6_isFalseAsKnownIn cX6_isFalseAsKnownIn 2 ((Option.some FieldType.boolean)) 1 6 := ⟨⟨kM_X0_41, kN_X6, kC_yX6_isFalseAsKnownIn, by decide +kernel⟩, kI_yX6_isFalseAsKnownIn, kV_yX6_isFalseAsKnownIn, by decide, _, rfl, rfl⟩
theorem fG_X0_48 : jGv RX0 48 yX6_rankOfMothers cX6_rankOfMothers 3 ((Option.some FieldType.int)) 0 6 := ⟨⟨kM_X0_48, kN_X6, kC_yX6_rankOfMothers, by decide +kernel⟩, kI_yX6_rankOfMothers, kV_yX6_rankOfMothers, by decide, _, rfl, rfl⟩
theorem fG_X0_52 : jGv RX0 52 yX0_reasonInField cX0_reasonInField 7 ((Option.some FieldType.int)) 2 0 := ⟨⟨kM_X0_52, kN_X0, kC_yX0_reasonInField, by decide +kernel⟩, kI_yX0_reasonInField, kV_yX0_reasonInField, by decide, _, rfl, rfl⟩
theorem fG_X0_60 : jGv RX0 60 yX0_isCrowded cX0_isCrowded 6 ((Option.some FieldType.boolean)) 2 0 := ⟨⟨kM_X0_60, kN_X0, kC_yX0_isCrowded, by decide +kernel⟩, kI_yX0_isCrowded, kV_yX0_isCrowded, by decide, _, rfl, rfl⟩
theorem fG_X0_67 : jGv RX0 67 yX2_inForce cX2_inForce 7 ((Option.some FieldType.int)) 3 2 := ⟨⟨kM_X0_67, kN_X2, kC_yX2_inForce, by decide +kernel⟩, kI_yX2_inForce, kV_yX2_inForce, by decide, _, rfl, rfl⟩
theorem fG_X0_74 : jGv RX0 74 yX3_stoodAheadOf cX3_stoodAheadOf 7 ((Option.some FieldType.boolean)) 4 3 := ⟨⟨kM_X0_74, kN_X3, kC_yX3_stoodAheadOf, by decide +kernel⟩, kI_yX3_stoodAheadOf, kV_yX3_stoodAheadOf, by decide, _, rfl, rfl⟩
theorem fG_X0_80 : jGv RX0 80 yX6_lastLookAsKnownIn cX6_lastLookAsKnownIn 3 ((Option.some (FieldType.object "CleanSeed$Look"))) 1 6 := ⟨⟨kM_X0_80, kN_X6, kC_yX6_lastLookAsKnownIn, by decide +kernel⟩, kI_yX6_lastLookAsKnownIn, kV_yX6_lastLookAsKnownIn, by decide, _, rfl, rfl⟩
theorem fG_X10_103 : jGv RX10 103 yX2_addLot cX2_addLot 2 ((Option.some FieldType.int)) 1 2 := ⟨⟨kM_X10_103, kN_X2, kC_yX2_addLot, by decide +kernel⟩, kI_yX2_addLot, kV_yX2_addLot, by decide, _, rfl, rfl⟩
theorem fG_X10_107 : jGv RX10 107 yX2_lotAt cX2_lotAt 2 ((Option.some (FieldType.object "CleanSeed$Lot"))) 1 2 := ⟨⟨kM_X10_107, kN_X2, kC_yX2_lotAt, by decide +kernel⟩, kI_yX2_lotAt, kV_yX2_lotAt, by decide, _, rfl, rfl⟩
theorem fG_X10_111 : jGv RX10 111 yX6_has cX6_has 2 ((Option.some FieldType.boolean)) 1 6 := ⟨⟨kM_X10_111, kN_X6, kC_yX6_has, by decide +kernel⟩, kI_yX6_has, kV_yX6_has, by decide, _, rfl, rfl⟩
theorem fG_X10_121 : jGv RX10 121 yX3_grownIn cX3_grownIn 2 ((Option.some (FieldType.object "CleanSeed$Lot"))) 1 3 := ⟨⟨kM_X10_121, kN_X3, kC_yX3_grownIn, by decide +kernel⟩, kI_yX3_grownIn, kV_yX3_grownIn, by decide, _, rfl, rfl⟩
theorem fG_X10_135 : jGv RX10 135 yX3_grow cX3_grow 2 (none) 1 3 := ⟨⟨kM_X10_135, kN_X3, kC_yX3_grow, by decide +kernel⟩, kI_yX3_grow, kV_yX3_grow, by decide, _, rfl, rfl⟩
theorem fG_X10_161 : jGv RX10 161 yX0_assessUpTo cX0_assessUpTo 5 (none) 2 0 := ⟨⟨kM_X10_161, kN_X0, kC_yX0_assessUpTo, by decide +kernel⟩, kI_yX0_assessUpTo, kV_yX0_assessUpTo, by decide, _, rfl, rfl⟩
theorem fG_X10_173 : jGv RX10 173 yX2_nextSeal cX2_nextSeal 1 ((Option.some FieldType.int)) 0 2 := ⟨⟨kM_X10_173, kN_X2, kC_yX2_nextSeal, by decide +kernel⟩, kI_yX2_nextSeal, kV_yX2_nextSeal, by decide, _, rfl, rfl⟩
theorem fG_X10_177 : jGi RX10 177 yX1_init cX1_init 4 3 := ⟨⟨kM_X10_177, kN_X1, kC_yX1_init, by decide +kernel⟩, kI_yX1_init, rfl⟩
theorem fG_X10_18 : jGi RX10 18 yX0_init cX0_init 2 1 := ⟨⟨kM_X10_18, kN_X0, kC_yX0_init, by decide +kernel⟩, kI_yX0_init, rfl⟩
theorem fG_X10_180 : jGv RX10 180 yX2_addBag cX2_addBag 2 ((Option.some FieldType.int)) 1 2 := ⟨⟨kM_X10_180, kN_X2, kC_yX2_addBag, by decide +kernel⟩, kI_yX2_addBag, kV_yX2_addBag, by decide, _, rfl, rfl⟩
theorem fG_X10_184 : jGv RX10 184 yX2_bagAt cX2_bagAt 2 ((Option.some (FieldType.object "CleanSeed$Bag"))) 1 2 := ⟨⟨kM_X10_184, kN_X2, kC_yX2_bagAt, by decide +kernel⟩, kI_yX2_bagAt, kV_yX2_bagAt, by decide, _, rfl, rfl⟩
theorem fG_X10_188 : jGv RX10 188 yX1_isOpened cX1_isOpened 1 ((Option.some FieldType.boolean)) 0 1 := ⟨⟨kM_X10_188, kN_X1, kC_yX1_isOpened, by decide +kernel⟩, kI_yX1_isOpened, kV_yX1_isOpened, by decide, _, rfl, rfl⟩
theorem fG_X10_195 : jGv RX10 195 yX1_isSold cX1_isSold 1 ((Option.some FieldType.boolean)) 0 1 := ⟨⟨kM_X10_195, kN_X1, kC_yX1_isSold, by decide +kernel⟩, kI_yX1_isSold, kV_yX1_isSold, by decide, _, rfl, rfl⟩
theorem fG_X10_216 : jGi RX10 216 yX5_init cX5_init 5 4 := ⟨⟨kM_X10_216, kN_X5, kC_yX5_init, by decide +kernel⟩, kI_yX5_init, rfl⟩
theorem fG_X10_219 : jGv RX10 219 yX6_lookCount cX6_lookCount 1 ((Option.some FieldType.int)) 0 6 := ⟨⟨kM_X10_219, kN_X6, kC_yX6_lookCount, by decide +kernel⟩, kI_yX6_lookCount, kV_yX6_lookCount, by decide, _, rfl, rfl⟩
theorem fG_X10_234 : jGv RX10 234 yX10_lotKnownIn cX10_lotKnownIn 4 ((Option.some (FieldType.object "CleanSeed$Lot"))) 2 10 := ⟨⟨kM_X10_234, kN_X10, kC_yX10_lotKnownIn, by decide +kernel⟩, kI_yX10_lotKnownIn, kV_yX10_lotKnownIn, by decide, _, rfl, rfl⟩
theorem fG_X10_241 : jGv RX10 241 yX4_traceBelow cX4_traceBelow 5 (none) 1 4 := ⟨⟨kM_X10_241, kN_X4, kC_yX4_traceBelow, by decide +kernel⟩, kI_yX4_traceBelow, kV_yX4_traceBelow, by decide, _, rfl, rfl⟩
theorem fG_X10_247 : jGv RX10 247 yX4_touchedBy cX4_touchedBy 7 ((Option.some FieldType.int)) 3 4 := ⟨⟨kM_X10_247, kN_X4, kC_yX4_touchedBy, by decide +kernel⟩, kI_yX4_touchedBy, kV_yX4_touchedBy, by decide, _, rfl, rfl⟩
theorem fG_X10_251 : jGv RX10 251 yX4_buyersBelow cX4_buyersBelow 5 ((Option.some FieldType.int)) 1 4 := ⟨⟨kM_X10_251, kN_X4, kC_yX4_buyersBelow, by decide +kernel⟩, kI_yX4_buyersBelow, kV_yX4_buyersBelow, by decide, _, rfl, rfl⟩
theorem fG_X10_254 : jGv RX10 254 yX7_forgetAll cX7_forgetAll 1 (none) 0 7 := ⟨⟨kM_X10_254, kN_X7, kC_yX7_forgetAll, by decide +kernel⟩, kI_yX7_forgetAll, kV_yX7_forgetAll, by decide, _, rfl, rfl⟩
theorem fG_X10_257 : jGv RX10 257 yX7_add cX7_add 3 ((Option.some FieldType.int)) 1 7 := ⟨⟨kM_X10_257, kN_X7, kC_yX7_add, by decide +kernel⟩, kI_yX7_add, kV_yX7_add, by decide, _, rfl, rfl⟩
theorem fG_X10_263 : jGv RX10 263 yX7_placeOf cX7_placeOf 3 ((Option.some FieldType.int)) 1 7 := ⟨⟨kM_X10_263, kN_X7, kC_yX7_placeOf, by decide +kernel⟩, kI_yX7_placeOf, kV_yX7_placeOf, by decide, _, rfl, rfl⟩
theorem fG_X10_267 : jGv RX10 267 yX6_about cX6_about 2 ((Option.some FieldType.int)) 1 6 := ⟨⟨kM_X10_267, kN_X6, kC_yX6_about, by decide +kernel⟩, kI_yX6_about, kV_yX6_about, by decide, _, rfl, rfl⟩
theorem fG_X10_27 : jGi RX10 27 yX4_init cX4_init 2 1 := ⟨⟨kM_X10_27, kN_X4, kC_yX4_init, by decide +kernel⟩, kI_yX4_init, rfl⟩
theorem fG_X10_270 : jGv RX10 270 yX1_about cX1_about 2 ((Option.some FieldType.int)) 1 1 := ⟨⟨kM_X10_270, kN_X1, kC_yX1_about, by decide +kernel⟩, kI_yX1_about, kV_yX1_about, by decide, _, rfl, rfl⟩
theorem fG_X10_277 : jGv RX10 277 yX0_countOut cX0_countOut 5 ((Option.some FieldType.int)) 1 0 := ⟨⟨kM_X10_277, kN_X0, kC_yX0_countOut, by decide +kernel⟩, kI_yX0_countOut, kV_yX0_countOut, by decide, _, rfl, rfl⟩
theorem fG_X10_34 : jGi RX10 34 yX7_init cX7_init 2 1 := ⟨⟨kM_X10_34, kN_X7, kC_yX7_init, by decide +kernel⟩, kI_yX7_init, rfl⟩
theorem fG_X10_43 : jGs RX10 43 yX10_within cX10_within 3 ((Option.some FieldType.boolean)) 3 := ⟨⟨kM_X10_43, kN_X10, kC_yX10_within, by decide +kernel⟩, kS_yX10_within⟩
theorem fG_X10_53 : jGi RX10 53 yX3_init cX3_init 6 5 := ⟨⟨kM_X10_53, kN_X3, kC_yX3_init, by decide +kernel⟩, kI_yX3_init, rfl⟩
theorem fG_X10_56 : jGv RX10 56 yX2_addField cX2_addField 2 ((Option.some FieldType.int)) 1 2 := ⟨⟨kM_X10_56, kN_X2, kC_yX2_addField, by decide +kernel⟩, kI_yX2_addField, kV_yX2_addField, by decide, _, rfl, rfl⟩
theorem fG_X10_60 : jGv RX10 60 yX2_fieldAt cX2_fieldAt 2 ((Option.some (FieldType.object "CleanSeed$Field"))) 1 2 := ⟨⟨kM_X10_60, kN_X2, kC_yX2_fieldAt, by decide +kernel⟩, kI_yX2_fieldAt, kV_yX2_fieldAt, by decide, _, rfl, rfl⟩
theorem fG_X10_64 : jGv RX10 64 yX3_squareTo cX3_squareTo 4 ((Option.some FieldType.int)) 1 3 := ⟨⟨kM_X10_64, kN_X3, kC_yX3_squareTo, by decide +kernel⟩, kI_yX3_squareTo, kV_yX3_squareTo, by decide, _, rfl, rfl⟩
theorem fG_X10_73 : jGv RX10 73 yX3_tell cX3_tell 4 (none) 3 3 := ⟨⟨kM_X10_73, kN_X3, kC_yX3_tell, by decide +kernel⟩, kI_yX3_tell, kV_yX3_tell, by decide, _, rfl, rfl⟩
theorem fG_X10_77 : jGv RX10 77 yX3_cropIn cX3_cropIn 5 ((Option.some FieldType.int)) 2 3 := ⟨⟨kM_X10_77, kN_X3, kC_yX3_cropIn, by decide +kernel⟩, kI_yX3_cropIn, kV_yX3_cropIn, by decide, _, rfl, rfl⟩
theorem fG_X10_84 : jGv RX10 84 yX2_addStatute cX2_addStatute 4 ((Option.some FieldType.int)) 3 2 := ⟨⟨kM_X10_84, kN_X2, kC_yX2_addStatute, by decide +kernel⟩, kI_yX2_addStatute, kV_yX2_addStatute, by decide, _, rfl, rfl⟩
theorem fG_X10_88 : jGv RX10 88 yX2_inForce cX2_inForce 7 ((Option.some FieldType.int)) 3 2 := ⟨⟨kM_X10_88, kN_X2, kC_yX2_inForce, by decide +kernel⟩, kI_yX2_inForce, kV_yX2_inForce, by decide, _, rfl, rfl⟩
theorem fG_X10_96 : jGi RX10 96 yX6_init cX6_init 5 4 := ⟨⟨kM_X10_96, kN_X6, kC_yX6_init, by decide +kernel⟩, kI_yX6_init, rfl⟩
theorem fG_X10_99 : jGv RX10 99 yX6_gain cX6_gain 2 (none) 1 6 := ⟨⟨kM_X10_99, kN_X6, kC_yX6_gain, by decide +kernel⟩, kI_yX6_gain, kV_yX6_gain, by decide, _, rfl, rfl⟩
theorem fG_X11_134 : jGs RX11 134 yX11_in cX11_in 3 ((Option.some FieldType.boolean)) 3 := ⟨⟨kM_X11_134, kN_X11, kC_yX11_in, by decide +kernel⟩, kS_yX11_in⟩
theorem fG_X11_153 : jGv RX11 153 yX11_isField cX11_isField 2 ((Option.some FieldType.boolean)) 1 11 := ⟨⟨kM_X11_153, kN_X11, kC_yX11_isField, by decide +kernel⟩, kI_yX11_isField, kV_yX11_isField, by decide, _, rfl, rfl⟩
theorem fG_X11_157 : jGv RX11 157 yX11_nearness cX11_nearness 5 ((Option.some FieldType.int)) 2 11 := ⟨⟨kM_X11_157, kN_X11, kC_yX11_nearness, by decide +kernel⟩, kI_yX11_nearness, kV_yX11_nearness, by decide, _, rfl, rfl⟩
theorem fG_X11_160 : jGv RX11 160 yX11_isYear cX11_isYear 2 ((Option.some FieldType.boolean)) 1 11 := ⟨⟨kM_X11_160, kN_X11, kC_yX11_isYear, by decide +kernel⟩, kI_yX11_isYear, kV_yX11_isYear, by decide, _, rfl, rfl⟩
theorem fG_X11_166 : jGv RX11 166 yX11_lotIn cX11_lotIn 4 ((Option.some FieldType.int)) 2 11 := ⟨⟨kM_X11_166, kN_X11, kC_yX11_lotIn, by decide +kernel⟩, kI_yX11_lotIn, kV_yX11_lotIn, by decide, _, rfl, rfl⟩
theorem fG_X11_169 : jGv RX11 169 yX11_standing cX11_standing 7 ((Option.some FieldType.int)) 3 11 := ⟨⟨kM_X11_169, kN_X11, kC_yX11_standing, by decide +kernel⟩, kI_yX11_standing, kV_yX11_standing, by decide, _, rfl, rfl⟩
theorem fG_X11_173 : jGs RX11 173 yX11_isValue cX11_isValue 2 ((Option.some FieldType.boolean)) 2 := ⟨⟨kM_X11_173, kN_X11, kC_yX11_isValue, by decide +kernel⟩, kS_yX11_isValue⟩
theorem fG_X11_180 : jGv RX11 180 yX11_inForce cX11_inForce 7 ((Option.some FieldType.int)) 3 11 := ⟨⟨kM_X11_180, kN_X11, kC_yX11_inForce, by decide +kernel⟩, kI_yX11_inForce, kV_yX11_inForce, by decide, _, rfl, rfl⟩
theorem fG_X11_183 : jGv RX11 183 yX11_lot cX11_lot 4 ((Option.some FieldType.int)) 2 11 := ⟨⟨kM_X11_183, kN_X11, kC_yX11_lot, by decide +kernel⟩, kI_yX11_lot, kV_yX11_lot, by decide, _, rfl, rfl⟩
theorem fG_X11_186 : jGv RX11 186 yX11_isLot cX11_isLot 2 ((Option.some FieldType.boolean)) 1 11 := ⟨⟨kM_X11_186, kN_X11, kC_yX11_isLot, by decide +kernel⟩, kI_yX11_isLot, kV_yX11_isLot, by decide, _, rfl, rfl⟩
theorem fG_X11_193 : jGv RX11 193 yX11_classOf cX11_classOf 5 ((Option.some FieldType.int)) 2 11 := ⟨⟨kM_X11_193, kN_X11, kC_yX11_classOf, by decide +kernel⟩, kI_yX11_classOf, kV_yX11_classOf, by decide, _, rfl, rfl⟩
theorem fG_X11_199 : jGv RX11 199 yX11_isBag cX11_isBag 2 ((Option.some FieldType.boolean)) 1 11 := ⟨⟨kM_X11_199, kN_X11, kC_yX11_isBag, by decide +kernel⟩, kI_yX11_isBag, kV_yX11_isBag, by decide, _, rfl, rfl⟩
theorem fG_X11_205 : jGv RX11 205 yX11_looksOf cX11_looksOf 5 ((Option.some FieldType.int)) 2 11 := ⟨⟨kM_X11_205, kN_X11, kC_yX11_looksOf, by decide +kernel⟩, kI_yX11_looksOf, kV_yX11_looksOf, by decide, _, rfl, rfl⟩
theorem fG_X11_212 : jGv RX11 212 yX11_judgeOne cX11_judgeOne 5 (none) 2 11 := ⟨⟨kM_X11_212, kN_X11, kC_yX11_judgeOne, by decide +kernel⟩, kI_yX11_judgeOne, kV_yX11_judgeOne, by decide, _, rfl, rfl⟩
theorem fG_X11_216 : jGv RX11 216 yX11_wrongField cX11_wrongField 11 ((Option.some FieldType.int)) 2 11 := ⟨⟨kM_X11_216, kN_X11, kC_yX11_wrongField, by decide +kernel⟩, kI_yX11_wrongField, kV_yX11_wrongField, by decide, _, rfl, rfl⟩
theorem fG_X11_221 : jGv RX11 221 yX11_isJudged cX11_isJudged 3 ((Option.some FieldType.boolean)) 2 11 := ⟨⟨kM_X11_221, kN_X11, kC_yX11_isJudged, by decide +kernel⟩, kI_yX11_isJudged, kV_yX11_isJudged, by decide, _, rfl, rfl⟩
theorem fG_X11_225 : jGv RX11 225 yX11_rowsTo cX11_rowsTo 4 (none) 1 11 := ⟨⟨kM_X11_225, kN_X11, kC_yX11_rowsTo, by decide +kernel⟩, kI_yX11_rowsTo, kV_yX11_rowsTo, by decide, _, rfl, rfl⟩
theorem fG_X11_229 : jGv RX11 229 yX11_isOf cX11_isOf 3 ((Option.some FieldType.boolean)) 2 11 := ⟨⟨kM_X11_229, kN_X11, kC_yX11_isOf, by decide +kernel⟩, kI_yX11_isOf, kV_yX11_isOf, by decide, _, rfl, rfl⟩
theorem fG_X11_232 : jGv RX11 232 yX11_isIn cX11_isIn 5 ((Option.some FieldType.boolean)) 3 11 := ⟨⟨kM_X11_232, kN_X11, kC_yX11_isIn, by decide +kernel⟩, kI_yX11_isIn, kV_yX11_isIn, by decide, _, rfl, rfl⟩
theorem fG_X11_238 : jGv RX11 238 yX11_isFree cX11_isFree 5 ((Option.some FieldType.boolean)) 2 11 := ⟨⟨kM_X11_238, kN_X11, kC_yX11_isFree, by decide +kernel⟩, kI_yX11_isFree, kV_yX11_isFree, by decide, _, rfl, rfl⟩
theorem fG_X11_241 : jGv RX11 241 yX11_isGood cX11_isGood 6 ((Option.some FieldType.boolean)) 1 11 := ⟨⟨kM_X11_241, kN_X11, kC_yX11_isGood, by decide +kernel⟩, kI_yX11_isGood, kV_yX11_isGood, by decide, _, rfl, rfl⟩
theorem fG_X11_244 : jGv RX11 244 yX11_findPlan cX11_findPlan 8 (none) 0 11 := ⟨⟨kM_X11_244, kN_X11, kC_yX11_findPlan, by decide +kernel⟩, kI_yX11_findPlan, kV_yX11_findPlan, by decide, _, rfl, rfl⟩
theorem fG_X11_247 : jGv RX11 247 yX11_outs cX11_outs 3 ((Option.some FieldType.int)) 0 11 := ⟨⟨kM_X11_247, kN_X11, kC_yX11_outs, by decide +kernel⟩, kI_yX11_outs, kV_yX11_outs, by decide, _, rfl, rfl⟩
theorem fG_X2_64 : jGi RX2 64 yX8_init cX8_init 5 4 := ⟨⟨kM_X2_64, kN_X8, kC_yX8_init, by decide +kernel⟩, kI_yX8_init, rfl⟩
theorem fG_X3_51 : jGi RX3 51 yX9_init cX9_init 4 3 := ⟨⟨kM_X3_51, kN_X9, kC_yX9_init, by decide +kernel⟩, kI_yX9_init, rfl⟩
theorem fG_X3_54 : jGv RX3 54 yX3_grownIn cX3_grownIn 2 ((Option.some (FieldType.object "CleanSeed$Lot"))) 1 3 := ⟨⟨kM_X3_54, kN_X3, kC_yX3_grownIn, by decide +kernel⟩, kI_yX3_grownIn, kV_yX3_grownIn, by decide, _, rfl, rfl⟩
theorem fG_X3_69 : jGv RX3 69 yX3_cropIn cX3_cropIn 5 ((Option.some FieldType.int)) 2 3 := ⟨⟨kM_X3_69, kN_X3, kC_yX3_cropIn, by decide +kernel⟩, kI_yX3_cropIn, kV_yX3_cropIn, by decide, _, rfl, rfl⟩
theorem fG_X4_21 : jGv RX4 21 yX2_lotAt cX2_lotAt 2 ((Option.some (FieldType.object "CleanSeed$Lot"))) 1 2 := ⟨⟨kM_X4_21, kN_X2, kC_yX2_lotAt, by decide +kernel⟩, kI_yX2_lotAt, kV_yX2_lotAt, by decide, _, rfl, rfl⟩
theorem fG_X4_31 : jGs RX4 31 yX4_linesOf cX4_linesOf 1 ((Option.some FieldType.int)) 1 := ⟨⟨kM_X4_31, kN_X4, kC_yX4_linesOf, by decide +kernel⟩, kS_yX4_linesOf⟩
theorem fG_X4_48 : jGv RX4 48 yX4_traceBelow cX4_traceBelow 5 (none) 1 4 := ⟨⟨kM_X4_48, kN_X4, kC_yX4_traceBelow, by decide +kernel⟩, kI_yX4_traceBelow, kV_yX4_traceBelow, by decide, _, rfl, rfl⟩
theorem fG_X4_55 : jGv RX4 55 yX2_bagAt cX2_bagAt 2 ((Option.some (FieldType.object "CleanSeed$Bag"))) 1 2 := ⟨⟨kM_X4_55, kN_X2, kC_yX2_bagAt, by decide +kernel⟩, kI_yX2_bagAt, kV_yX2_bagAt, by decide, _, rfl, rfl⟩
theorem fG_X4_59 : jGv RX4 59 yX1_isSold cX1_isSold 1 ((Option.some FieldType.boolean)) 0 1 := ⟨⟨kM_X4_59, kN_X1, kC_yX1_isSold, by decide +kernel⟩, kI_yX1_isSold, kV_yX1_isSold, by decide, _, rfl, rfl⟩
theorem fG_X4_71 : jGv RX4 71 yX4_markAbove cX4_markAbove 4 (none) 1 4 := ⟨⟨kM_X4_71, kN_X4, kC_yX4_markAbove, by decide +kernel⟩, kI_yX4_markAbove, kV_yX4_markAbove, by decide, _, rfl, rfl⟩
theorem fG_X4_74 : jGv RX4 74 yX4_markAkin cX4_markAkin 5 (none) 1 4 := ⟨⟨kM_X4_74, kN_X4, kC_yX4_markAkin, by decide +kernel⟩, kI_yX4_markAkin, kV_yX4_markAkin, by decide, _, rfl, rfl⟩
theorem fG_X4_77 : jGs RX4 77 yX4_rowOf cX4_rowOf 1 ((Option.some FieldType.int)) 1 := ⟨⟨kM_X4_77, kN_X4, kC_yX4_rowOf, by decide +kernel⟩, kS_yX4_rowOf⟩
theorem fG_X4_87 : jGs RX4 87 yX4_markOneAbove cX4_markOneAbove 1 (none) 1 := ⟨⟨kM_X4_87, kN_X4, kC_yX4_markOneAbove, by decide +kernel⟩, kS_yX4_markOneAbove⟩
theorem fG_X4_90 : jGs RX4 90 yX4_isAkin cX4_isAkin 1 ((Option.some FieldType.boolean)) 1 := ⟨⟨kM_X4_90, kN_X4, kC_yX4_isAkin, by decide +kernel⟩, kS_yX4_isAkin⟩
theorem fG_X6_88 : jGv RX6 88 yX6_lookCount cX6_lookCount 1 ((Option.some FieldType.int)) 0 6 := ⟨⟨kM_X6_88, kN_X6, kC_yX6_lookCount, by decide +kernel⟩, kI_yX6_lookCount, kV_yX6_lookCount, by decide, _, rfl, rfl⟩
theorem fG_X7_46 : jGv RX7 46 yX2_inForce cX2_inForce 7 ((Option.some FieldType.int)) 3 2 := ⟨⟨kM_X7_46, kN_X2, kC_yX2_inForce, by decide +kernel⟩, kI_yX2_inForce, kV_yX2_inForce, by decide, _, rfl, rfl⟩
theorem fG_X7_50 : jGv RX7 50 yX7_markMayTake cX7_markMayTake 7 (none) 2 7 := ⟨⟨kM_X7_50, kN_X7, kC_yX7_markMayTake, by decide +kernel⟩, kI_yX7_markMayTake, kV_yX7_markMayTake, by decide, _, rfl, rfl⟩
theorem fG_X7_54 : jGv RX7 54 yX7_markTooNear cX7_markTooNear 6 (none) 1 7 := ⟨⟨kM_X7_54, kN_X7, kC_yX7_markTooNear, by decide +kernel⟩, kI_yX7_markTooNear, kV_yX7_markTooNear, by decide, _, rfl, rfl⟩
theorem fG_X7_58 : jGv RX7 58 yX7_search cX7_search 4 (none) 2 7 := ⟨⟨kM_X7_58, kN_X7, kC_yX7_search, by decide +kernel⟩, kI_yX7_search, kV_yX7_search, by decide, _, rfl, rfl⟩
theorem fG_X7_61 : jGv RX7 61 yX2_fieldAt cX2_fieldAt 2 ((Option.some (FieldType.object "CleanSeed$Field"))) 1 2 := ⟨⟨kM_X7_61, kN_X2, kC_yX2_fieldAt, by decide +kernel⟩, kI_yX2_fieldAt, kV_yX2_fieldAt, by decide, _, rfl, rfl⟩
theorem fG_X7_68 : jGv RX7 68 yX3_stoodAheadOf cX3_stoodAheadOf 7 ((Option.some FieldType.boolean)) 4 3 := ⟨⟨kM_X7_68, kN_X3, kC_yX3_stoodAheadOf, by decide +kernel⟩, kI_yX3_stoodAheadOf, kV_yX3_stoodAheadOf, by decide, _, rfl, rfl⟩
theorem fG_X7_74 : jGv RX7 74 yX3_squareTo cX3_squareTo 4 ((Option.some FieldType.int)) 1 3 := ⟨⟨kM_X7_74, kN_X3, kC_yX3_squareTo, by decide +kernel⟩, kI_yX3_squareTo, kV_yX3_squareTo, by decide, _, rfl, rfl⟩
theorem fG_X7_84 : jGv RX7 84 yX7_fits cX7_fits 6 ((Option.some FieldType.boolean)) 2 7 := ⟨⟨kM_X7_84, kN_X7, kC_yX7_fits, by decide +kernel⟩, kI_yX7_fits, kV_yX7_fits, by decide, _, rfl, rfl⟩
theorem fG_X7_88 : jGs RX7 88 yX7_areOfOneCrop cX7_areOfOneCrop 2 ((Option.some FieldType.boolean)) 2 := ⟨⟨kM_X7_88, kN_X7, kC_yX7_areOfOneCrop, by decide +kernel⟩, kS_yX7_areOfOneCrop⟩
