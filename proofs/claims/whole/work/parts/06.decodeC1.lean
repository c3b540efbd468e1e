theorem dX0_init_0 : decode cX0_init 0 = .ok (.aload_n 0, 1) := by decide +kernel
theorem dX0_init_1 : decode cX0_init 1 = .ok (.invokespecial 3, 3) := by decide +kernel
theorem dX0_init_4 : decode cX0_init 4 = .ok (.aload_n 0, 1) := by decide +kernel
theorem dX0_init_5 : decode cX0_init 5 = .ok (.aload_n 1, 1) := by decide +kernel
theorem dX0_init_6 : decode cX0_init 6 = .ok (.putfield 9, 3) := by decide +kernel
theorem dX0_init_9 : decode cX0_init 9 = .ok (.return_, 1) := by decide +kernel
theorem dX0_assessUpTo_0 : decode cX0_assessUpTo 0 = .ok (.iconst 0, 1) := by decide +kernel
theorem dX0_assessUpTo_1 : decode cX0_assessUpTo 1 = .ok (.istore_n 3, 1) := by decide +kernel
theorem dX0_assessUpTo_2 : decode cX0_assessUpTo 2 = .ok (.iload_n 3, 1) := by decide +kernel
theorem dX0_assessUpTo_3 : decode cX0_assessUpTo 3 = .ok (.aload_n 0, 1) := by decide +kernel
theorem dX0_assessUpTo_4 : decode cX0_assessUpTo 4 = .ok (.getfield 9, 3) := by decide +kernel
theorem dX0_assessUpTo_7 : decode cX0_assessUpTo 7 = .ok (.getfield 15, 3) := by decide +kernel
theorem dX0_assessUpTo_10 : decode cX0_assessUpTo 10 = .ok (.if_icmp .ge 39, 3) := by decide +kernel
theorem dX0_assessUpTo_13 : decode cX0_assessUpTo 13 = .ok (.aload_n 0, 1) := by decide +kernel
theorem dX0_assessUpTo_14 : decode cX0_assessUpTo 14 = .ok (.getfield 9, 3) := by decide +kernel
theorem dX0_assessUpTo_17 : decode cX0_assessUpTo 17 = .ok (.iload_n 3, 1) := by decide +kernel
theorem dX0_assessUpTo_18 : decode cX0_assessUpTo 18 = .ok (.invokevirtual 21, 3) := by decide +kernel
theorem dX0_assessUpTo_21 : decode cX0_assessUpTo 21 = .ok (.astore 4, 2) := by decide +kernel
theorem dX0_assessUpTo_23 : decode cX0_assessUpTo 23 = .ok (.aload 4, 2) := by decide +kernel
theorem dX0_assessUpTo_25 : decode cX0_assessUpTo 25 = .ok (.ifnull 18, 3) := by decide +kernel
theorem dX0_assessUpTo_28 : decode cX0_assessUpTo 28 = .ok (.aload 4, 2) := by decide +kernel
theorem dX0_assessUpTo_30 : decode cX0_assessUpTo 30 = .ok (.getfield 25, 3) := by decide +kernel
theorem dX0_assessUpTo_33 : decode cX0_assessUpTo 33 = .ok (.ifCond .ne 10, 3) := by decide +kernel
theorem dX0_assessUpTo_36 : decode cX0_assessUpTo 36 = .ok (.aload_n 0, 1) := by decide +kernel
theorem dX0_assessUpTo_37 : decode cX0_assessUpTo 37 = .ok (.aload 4, 2) := by decide +kernel
theorem dX0_assessUpTo_39 : decode cX0_assessUpTo 39 = .ok (.iload_n 2, 1) := by decide +kernel
theorem dX0_assessUpTo_40 : decode cX0_assessUpTo 40 = .ok (.invokevirtual 30, 3) := by decide +kernel
theorem dX0_assessUpTo_43 : decode cX0_assessUpTo 43 = .ok (.iinc 3 1, 3) := by decide +kernel
theorem dX0_assessUpTo_46 : decode cX0_assessUpTo 46 = .ok (.goto (-44), 3) := by decide +kernel
theorem dX0_assessUpTo_49 : decode cX0_assessUpTo 49 = .ok (.iconst 0, 1) := by decide +kernel
theorem dX0_assessUpTo_50 : decode cX0_assessUpTo 50 = .ok (.istore_n 3, 1) := by decide +kernel
theorem dX0_assessUpTo_51 : decode cX0_assessUpTo 51 = .ok (.iload_n 3, 1) := by decide +kernel
theorem dX0_assessUpTo_52 : decode cX0_assessUpTo 52 = .ok (.iload_n 1, 1) := by decide +kernel
theorem dX0_assessUpTo_53 : decode cX0_assessUpTo 53 = .ok (.if_icmp .gt 50, 3) := by decide +kernel
theorem dX0_assessUpTo_56 : decode cX0_assessUpTo 56 = .ok (.iload_n 3, 1) := by decide +kernel
theorem dX0_assessUpTo_57 : decode cX0_assessUpTo 57 = .ok (.aload_n 0, 1) := by decide +kernel
theorem dX0_assessUpTo_58 : decode cX0_assessUpTo 58 = .ok (.getfield 9, 3) := by decide +kernel
theorem dX0_assessUpTo_61 : decode cX0_assessUpTo 61 = .ok (.getfield 15, 3) := by decide +kernel
theorem dX0_assessUpTo_64 : decode cX0_assessUpTo 64 = .ok (.if_icmp .ge 39, 3) := by decide +kernel
theorem dX0_assessUpTo_67 : decode cX0_assessUpTo 67 = .ok (.aload_n 0, 1) := by decide +kernel
theorem dX0_assessUpTo_68 : decode cX0_assessUpTo 68 = .ok (.getfield 9, 3) := by decide +kernel
theorem dX0_assessUpTo_71 : decode cX0_assessUpTo 71 = .ok (.iload_n 3, 1) := by decide +kernel
theorem dX0_assessUpTo_72 : decode cX0_assessUpTo 72 = .ok (.invokevirtual 21, 3) := by decide +kernel
theorem dX0_assessUpTo_75 : decode cX0_assessUpTo 75 = .ok (.astore 4, 2) := by decide +kernel
theorem dX0_assessUpTo_77 : decode cX0_assessUpTo 77 = .ok (.aload 4, 2) := by decide +kernel
theorem dX0_assessUpTo_79 : decode cX0_assessUpTo 79 = .ok (.ifnull 18, 3) := by decide +kernel
theorem dX0_assessUpTo_82 : decode cX0_assessUpTo 82 = .ok (.aload 4, 2) := by decide +kernel
theorem dX0_assessUpTo_84 : decode cX0_assessUpTo 84 = .ok (.getfield 25, 3) := by decide +kernel
theorem dX0_assessUpTo_87 : decode cX0_assessUpTo 87 = .ok (.ifCond .eq 10, 3) := by decide +kernel
theorem dX0_assessUpTo_90 : decode cX0_assessUpTo 90 = .ok (.aload_n 0, 1) := by decide +kernel
theorem dX0_assessUpTo_91 : decode cX0_assessUpTo 91 = .ok (.aload 4, 2) := by decide +kernel
theorem dX0_assessUpTo_93 : decode cX0_assessUpTo 93 = .ok (.iload_n 2, 1) := by decide +kernel
theorem dX0_assessUpTo_94 : decode cX0_assessUpTo 94 = .ok (.invokevirtual 30, 3) := by decide +kernel
theorem dX0_assessUpTo_97 : decode cX0_assessUpTo 97 = .ok (.iinc 3 1, 3) := by decide +kernel
theorem dX0_assessUpTo_100 : decode cX0_assessUpTo 100 = .ok (.goto (-49), 3) := by decide +kernel
theorem dX0_assessUpTo_103 : decode cX0_assessUpTo 103 = .ok (.return_, 1) := by decide +kernel
theorem dX0_countOut_0 : decode cX0_countOut 0 = .ok (.aload_n 0, 1) := by decide +kernel
theorem dX0_countOut_1 : decode cX0_countOut 1 = .ok (.aload_n 0, 1) := by decide +kernel
theorem dX0_countOut_2 : decode cX0_countOut 2 = .ok (.getfield 9, 3) := by decide +kernel
theorem dX0_countOut_5 : decode cX0_countOut 5 = .ok (.getfield 15, 3) := by decide +kernel
theorem dX0_countOut_8 : decode cX0_countOut 8 = .ok (.iconst 1, 1) := by decide +kernel
theorem dX0_countOut_9 : decode cX0_countOut 9 = .ok (.isub, 1) := by decide +kernel
theorem dX0_countOut_10 : decode cX0_countOut 10 = .ok (.iload_n 1, 1) := by decide +kernel
theorem dX0_countOut_11 : decode cX0_countOut 11 = .ok (.invokevirtual 34, 3) := by decide +kernel
theorem dX0_countOut_14 : decode cX0_countOut 14 = .ok (.iconst 0, 1) := by decide +kernel
theorem dX0_countOut_15 : decode cX0_countOut 15 = .ok (.istore_n 2, 1) := by decide +kernel
theorem dX0_countOut_16 : decode cX0_countOut 16 = .ok (.iconst 0, 1) := by decide +kernel
theorem dX0_countOut_17 : decode cX0_countOut 17 = .ok (.istore_n 3, 1) := by decide +kernel
theorem dX0_countOut_18 : decode cX0_countOut 18 = .ok (.iload_n 3, 1) := by decide +kernel
theorem dX0_countOut_19 : decode cX0_countOut 19 = .ok (.aload_n 0, 1) := by decide +kernel
theorem dX0_countOut_20 : decode cX0_countOut 20 = .ok (.getfield 9, 3) := by decide +kernel
theorem dX0_countOut_23 : decode cX0_countOut 23 = .ok (.getfield 15, 3) := by decide +kernel
theorem dX0_countOut_26 : decode cX0_countOut 26 = .ok (.if_icmp .ge 37, 3) := by decide +kernel
theorem dX0_countOut_29 : decode cX0_countOut 29 = .ok (.aload_n 0, 1) := by decide +kernel
theorem dX0_countOut_30 : decode cX0_countOut 30 = .ok (.getfield 9, 3) := by decide +kernel
theorem dX0_countOut_33 : decode cX0_countOut 33 = .ok (.iload_n 3, 1) := by decide +kernel
theorem dX0_countOut_34 : decode cX0_countOut 34 = .ok (.invokevirtual 21, 3) := by decide +kernel
theorem dX0_countOut_37 : decode cX0_countOut 37 = .ok (.astore 4, 2) := by decide +kernel
theorem dX0_countOut_39 : decode cX0_countOut 39 = .ok (.aload 4, 2) := by decide +kernel
theorem dX0_countOut_41 : decode cX0_countOut 41 = .ok (.ifnull 16, 3) := by decide +kernel
theorem dX0_countOut_44 : decode cX0_countOut 44 = .ok (.aload 4, 2) := by decide +kernel
theorem dX0_countOut_46 : decode cX0_countOut 46 = .ok (.getfield 38, 3) := by decide +kernel
theorem dX0_countOut_49 : decode cX0_countOut 49 = .ok (.bipush 9, 2) := by decide +kernel
theorem dX0_countOut_51 : decode cX0_countOut 51 = .ok (.if_icmp .ne 6, 3) := by decide +kernel
theorem dX0_countOut_54 : decode cX0_countOut 54 = .ok (.iinc 2 1, 3) := by decide +kernel
theorem dX0_countOut_57 : decode cX0_countOut 57 = .ok (.iinc 3 1, 3) := by decide +kernel
theorem dX0_countOut_60 : decode cX0_countOut 60 = .ok (.goto (-42), 3) := by decide +kernel
theorem dX0_countOut_63 : decode cX0_countOut 63 = .ok (.iload_n 2, 1) := by decide +kernel
theorem dX0_countOut_64 : decode cX0_countOut 64 = .ok (.ireturn, 1) := by decide +kernel
theorem dX0_assess_0 : decode cX0_assess 0 = .ok (.aload_n 1, 1) := by decide +kernel
theorem dX0_assess_1 : decode cX0_assess 1 = .ok (.iload_n 2, 1) := by decide +kernel
theorem dX0_assess_2 : decode cX0_assess 2 = .ok (.invokevirtual 41, 3) := by decide +kernel
theorem dX0_assess_5 : decode cX0_assess 5 = .ok (.ifCond .eq 11, 3) := by decide +kernel
theorem dX0_assess_8 : decode cX0_assess 8 = .ok (.aload_n 1, 1) := by decide +kernel
theorem dX0_assess_9 : decode cX0_assess 9 = .ok (.iconst 5, 1) := by decide +kernel
theorem dX0_assess_10 : decode cX0_assess 10 = .ok (.putfield 45, 3) := by decide +kernel
theorem dX0_assess_13 : decode cX0_assess 13 = .ok (.goto 43, 3) := by decide +kernel
theorem dX0_assess_16 : decode cX0_assess 16 = .ok (.aload_n 1, 1) := by decide +kernel
theorem dX0_assess_17 : decode cX0_assess 17 = .ok (.invokevirtual 48, 3) := by decide +kernel
theorem dX0_assess_20 : decode cX0_assess 20 = .ok (.bipush 9, 2) := by decide +kernel
theorem dX0_assess_22 : decode cX0_assess 22 = .ok (.if_icmp .ne 12, 3) := by decide +kernel
theorem dX0_assess_25 : decode cX0_assess 25 = .ok (.aload_n 1, 1) := by decide +kernel
theorem dX0_assess_26 : decode cX0_assess 26 = .ok (.bipush 7, 2) := by decide +kernel
theorem dX0_assess_28 : decode cX0_assess 28 = .ok (.putfield 45, 3) := by decide +kernel
theorem dX0_assess_31 : decode cX0_assess 31 = .ok (.goto 25, 3) := by decide +kernel
theorem dX0_assess_34 : decode cX0_assess 34 = .ok (.aload_n 1, 1) := by decide +kernel
theorem dX0_assess_35 : decode cX0_assess 35 = .ok (.aload_n 1, 1) := by decide +kernel
theorem dX0_assess_36 : decode cX0_assess 36 = .ok (.getfield 25, 3) := by decide +kernel
theorem dX0_assess_39 : decode cX0_assess 39 = .ok (.iconst 1, 1) := by decide +kernel
theorem dX0_assess_40 : decode cX0_assess 40 = .ok (.if_icmp .ne 12, 3) := by decide +kernel
theorem dX0_assess_43 : decode cX0_assess 43 = .ok (.aload_n 0, 1) := by decide +kernel
theorem dX0_assess_44 : decode cX0_assess 44 = .ok (.aload_n 1, 1) := by decide +kernel
theorem dX0_assess_45 : decode cX0_assess 45 = .ok (.iload_n 2, 1) := by decide +kernel
theorem dX0_assess_46 : decode cX0_assess 46 = .ok (.invokevirtual 52, 3) := by decide +kernel
theorem dX0_assess_49 : decode cX0_assess 49 = .ok (.goto 4, 3) := by decide +kernel
theorem dX0_assess_52 : decode cX0_assess 52 = .ok (.iconst 0, 1) := by decide +kernel
theorem dX0_assess_53 : decode cX0_assess 53 = .ok (.putfield 45, 3) := by decide +kernel
theorem dX0_assess_56 : decode cX0_assess 56 = .ok (.aload_n 1, 1) := by decide +kernel
theorem dX0_assess_57 : decode cX0_assess 57 = .ok (.getfield 25, 3) := by decide +kernel
theorem dX0_assess_60 : decode cX0_assess 60 = .ok (.iconst 1, 1) := by decide +kernel
theorem dX0_assess_61 : decode cX0_assess 61 = .ok (.if_icmp .ne 12, 3) := by decide +kernel
theorem dX0_assess_64 : decode cX0_assess 64 = .ok (.aload_n 1, 1) := by decide +kernel
theorem dX0_assess_65 : decode cX0_assess 65 = .ok (.invokevirtual 48, 3) := by decide +kernel
theorem dX0_assess_68 : decode cX0_assess 68 = .ok (.iconst 1, 1) := by decide +kernel
theorem dX0_assess_69 : decode cX0_assess 69 = .ok (.iadd, 1) := by decide +kernel
theorem dX0_assess_70 : decode cX0_assess 70 = .ok (.goto 7, 3) := by decide +kernel
theorem dX0_assess_73 : decode cX0_assess 73 = .ok (.aload_n 1, 1) := by decide +kernel
theorem dX0_assess_74 : decode cX0_assess 74 = .ok (.invokevirtual 48, 3) := by decide +kernel
theorem dX0_assess_77 : decode cX0_assess 77 = .ok (.istore_n 3, 1) := by decide +kernel
theorem dX0_assess_78 : decode cX0_assess 78 = .ok (.aload_n 1, 1) := by decide +kernel
theorem dX0_assess_79 : decode cX0_assess 79 = .ok (.aload_n 1, 1) := by decide +kernel
theorem dX0_assess_80 : decode cX0_assess 80 = .ok (.getfield 45, 3) := by decide +kernel
theorem dX0_assess_83 : decode cX0_assess 83 = .ok (.ifCond .ne 7, 3) := by decide +kernel
theorem dX0_assess_86 : decode cX0_assess 86 = .ok (.iload_n 3, 1) := by decide +kernel
theorem dX0_assess_87 : decode cX0_assess 87 = .ok (.goto 5, 3) := by decide +kernel
theorem dX0_assess_90 : decode cX0_assess 90 = .ok (.bipush 9, 2) := by decide +kernel
theorem dX0_assess_92 : decode cX0_assess 92 = .ok (.putfield 38, 3) := by decide +kernel
theorem dX0_assess_95 : decode cX0_assess 95 = .ok (.return_, 1) := by decide +kernel
theorem dX0_reasonInField_0 : decode cX0_reasonInField 0 = .ok (.aload_n 1, 1) := by decide +kernel
theorem dX0_reasonInField_1 : decode cX0_reasonInField 1 = .ok (.getfield 56, 3) := by decide +kernel
theorem dX0_reasonInField_4 : decode cX0_reasonInField 4 = .ok (.ifnonnull 5, 3) := by decide +kernel
theorem dX0_reasonInField_7 : decode cX0_reasonInField 7 = .ok (.iconst 0, 1) := by decide +kernel
theorem dX0_reasonInField_8 : decode cX0_reasonInField 8 = .ok (.ireturn, 1) := by decide +kernel
theorem dX0_reasonInField_9 : decode cX0_reasonInField 9 = .ok (.aload_n 0, 1) := by decide +kernel
theorem dX0_reasonInField_10 : decode cX0_reasonInField 10 = .ok (.aload_n 1, 1) := by decide +kernel
theorem dX0_reasonInField_11 : decode cX0_reasonInField 11 = .ok (.iload_n 2, 1) := by decide +kernel
theorem dX0_reasonInField_12 : decode cX0_reasonInField 12 = .ok (.invokevirtual 60, 3) := by decide +kernel
theorem dX0_reasonInField_15 : decode cX0_reasonInField 15 = .ok (.ifCond .eq 5, 3) := by decide +kernel
theorem dX0_reasonInField_18 : decode cX0_reasonInField 18 = .ok (.iconst 1, 1) := by decide +kernel
theorem dX0_reasonInField_19 : decode cX0_reasonInField 19 = .ok (.ireturn, 1) := by decide +kernel
theorem dX0_reasonInField_20 : decode cX0_reasonInField 20 = .ok (.aload_n 0, 1) := by decide +kernel
theorem dX0_reasonInField_21 : decode cX0_reasonInField 21 = .ok (.getfield 9, 3) := by decide +kernel
theorem dX0_reasonInField_24 : decode cX0_reasonInField 24 = .ok (.iconst 1, 1) := by decide +kernel
theorem dX0_reasonInField_25 : decode cX0_reasonInField 25 = .ok (.aload_n 1, 1) := by decide +kernel
theorem dX0_reasonInField_26 : decode cX0_reasonInField 26 = .ok (.getfield 64, 3) := by decide +kernel
theorem dX0_reasonInField_29 : decode cX0_reasonInField 29 = .ok (.iload_n 2, 1) := by decide +kernel
theorem dX0_reasonInField_30 : decode cX0_reasonInField 30 = .ok (.invokevirtual 67, 3) := by decide +kernel
theorem dX0_reasonInField_33 : decode cX0_reasonInField 33 = .ok (.istore_n 3, 1) := by decide +kernel
theorem dX0_reasonInField_34 : decode cX0_reasonInField 34 = .ok (.aload_n 1, 1) := by decide +kernel
theorem dX0_reasonInField_35 : decode cX0_reasonInField 35 = .ok (.getfield 56, 3) := by decide +kernel
theorem dX0_reasonInField_38 : decode cX0_reasonInField 38 = .ok (.aload_n 1, 1) := by decide +kernel
theorem dX0_reasonInField_39 : decode cX0_reasonInField 39 = .ok (.getfield 64, 3) := by decide +kernel
theorem dX0_reasonInField_42 : decode cX0_reasonInField 42 = .ok (.iload_n 3, 1) := by decide +kernel
theorem dX0_reasonInField_43 : decode cX0_reasonInField 43 = .ok (.aload_n 1, 1) := by decide +kernel
theorem dX0_reasonInField_44 : decode cX0_reasonInField 44 = .ok (.getfield 71, 3) := by decide +kernel
theorem dX0_reasonInField_47 : decode cX0_reasonInField 47 = .ok (.iload_n 2, 1) := by decide +kernel
theorem dX0_reasonInField_48 : decode cX0_reasonInField 48 = .ok (.invokevirtual 74, 3) := by decide +kernel
theorem dX0_reasonInField_51 : decode cX0_reasonInField 51 = .ok (.ifCond .eq 5, 3) := by decide +kernel
theorem dX0_reasonInField_54 : decode cX0_reasonInField 54 = .ok (.iconst 2, 1) := by decide +kernel
theorem dX0_reasonInField_55 : decode cX0_reasonInField 55 = .ok (.ireturn, 1) := by decide +kernel
theorem dX0_reasonInField_56 : decode cX0_reasonInField 56 = .ok (.aload_n 1, 1) := by decide +kernel
theorem dX0_reasonInField_57 : decode cX0_reasonInField 57 = .ok (.iload_n 2, 1) := by decide +kernel
theorem dX0_reasonInField_58 : decode cX0_reasonInField 58 = .ok (.invokevirtual 80, 3) := by decide +kernel
theorem dX0_reasonInField_61 : decode cX0_reasonInField 61 = .ok (.astore 4, 2) := by decide +kernel
theorem dX0_reasonInField_63 : decode cX0_reasonInField 63 = .ok (.aload 4, 2) := by decide +kernel
theorem dX0_reasonInField_65 : decode cX0_reasonInField 65 = .ok (.ifnonnull 7, 3) := by decide +kernel
theorem dX0_reasonInField_68 : decode cX0_reasonInField 68 = .ok (.iconst 0, 1) := by decide +kernel
theorem dX0_reasonInField_69 : decode cX0_reasonInField 69 = .ok (.goto 8, 3) := by decide +kernel
theorem dX0_reasonInField_72 : decode cX0_reasonInField 72 = .ok (.aload 4, 2) := by decide +kernel
theorem dX0_reasonInField_74 : decode cX0_reasonInField 74 = .ok (.getfield 84, 3) := by decide +kernel
theorem dX0_reasonInField_77 : decode cX0_reasonInField 77 = .ok (.istore 5, 2) := by decide +kernel
theorem dX0_reasonInField_79 : decode cX0_reasonInField 79 = .ok (.iload 5, 2) := by decide +kernel
theorem dX0_reasonInField_81 : decode cX0_reasonInField 81 = .ok (.aload_n 0, 1) := by decide +kernel
theorem dX0_reasonInField_82 : decode cX0_reasonInField 82 = .ok (.getfield 9, 3) := by decide +kernel
theorem dX0_reasonInField_85 : decode cX0_reasonInField 85 = .ok (.iconst 2, 1) := by decide +kernel
theorem dX0_reasonInField_86 : decode cX0_reasonInField 86 = .ok (.aload_n 1, 1) := by decide +kernel
theorem dX0_reasonInField_87 : decode cX0_reasonInField 87 = .ok (.getfield 64, 3) := by decide +kernel
theorem dX0_reasonInField_90 : decode cX0_reasonInField 90 = .ok (.iload_n 2, 1) := by decide +kernel
theorem dX0_reasonInField_91 : decode cX0_reasonInField 91 = .ok (.invokevirtual 67, 3) := by decide +kernel
theorem dX0_reasonInField_94 : decode cX0_reasonInField 94 = .ok (.if_icmp .ge 5, 3) := by decide +kernel
theorem dX0_reasonInField_97 : decode cX0_reasonInField 97 = .ok (.iconst 3, 1) := by decide +kernel
theorem dX0_reasonInField_98 : decode cX0_reasonInField 98 = .ok (.ireturn, 1) := by decide +kernel
theorem dX0_reasonInField_99 : decode cX0_reasonInField 99 = .ok (.aload 4, 2) := by decide +kernel
theorem dX0_reasonInField_101 : decode cX0_reasonInField 101 = .ok (.ifnull 40, 3) := by decide +kernel
theorem dX0_reasonInField_104 : decode cX0_reasonInField 104 = .ok (.ldc2_w 89, 3) := by decide +kernel
theorem dX0_reasonInField_107 : decode cX0_reasonInField 107 = .ok (.aload 4, 2) := by decide +kernel
theorem dX0_reasonInField_109 : decode cX0_reasonInField 109 = .ok (.getfield 91, 3) := by decide +kernel
theorem dX0_reasonInField_112 : decode cX0_reasonInField 112 = .ok (.i2l, 1) := by decide +kernel
theorem dX0_reasonInField_113 : decode cX0_reasonInField 113 = .ok (.lmul, 1) := by decide +kernel
theorem dX0_reasonInField_114 : decode cX0_reasonInField 114 = .ok (.aload_n 0, 1) := by decide +kernel
theorem dX0_reasonInField_115 : decode cX0_reasonInField 115 = .ok (.getfield 9, 3) := by decide +kernel
theorem dX0_reasonInField_118 : decode cX0_reasonInField 118 = .ok (.iconst 3, 1) := by decide +kernel
theorem dX0_reasonInField_119 : decode cX0_reasonInField 119 = .ok (.aload_n 1, 1) := by decide +kernel
theorem dX0_reasonInField_120 : decode cX0_reasonInField 120 = .ok (.getfield 64, 3) := by decide +kernel
theorem dX0_reasonInField_123 : decode cX0_reasonInField 123 = .ok (.iload_n 2, 1) := by decide +kernel
theorem dX0_reasonInField_124 : decode cX0_reasonInField 124 = .ok (.invokevirtual 67, 3) := by decide +kernel
theorem dX0_reasonInField_127 : decode cX0_reasonInField 127 = .ok (.i2l, 1) := by decide +kernel
theorem dX0_reasonInField_128 : decode cX0_reasonInField 128 = .ok (.aload 4, 2) := by decide +kernel
theorem dX0_reasonInField_130 : decode cX0_reasonInField 130 = .ok (.getfield 94, 3) := by decide +kernel
theorem dX0_reasonInField_133 : decode cX0_reasonInField 133 = .ok (.i2l, 1) := by decide +kernel
theorem dX0_reasonInField_134 : decode cX0_reasonInField 134 = .ok (.lmul, 1) := by decide +kernel
theorem dX0_reasonInField_135 : decode cX0_reasonInField 135 = .ok (.lcmp, 1) := by decide +kernel
theorem dX0_reasonInField_136 : decode cX0_reasonInField 136 = .ok (.ifCond .le 5, 3) := by decide +kernel
theorem dX0_reasonInField_139 : decode cX0_reasonInField 139 = .ok (.iconst 4, 1) := by decide +kernel
theorem dX0_reasonInField_140 : decode cX0_reasonInField 140 = .ok (.ireturn, 1) := by decide +kernel
theorem dX0_reasonInField_141 : decode cX0_reasonInField 141 = .ok (.aload_n 1, 1) := by decide +kernel
theorem dX0_reasonInField_142 : decode cX0_reasonInField 142 = .ok (.invokevirtual 48, 3) := by decide +kernel
theorem dX0_reasonInField_145 : decode cX0_reasonInField 145 = .ok (.iconst 1, 1) := by decide +kernel
theorem dX0_reasonInField_146 : decode cX0_reasonInField 146 = .ok (.iadd, 1) := by decide +kernel
theorem dX0_reasonInField_147 : decode cX0_reasonInField 147 = .ok (.aload_n 0, 1) := by decide +kernel
theorem dX0_reasonInField_148 : decode cX0_reasonInField 148 = .ok (.getfield 9, 3) := by decide +kernel
theorem dX0_reasonInField_151 : decode cX0_reasonInField 151 = .ok (.iconst 4, 1) := by decide +kernel
theorem dX0_reasonInField_152 : decode cX0_reasonInField 152 = .ok (.aload_n 1, 1) := by decide +kernel
theorem dX0_reasonInField_153 : decode cX0_reasonInField 153 = .ok (.getfield 64, 3) := by decide +kernel
theorem dX0_reasonInField_156 : decode cX0_reasonInField 156 = .ok (.iload_n 2, 1) := by decide +kernel
theorem dX0_reasonInField_157 : decode cX0_reasonInField 157 = .ok (.invokevirtual 67, 3) := by decide +kernel
theorem dX0_reasonInField_160 : decode cX0_reasonInField 160 = .ok (.if_icmp .le 7, 3) := by decide +kernel
theorem dX0_reasonInField_163 : decode cX0_reasonInField 163 = .ok (.iconst 1, 1) := by decide +kernel
theorem dX0_reasonInField_164 : decode cX0_reasonInField 164 = .ok (.goto 4, 3) := by decide +kernel
theorem dX0_reasonInField_167 : decode cX0_reasonInField 167 = .ok (.iconst 0, 1) := by decide +kernel
theorem dX0_reasonInField_168 : decode cX0_reasonInField 168 = .ok (.istore 6, 2) := by decide +kernel
theorem dX0_reasonInField_170 : decode cX0_reasonInField 170 = .ok (.iload 6, 2) := by decide +kernel
theorem dX0_reasonInField_172 : decode cX0_reasonInField 172 = .ok (.ifCond .eq 8, 3) := by decide +kernel
theorem dX0_reasonInField_175 : decode cX0_reasonInField 175 = .ok (.bipush 6, 2) := by decide +kernel
theorem dX0_reasonInField_177 : decode cX0_reasonInField 177 = .ok (.goto 4, 3) := by decide +kernel
theorem dX0_reasonInField_180 : decode cX0_reasonInField 180 = .ok (.iconst 0, 1) := by decide +kernel
theorem dX0_reasonInField_181 : decode cX0_reasonInField 181 = .ok (.ireturn, 1) := by decide +kernel
theorem dX0_isCrowded_0 : decode cX0_isCrowded 0 = .ok (.aload_n 0, 1) := by decide +kernel
theorem dX0_isCrowded_1 : decode cX0_isCrowded 1 = .ok (.getfield 9, 3) := by decide +kernel
theorem dX0_isCrowded_4 : decode cX0_isCrowded 4 = .ok (.iconst 0, 1) := by decide +kernel
theorem dX0_isCrowded_5 : decode cX0_isCrowded 5 = .ok (.aload_n 1, 1) := by decide +kernel
theorem dX0_isCrowded_6 : decode cX0_isCrowded 6 = .ok (.getfield 64, 3) := by decide +kernel
theorem dX0_isCrowded_9 : decode cX0_isCrowded 9 = .ok (.iload_n 2, 1) := by decide +kernel
theorem dX0_isCrowded_10 : decode cX0_isCrowded 10 = .ok (.invokevirtual 67, 3) := by decide +kernel
theorem dX0_isCrowded_13 : decode cX0_isCrowded 13 = .ok (.istore_n 3, 1) := by decide +kernel
theorem dX0_isCrowded_14 : decode cX0_isCrowded 14 = .ok (.iconst 0, 1) := by decide +kernel
theorem dX0_isCrowded_15 : decode cX0_isCrowded 15 = .ok (.istore 4, 2) := by decide +kernel
theorem dX0_isCrowded_17 : decode cX0_isCrowded 17 = .ok (.iload 4, 2) := by decide +kernel
theorem dX0_isCrowded_19 : decode cX0_isCrowded 19 = .ok (.aload_n 0, 1) := by decide +kernel
theorem dX0_isCrowded_20 : decode cX0_isCrowded 20 = .ok (.getfield 9, 3) := by decide +kernel
theorem dX0_isCrowded_23 : decode cX0_isCrowded 23 = .ok (.getfield 97, 3) := by decide +kernel
theorem dX0_isCrowded_26 : decode cX0_isCrowded 26 = .ok (.if_icmp .ge 85, 3) := by decide +kernel
theorem dX0_isCrowded_29 : decode cX0_isCrowded 29 = .ok (.aload_n 0, 1) := by decide +kernel
theorem dX0_isCrowded_30 : decode cX0_isCrowded 30 = .ok (.getfield 9, 3) := by decide +kernel
theorem dX0_isCrowded_33 : decode cX0_isCrowded 33 = .ok (.iload 4, 2) := by decide +kernel
theorem dX0_isCrowded_35 : decode cX0_isCrowded 35 = .ok (.invokevirtual 100, 3) := by decide +kernel
theorem dX0_isCrowded_38 : decode cX0_isCrowded 38 = .ok (.astore 5, 2) := by decide +kernel
theorem dX0_isCrowded_40 : decode cX0_isCrowded 40 = .ok (.aload 5, 2) := by decide +kernel
theorem dX0_isCrowded_42 : decode cX0_isCrowded 42 = .ok (.ifnull 63, 3) := by decide +kernel
theorem dX0_isCrowded_45 : decode cX0_isCrowded 45 = .ok (.aload 5, 2) := by decide +kernel
theorem dX0_isCrowded_47 : decode cX0_isCrowded 47 = .ok (.aload_n 1, 1) := by decide +kernel
theorem dX0_isCrowded_48 : decode cX0_isCrowded 48 = .ok (.getfield 56, 3) := by decide +kernel
theorem dX0_isCrowded_51 : decode cX0_isCrowded 51 = .ok (.if_acmp .eq 54, 3) := by decide +kernel
theorem dX0_isCrowded_54 : decode cX0_isCrowded 54 = .ok (.aload 5, 2) := by decide +kernel
theorem dX0_isCrowded_56 : decode cX0_isCrowded 56 = .ok (.aload_n 1, 1) := by decide +kernel
theorem dX0_isCrowded_57 : decode cX0_isCrowded 57 = .ok (.getfield 64, 3) := by decide +kernel
theorem dX0_isCrowded_60 : decode cX0_isCrowded 60 = .ok (.iload_n 2, 1) := by decide +kernel
theorem dX0_isCrowded_61 : decode cX0_isCrowded 61 = .ok (.invokevirtual 104, 3) := by decide +kernel
theorem dX0_isCrowded_64 : decode cX0_isCrowded 64 = .ok (.aload_n 1, 1) := by decide +kernel
theorem dX0_isCrowded_65 : decode cX0_isCrowded 65 = .ok (.getfield 71, 3) := by decide +kernel
theorem dX0_isCrowded_68 : decode cX0_isCrowded 68 = .ok (.if_icmp .ne 37, 3) := by decide +kernel
theorem dX0_isCrowded_71 : decode cX0_isCrowded 71 = .ok (.aload 5, 2) := by decide +kernel
theorem dX0_isCrowded_73 : decode cX0_isCrowded 73 = .ok (.aload_n 1, 1) := by decide +kernel
theorem dX0_isCrowded_74 : decode cX0_isCrowded 74 = .ok (.getfield 56, 3) := by decide +kernel
theorem dX0_isCrowded_77 : decode cX0_isCrowded 77 = .ok (.invokevirtual 108, 3) := by decide +kernel
theorem dX0_isCrowded_80 : decode cX0_isCrowded 80 = .ok (.iload_n 3, 1) := by decide +kernel
theorem dX0_isCrowded_81 : decode cX0_isCrowded 81 = .ok (.iload_n 3, 1) := by decide +kernel
theorem dX0_isCrowded_82 : decode cX0_isCrowded 82 = .ok (.imul, 1) := by decide +kernel
theorem dX0_isCrowded_83 : decode cX0_isCrowded 83 = .ok (.if_icmp .ge 22, 3) := by decide +kernel
theorem dX0_isCrowded_86 : decode cX0_isCrowded 86 = .ok (.aload_n 0, 1) := by decide +kernel
theorem dX0_isCrowded_87 : decode cX0_isCrowded 87 = .ok (.aload 5, 2) := by decide +kernel
theorem dX0_isCrowded_89 : decode cX0_isCrowded 89 = .ok (.aload_n 1, 1) := by decide +kernel
theorem dX0_isCrowded_90 : decode cX0_isCrowded 90 = .ok (.getfield 64, 3) := by decide +kernel
theorem dX0_isCrowded_93 : decode cX0_isCrowded 93 = .ok (.invokevirtual 112, 3) := by decide +kernel
theorem dX0_isCrowded_96 : decode cX0_isCrowded 96 = .ok (.aload_n 1, 1) := by decide +kernel
theorem dX0_isCrowded_97 : decode cX0_isCrowded 97 = .ok (.invokevirtual 115, 3) := by decide +kernel
theorem dX0_isCrowded_100 : decode cX0_isCrowded 100 = .ok (.ifCond .ne 5, 3) := by decide +kernel
theorem dX0_isCrowded_103 : decode cX0_isCrowded 103 = .ok (.iconst 1, 1) := by decide +kernel
theorem dX0_isCrowded_104 : decode cX0_isCrowded 104 = .ok (.ireturn, 1) := by decide +kernel
theorem dX0_isCrowded_105 : decode cX0_isCrowded 105 = .ok (.iinc 4 1, 3) := by decide +kernel
theorem dX0_isCrowded_108 : decode cX0_isCrowded 108 = .ok (.goto (-91), 3) := by decide +kernel
theorem dX0_isCrowded_111 : decode cX0_isCrowded 111 = .ok (.iconst 0, 1) := by decide +kernel
theorem dX0_isCrowded_112 : decode cX0_isCrowded 112 = .ok (.ireturn, 1) := by decide +kernel
theorem dX0_isAsGood_0 : decode cX0_isAsGood 0 = .ok (.aload_n 1, 1) := by decide +kernel
theorem dX0_isAsGood_1 : decode cX0_isAsGood 1 = .ok (.ifnull 18, 3) := by decide +kernel
theorem dX0_isAsGood_4 : decode cX0_isAsGood 4 = .ok (.aload_n 1, 1) := by decide +kernel
theorem dX0_isAsGood_5 : decode cX0_isAsGood 5 = .ok (.invokevirtual 48, 3) := by decide +kernel
theorem dX0_isAsGood_8 : decode cX0_isAsGood 8 = .ok (.aload_n 2, 1) := by decide +kernel
theorem dX0_isAsGood_9 : decode cX0_isAsGood 9 = .ok (.invokevirtual 48, 3) := by decide +kernel
theorem dX0_isAsGood_12 : decode cX0_isAsGood 12 = .ok (.if_icmp .gt 7, 3) := by decide +kernel
theorem dX0_isAsGood_15 : decode cX0_isAsGood 15 = .ok (.iconst 1, 1) := by decide +kernel
theorem dX0_isAsGood_16 : decode cX0_isAsGood 16 = .ok (.goto 4, 3) := by decide +kernel
theorem dX0_isAsGood_19 : decode cX0_isAsGood 19 = .ok (.iconst 0, 1) := by decide +kernel
theorem dX0_isAsGood_20 : decode cX0_isAsGood 20 = .ok (.ireturn, 1) := by decide +kernel
theorem dX1_init_0 : decode cX1_init 0 = .ok (.aload_n 0, 1) := by decide +kernel
theorem dX1_init_1 : decode cX1_init 1 = .ok (.invokespecial 3, 3) := by decide +kernel
theorem dX1_init_4 : decode cX1_init 4 = .ok (.aload_n 0, 1) := by decide +kernel
theorem dX1_init_5 : decode cX1_init 5 = .ok (.iconst (-1), 1) := by decide +kernel
theorem dX1_init_6 : decode cX1_init 6 = .ok (.putfield 9, 3) := by decide +kernel
theorem dX1_init_9 : decode cX1_init 9 = .ok (.aload_n 0, 1) := by decide +kernel
theorem dX1_init_10 : decode cX1_init 10 = .ok (.aload_n 1, 1) := by decide +kernel
theorem dX1_init_11 : decode cX1_init 11 = .ok (.putfield 15, 3) := by decide +kernel
theorem dX1_init_14 : decode cX1_init 14 = .ok (.aload_n 0, 1) := by decide +kernel
theorem dX1_init_15 : decode cX1_init 15 = .ok (.iload_n 2, 1) := by decide +kernel
theorem dX1_init_16 : decode cX1_init 16 = .ok (.putfield 19, 3) := by decide +kernel
theorem dX1_init_19 : decode cX1_init 19 = .ok (.aload_n 0, 1) := by decide +kernel
theorem dX1_init_20 : decode cX1_init 20 = .ok (.iload_n 3, 1) := by decide +kernel
theorem dX1_init_21 : decode cX1_init 21 = .ok (.putfield 22, 3) := by decide +kernel
theorem dX1_init_24 : decode cX1_init 24 = .ok (.return_, 1) := by decide +kernel
theorem dX1_isOpened_0 : decode cX1_isOpened 0 = .ok (.aload_n 0, 1) := by decide +kernel
theorem dX1_isOpened_1 : decode cX1_isOpened 1 = .ok (.getfield 22, 3) := by decide +kernel
theorem dX1_isOpened_4 : decode cX1_isOpened 4 = .ok (.ifCond .ne 7, 3) := by decide +kernel
theorem dX1_isOpened_7 : decode cX1_isOpened 7 = .ok (.iconst 1, 1) := by decide +kernel
theorem dX1_isOpened_8 : decode cX1_isOpened 8 = .ok (.goto 4, 3) := by decide +kernel
theorem dX1_isOpened_11 : decode cX1_isOpened 11 = .ok (.iconst 0, 1) := by decide +kernel
theorem dX1_isOpened_12 : decode cX1_isOpened 12 = .ok (.ireturn, 1) := by decide +kernel
theorem dX1_isSold_0 : decode cX1_isSold 0 = .ok (.aload_n 0, 1) := by decide +kernel
theorem dX1_isSold_1 : decode cX1_isSold 1 = .ok (.getfield 9, 3) := by decide +kernel
theorem dX1_isSold_4 : decode cX1_isSold 4 = .ok (.iconst (-1), 1) := by decide +kernel
theorem dX1_isSold_5 : decode cX1_isSold 5 = .ok (.if_icmp .eq 7, 3) := by decide +kernel
theorem dX1_isSold_8 : decode cX1_isSold 8 = .ok (.iconst 1, 1) := by decide +kernel
theorem dX1_isSold_9 : decode cX1_isSold 9 = .ok (.goto 4, 3) := by decide +kernel
theorem dX1_isSold_12 : decode cX1_isSold 12 = .ok (.iconst 0, 1) := by decide +kernel
theorem dX1_isSold_13 : decode cX1_isSold 13 = .ok (.ireturn, 1) := by decide +kernel
theorem dX1_about_0 : decode cX1_about 0 = .ok (.iload_n 1, 1) := by decide +kernel
theorem dX1_about_1 : decode cX1_about 1 = .ok (.tableswitch 54 0 3 #[31, 39, 44, 49], 31) := by decide +kernel
theorem dX1_about_32 : decode cX1_about 32 = .ok (.aload_n 0, 1) := by decide +kernel
theorem dX1_about_33 : decode cX1_about 33 = .ok (.getfield 15, 3) := by decide +kernel
theorem dX1_about_36 : decode cX1_about 36 = .ok (.getfield 25, 3) := by decide +kernel
theorem dX1_about_39 : decode cX1_about 39 = .ok (.ireturn, 1) := by decide +kernel
theorem dX1_about_40 : decode cX1_about 40 = .ok (.aload_n 0, 1) := by decide +kernel
theorem dX1_about_41 : decode cX1_about 41 = .ok (.getfield 19, 3) := by decide +kernel
theorem dX1_about_44 : decode cX1_about 44 = .ok (.ireturn, 1) := by decide +kernel
theorem dX1_about_45 : decode cX1_about 45 = .ok (.aload_n 0, 1) := by decide +kernel
theorem dX1_about_46 : decode cX1_about 46 = .ok (.getfield 22, 3) := by decide +kernel
theorem dX1_about_49 : decode cX1_about 49 = .ok (.ireturn, 1) := by decide +kernel
theorem dX1_about_50 : decode cX1_about 50 = .ok (.aload_n 0, 1) := by decide +kernel
theorem dX1_about_51 : decode cX1_about 51 = .ok (.getfield 9, 3) := by decide +kernel
theorem dX1_about_54 : decode cX1_about 54 = .ok (.ireturn, 1) := by decide +kernel
theorem dX1_about_55 : decode cX1_about 55 = .ok (.iconst (-1), 1) := by decide +kernel
theorem dX1_about_56 : decode cX1_about 56 = .ok (.ireturn, 1) := by decide +kernel
theorem dX2_init_0 : decode cX2_init 0 = .ok (.aload_n 0, 1) := by decide +kernel
theorem dX2_init_1 : decode cX2_init 1 = .ok (.invokespecial 3, 3) := by decide +kernel
theorem dX2_init_4 : decode cX2_init 4 = .ok (.aload_n 0, 1) := by decide +kernel
theorem dX2_init_5 : decode cX2_init 5 = .ok (.iconst 0, 1) := by decide +kernel
theorem dX2_init_6 : decode cX2_init 6 = .ok (.putfield 9, 3) := by decide +kernel
theorem dX2_init_9 : decode cX2_init 9 = .ok (.aload_n 0, 1) := by decide +kernel
theorem dX2_init_10 : decode cX2_init 10 = .ok (.bipush 40, 2) := by decide +kernel
theorem dX2_init_12 : decode cX2_init 12 = .ok (.anewarray 15, 3) := by decide +kernel
theorem dX2_init_15 : decode cX2_init 15 = .ok (.putfield 17, 3) := by decide +kernel
theorem dX2_init_18 : decode cX2_init 18 = .ok (.aload_n 0, 1) := by decide +kernel
theorem dX2_init_19 : decode cX2_init 19 = .ok (.iconst 0, 1) := by decide +kernel
theorem dX2_init_20 : decode cX2_init 20 = .ok (.putfield 21, 3) := by decide +kernel
theorem dX2_init_23 : decode cX2_init 23 = .ok (.aload_n 0, 1) := by decide +kernel
theorem dX2_init_24 : decode cX2_init 24 = .ok (.sipush 200, 3) := by decide +kernel
theorem dX2_init_27 : decode cX2_init 27 = .ok (.anewarray 24, 3) := by decide +kernel
theorem dX2_init_30 : decode cX2_init 30 = .ok (.putfield 26, 3) := by decide +kernel
theorem dX2_init_33 : decode cX2_init 33 = .ok (.aload_n 0, 1) := by decide +kernel
theorem dX2_init_34 : decode cX2_init 34 = .ok (.iconst 0, 1) := by decide +kernel
theorem dX2_init_35 : decode cX2_init 35 = .ok (.putfield 30, 3) := by decide +kernel
theorem dX2_init_38 : decode cX2_init 38 = .ok (.aload_n 0, 1) := by decide +kernel
theorem dX2_init_39 : decode cX2_init 39 = .ok (.sipush 200, 3) := by decide +kernel
theorem dX2_init_42 : decode cX2_init 42 = .ok (.anewarray 33, 3) := by decide +kernel
theorem dX2_init_45 : decode cX2_init 45 = .ok (.putfield 35, 3) := by decide +kernel
theorem dX2_init_48 : decode cX2_init 48 = .ok (.aload_n 0, 1) := by decide +kernel
theorem dX2_init_49 : decode cX2_init 49 = .ok (.iconst 0, 1) := by decide +kernel
theorem dX2_init_50 : decode cX2_init 50 = .ok (.putfield 39, 3) := by decide +kernel
theorem dX2_init_53 : decode cX2_init 53 = .ok (.aload_n 0, 1) := by decide +kernel
theorem dX2_init_54 : decode cX2_init 54 = .ok (.iconst 0, 1) := by decide +kernel
theorem dX2_init_55 : decode cX2_init 55 = .ok (.putfield 42, 3) := by decide +kernel
theorem dX2_init_58 : decode cX2_init 58 = .ok (.aload_n 0, 1) := by decide +kernel
theorem dX2_init_59 : decode cX2_init 59 = .ok (.getstatic 45, 3) := by decide +kernel
theorem dX2_init_62 : decode cX2_init 62 = .ok (.arraylength, 1) := by decide +kernel
theorem dX2_init_63 : decode cX2_init 63 = .ok (.anewarray 49, 3) := by decide +kernel
theorem dX2_init_66 : decode cX2_init 66 = .ok (.putfield 51, 3) := by decide +kernel
theorem dX2_init_69 : decode cX2_init 69 = .ok (.aload_n 0, 1) := by decide +kernel
theorem dX2_init_70 : decode cX2_init 70 = .ok (.iconst 0, 1) := by decide +kernel
theorem dX2_init_71 : decode cX2_init 71 = .ok (.putfield 55, 3) := by decide +kernel
theorem dX2_init_74 : decode cX2_init 74 = .ok (.aload_n 0, 1) := by decide +kernel
theorem dX2_init_75 : decode cX2_init 75 = .ok (.iconst 0, 1) := by decide +kernel
theorem dX2_init_76 : decode cX2_init 76 = .ok (.putfield 58, 3) := by decide +kernel
theorem dX2_init_79 : decode cX2_init 79 = .ok (.aload_n 0, 1) := by decide +kernel
theorem dX2_init_80 : decode cX2_init 80 = .ok (.iconst 0, 1) := by decide +kernel
theorem dX2_init_81 : decode cX2_init 81 = .ok (.putfield 61, 3) := by decide +kernel
theorem dX2_init_84 : decode cX2_init 84 = .ok (.return_, 1) := by decide +kernel
theorem dX2_fieldAt_0 : decode cX2_fieldAt 0 = .ok (.iload_n 1, 1) := by decide +kernel
theorem dX2_fieldAt_1 : decode cX2_fieldAt 1 = .ok (.ifCond .lt 29, 3) := by decide +kernel
theorem dX2_fieldAt_4 : decode cX2_fieldAt 4 = .ok (.iload_n 1, 1) := by decide +kernel
theorem dX2_fieldAt_5 : decode cX2_fieldAt 5 = .ok (.aload_n 0, 1) := by decide +kernel
theorem dX2_fieldAt_6 : decode cX2_fieldAt 6 = .ok (.getfield 21, 3) := by decide +kernel
theorem dX2_fieldAt_9 : decode cX2_fieldAt 9 = .ok (.if_icmp .ge 21, 3) := by decide +kernel
theorem dX2_fieldAt_12 : decode cX2_fieldAt 12 = .ok (.iload_n 1, 1) := by decide +kernel
theorem dX2_fieldAt_13 : decode cX2_fieldAt 13 = .ok (.aload_n 0, 1) := by decide +kernel
theorem dX2_fieldAt_14 : decode cX2_fieldAt 14 = .ok (.getfield 17, 3) := by decide +kernel
theorem dX2_fieldAt_17 : decode cX2_fieldAt 17 = .ok (.arraylength, 1) := by decide +kernel
theorem dX2_fieldAt_18 : decode cX2_fieldAt 18 = .ok (.if_icmp .ge 12, 3) := by decide +kernel
theorem dX2_fieldAt_21 : decode cX2_fieldAt 21 = .ok (.aload_n 0, 1) := by decide +kernel
theorem dX2_fieldAt_22 : decode cX2_fieldAt 22 = .ok (.getfield 17, 3) := by decide +kernel
theorem dX2_fieldAt_25 : decode cX2_fieldAt 25 = .ok (.iload_n 1, 1) := by decide +kernel
theorem dX2_fieldAt_26 : decode cX2_fieldAt 26 = .ok (.aaload, 1) := by decide +kernel
theorem dX2_fieldAt_27 : decode cX2_fieldAt 27 = .ok (.goto 4, 3) := by decide +kernel
theorem dX2_fieldAt_30 : decode cX2_fieldAt 30 = .ok (.aconst_null, 1) := by decide +kernel
theorem dX2_fieldAt_31 : decode cX2_fieldAt 31 = .ok (.areturn, 1) := by decide +kernel
theorem dX2_lotAt_0 : decode cX2_lotAt 0 = .ok (.iload_n 1, 1) := by decide +kernel
theorem dX2_lotAt_1 : decode cX2_lotAt 1 = .ok (.ifCond .lt 29, 3) := by decide +kernel
theorem dX2_lotAt_4 : decode cX2_lotAt 4 = .ok (.iload_n 1, 1) := by decide +kernel
theorem dX2_lotAt_5 : decode cX2_lotAt 5 = .ok (.aload_n 0, 1) := by decide +kernel
theorem dX2_lotAt_6 : decode cX2_lotAt 6 = .ok (.getfield 30, 3) := by decide +kernel
theorem dX2_lotAt_9 : decode cX2_lotAt 9 = .ok (.if_icmp .ge 21, 3) := by decide +kernel
theorem dX2_lotAt_12 : decode cX2_lotAt 12 = .ok (.iload_n 1, 1) := by decide +kernel
theorem dX2_lotAt_13 : decode cX2_lotAt 13 = .ok (.aload_n 0, 1) := by decide +kernel
theorem dX2_lotAt_14 : decode cX2_lotAt 14 = .ok (.getfield 26, 3) := by decide +kernel
theorem dX2_lotAt_17 : decode cX2_lotAt 17 = .ok (.arraylength, 1) := by decide +kernel
theorem dX2_lotAt_18 : decode cX2_lotAt 18 = .ok (.if_icmp .ge 12, 3) := by decide +kernel
theorem dX2_lotAt_21 : decode cX2_lotAt 21 = .ok (.aload_n 0, 1) := by decide +kernel
theorem dX2_lotAt_22 : decode cX2_lotAt 22 = .ok (.getfield 26, 3) := by decide +kernel
theorem dX2_lotAt_25 : decode cX2_lotAt 25 = .ok (.iload_n 1, 1) := by decide +kernel
theorem dX2_lotAt_26 : decode cX2_lotAt 26 = .ok (.aaload, 1) := by decide +kernel
theorem dX2_lotAt_27 : decode cX2_lotAt 27 = .ok (.goto 4, 3) := by decide +kernel
theorem dX2_lotAt_30 : decode cX2_lotAt 30 = .ok (.aconst_null, 1) := by decide +kernel
theorem dX2_lotAt_31 : decode cX2_lotAt 31 = .ok (.areturn, 1) := by decide +kernel
theorem dX2_bagAt_0 : decode cX2_bagAt 0 = .ok (.iload_n 1, 1) := by decide +kernel
theorem dX2_bagAt_1 : decode cX2_bagAt 1 = .ok (.ifCond .lt 29, 3) := by decide +kernel
theorem dX2_bagAt_4 : decode cX2_bagAt 4 = .ok (.iload_n 1, 1) := by decide +kernel
theorem dX2_bagAt_5 : decode cX2_bagAt 5 = .ok (.aload_n 0, 1) := by decide +kernel
theorem dX2_bagAt_6 : decode cX2_bagAt 6 = .ok (.getfield 39, 3) := by decide +kernel
theorem dX2_bagAt_9 : decode cX2_bagAt 9 = .ok (.if_icmp .ge 21, 3) := by decide +kernel
theorem dX2_bagAt_12 : decode cX2_bagAt 12 = .ok (.iload_n 1, 1) := by decide +kernel
theorem dX2_bagAt_13 : decode cX2_bagAt 13 = .ok (.aload_n 0, 1) := by decide +kernel
theorem dX2_bagAt_14 : decode cX2_bagAt 14 = .ok (.getfield 35, 3) := by decide +kernel
theorem dX2_bagAt_17 : decode cX2_bagAt 17 = .ok (.arraylength, 1) := by decide +kernel
theorem dX2_bagAt_18 : decode cX2_bagAt 18 = .ok (.if_icmp .ge 12, 3) := by decide +kernel
theorem dX2_bagAt_21 : decode cX2_bagAt 21 = .ok (.aload_n 0, 1) := by decide +kernel
theorem dX2_bagAt_22 : decode cX2_bagAt 22 = .ok (.getfield 35, 3) := by decide +kernel
theorem dX2_bagAt_25 : decode cX2_bagAt 25 = .ok (.iload_n 1, 1) := by decide +kernel
theorem dX2_bagAt_26 : decode cX2_bagAt 26 = .ok (.aaload, 1) := by decide +kernel
theorem dX2_bagAt_27 : decode cX2_bagAt 27 = .ok (.goto 4, 3) := by decide +kernel
theorem dX2_bagAt_30 : decode cX2_bagAt 30 = .ok (.aconst_null, 1) := by decide +kernel
theorem dX2_bagAt_31 : decode cX2_bagAt 31 = .ok (.areturn, 1) := by decide +kernel
theorem dX2_addField_0 : decode cX2_addField 0 = .ok (.aload_n 0, 1) := by decide +kernel
theorem dX2_addField_1 : decode cX2_addField 1 = .ok (.getfield 21, 3) := by decide +kernel
theorem dX2_addField_4 : decode cX2_addField 4 = .ok (.aload_n 0, 1) := by decide +kernel
theorem dX2_addField_5 : decode cX2_addField 5 = .ok (.getfield 17, 3) := by decide +kernel
theorem dX2_addField_8 : decode cX2_addField 8 = .ok (.arraylength, 1) := by decide +kernel
theorem dX2_addField_9 : decode cX2_addField 9 = .ok (.if_icmp .lt 5, 3) := by decide +kernel
theorem dX2_addField_12 : decode cX2_addField 12 = .ok (.iconst (-1), 1) := by decide +kernel
theorem dX2_addField_13 : decode cX2_addField 13 = .ok (.ireturn, 1) := by decide +kernel
theorem dX2_addField_14 : decode cX2_addField 14 = .ok (.aload_n 0, 1) := by decide +kernel
theorem dX2_addField_15 : decode cX2_addField 15 = .ok (.getfield 17, 3) := by decide +kernel
theorem dX2_addField_18 : decode cX2_addField 18 = .ok (.aload_n 0, 1) := by decide +kernel
theorem dX2_addField_19 : decode cX2_addField 19 = .ok (.getfield 21, 3) := by decide +kernel
theorem dX2_addField_22 : decode cX2_addField 22 = .ok (.aload_n 1, 1) := by decide +kernel
theorem dX2_addField_23 : decode cX2_addField 23 = .ok (.aastore, 1) := by decide +kernel
theorem dX2_addField_24 : decode cX2_addField 24 = .ok (.aload_n 0, 1) := by decide +kernel
theorem dX2_addField_25 : decode cX2_addField 25 = .ok (.dup, 1) := by decide +kernel
theorem dX2_addField_26 : decode cX2_addField 26 = .ok (.getfield 21, 3) := by decide +kernel
theorem dX2_addField_29 : decode cX2_addField 29 = .ok (.iconst 1, 1) := by decide +kernel
theorem dX2_addField_30 : decode cX2_addField 30 = .ok (.iadd, 1) := by decide +kernel
theorem dX2_addField_31 : decode cX2_addField 31 = .ok (.putfield 21, 3) := by decide +kernel
theorem dX2_addField_34 : decode cX2_addField 34 = .ok (.aload_n 0, 1) := by decide +kernel
theorem dX2_addField_35 : decode cX2_addField 35 = .ok (.getfield 21, 3) := by decide +kernel
theorem dX2_addField_38 : decode cX2_addField 38 = .ok (.iconst 1, 1) := by decide +kernel
theorem dX2_addField_39 : decode cX2_addField 39 = .ok (.isub, 1) := by decide +kernel
theorem dX2_addField_40 : decode cX2_addField 40 = .ok (.ireturn, 1) := by decide +kernel
theorem dX2_addLot_0 : decode cX2_addLot 0 = .ok (.aload_n 0, 1) := by decide +kernel
theorem dX2_addLot_1 : decode cX2_addLot 1 = .ok (.getfield 30, 3) := by decide +kernel
theorem dX2_addLot_4 : decode cX2_addLot 4 = .ok (.aload_n 0, 1) := by decide +kernel
theorem dX2_addLot_5 : decode cX2_addLot 5 = .ok (.getfield 26, 3) := by decide +kernel
theorem dX2_addLot_8 : decode cX2_addLot 8 = .ok (.arraylength, 1) := by decide +kernel
theorem dX2_addLot_9 : decode cX2_addLot 9 = .ok (.if_icmp .lt 5, 3) := by decide +kernel
theorem dX2_addLot_12 : decode cX2_addLot 12 = .ok (.iconst (-1), 1) := by decide +kernel
theorem dX2_addLot_13 : decode cX2_addLot 13 = .ok (.ireturn, 1) := by decide +kernel
theorem dX2_addLot_14 : decode cX2_addLot 14 = .ok (.aload_n 0, 1) := by decide +kernel
theorem dX2_addLot_15 : decode cX2_addLot 15 = .ok (.getfield 26, 3) := by decide +kernel
theorem dX2_addLot_18 : decode cX2_addLot 18 = .ok (.aload_n 0, 1) := by decide +kernel
theorem dX2_addLot_19 : decode cX2_addLot 19 = .ok (.getfield 30, 3) := by decide +kernel
theorem dX2_addLot_22 : decode cX2_addLot 22 = .ok (.aload_n 1, 1) := by decide +kernel
theorem dX2_addLot_23 : decode cX2_addLot 23 = .ok (.aastore, 1) := by decide +kernel
theorem dX2_addLot_24 : decode cX2_addLot 24 = .ok (.aload_n 0, 1) := by decide +kernel
theorem dX2_addLot_25 : decode cX2_addLot 25 = .ok (.dup, 1) := by decide +kernel
theorem dX2_addLot_26 : decode cX2_addLot 26 = .ok (.getfield 30, 3) := by decide +kernel
theorem dX2_addLot_29 : decode cX2_addLot 29 = .ok (.iconst 1, 1) := by decide +kernel
theorem dX2_addLot_30 : decode cX2_addLot 30 = .ok (.iadd, 1) := by decide +kernel
theorem dX2_addLot_31 : decode cX2_addLot 31 = .ok (.putfield 30, 3) := by decide +kernel
theorem dX2_addLot_34 : decode cX2_addLot 34 = .ok (.aload_n 0, 1) := by decide +kernel
theorem dX2_addLot_35 : decode cX2_addLot 35 = .ok (.getfield 30, 3) := by decide +kernel
theorem dX2_addLot_38 : decode cX2_addLot 38 = .ok (.iconst 1, 1) := by decide +kernel
theorem dX2_addLot_39 : decode cX2_addLot 39 = .ok (.isub, 1) := by decide +kernel
theorem dX2_addLot_40 : decode cX2_addLot 40 = .ok (.ireturn, 1) := by decide +kernel
theorem dX2_addBag_0 : decode cX2_addBag 0 = .ok (.aload_n 0, 1) := by decide +kernel
theorem dX2_addBag_1 : decode cX2_addBag 1 = .ok (.getfield 39, 3) := by decide +kernel
theorem dX2_addBag_4 : decode cX2_addBag 4 = .ok (.aload_n 0, 1) := by decide +kernel
theorem dX2_addBag_5 : decode cX2_addBag 5 = .ok (.getfield 35, 3) := by decide +kernel
theorem dX2_addBag_8 : decode cX2_addBag 8 = .ok (.arraylength, 1) := by decide +kernel
theorem dX2_addBag_9 : decode cX2_addBag 9 = .ok (.if_icmp .lt 5, 3) := by decide +kernel
theorem dX2_addBag_12 : decode cX2_addBag 12 = .ok (.iconst (-1), 1) := by decide +kernel
theorem dX2_addBag_13 : decode cX2_addBag 13 = .ok (.ireturn, 1) := by decide +kernel
theorem dX2_addBag_14 : decode cX2_addBag 14 = .ok (.aload_n 0, 1) := by decide +kernel
theorem dX2_addBag_15 : decode cX2_addBag 15 = .ok (.getfield 35, 3) := by decide +kernel
theorem dX2_addBag_18 : decode cX2_addBag 18 = .ok (.aload_n 0, 1) := by decide +kernel
theorem dX2_addBag_19 : decode cX2_addBag 19 = .ok (.getfield 39, 3) := by decide +kernel
theorem dX2_addBag_22 : decode cX2_addBag 22 = .ok (.aload_n 1, 1) := by decide +kernel
theorem dX2_addBag_23 : decode cX2_addBag 23 = .ok (.aastore, 1) := by decide +kernel
theorem dX2_addBag_24 : decode cX2_addBag 24 = .ok (.aload_n 0, 1) := by decide +kernel
theorem dX2_addBag_25 : decode cX2_addBag 25 = .ok (.dup, 1) := by decide +kernel
theorem dX2_addBag_26 : decode cX2_addBag 26 = .ok (.getfield 39, 3) := by decide +kernel
theorem dX2_addBag_29 : decode cX2_addBag 29 = .ok (.iconst 1, 1) := by decide +kernel
theorem dX2_addBag_30 : decode cX2_addBag 30 = .ok (.iadd, 1) := by decide +kernel
theorem dX2_addBag_31 : decode cX2_addBag 31 = .ok (.putfield 39, 3) := by decide +kernel
theorem dX2_addBag_34 : decode cX2_addBag 34 = .ok (.aload_n 0, 1) := by decide +kernel
theorem dX2_addBag_35 : decode cX2_addBag 35 = .ok (.getfield 39, 3) := by decide +kernel
theorem dX2_addBag_38 : decode cX2_addBag 38 = .ok (.iconst 1, 1) := by decide +kernel
theorem dX2_addBag_39 : decode cX2_addBag 39 = .ok (.isub, 1) := by decide +kernel
theorem dX2_addBag_40 : decode cX2_addBag 40 = .ok (.ireturn, 1) := by decide +kernel
theorem dX2_nextSeal_0 : decode cX2_nextSeal 0 = .ok (.aload_n 0, 1) := by decide +kernel
theorem dX2_nextSeal_1 : decode cX2_nextSeal 1 = .ok (.dup, 1) := by decide +kernel
theorem dX2_nextSeal_2 : decode cX2_nextSeal 2 = .ok (.getfield 42, 3) := by decide +kernel
theorem dX2_nextSeal_5 : decode cX2_nextSeal 5 = .ok (.iconst 1, 1) := by decide +kernel
theorem dX2_nextSeal_6 : decode cX2_nextSeal 6 = .ok (.iadd, 1) := by decide +kernel
theorem dX2_nextSeal_7 : decode cX2_nextSeal 7 = .ok (.putfield 42, 3) := by decide +kernel
theorem dX2_nextSeal_10 : decode cX2_nextSeal 10 = .ok (.aload_n 0, 1) := by decide +kernel
theorem dX2_nextSeal_11 : decode cX2_nextSeal 11 = .ok (.getfield 42, 3) := by decide +kernel
theorem dX2_nextSeal_14 : decode cX2_nextSeal 14 = .ok (.ireturn, 1) := by decide +kernel
theorem dX2_addStatute_0 : decode cX2_addStatute 0 = .ok (.aload_n 0, 1) := by decide +kernel
theorem dX2_addStatute_1 : decode cX2_addStatute 1 = .ok (.getfield 55, 3) := by decide +kernel
theorem dX2_addStatute_4 : decode cX2_addStatute 4 = .ok (.bipush 100, 2) := by decide +kernel
theorem dX2_addStatute_6 : decode cX2_addStatute 6 = .ok (.if_icmp .ge 16, 3) := by decide +kernel
theorem dX2_addStatute_9 : decode cX2_addStatute 9 = .ok (.iload_n 1, 1) := by decide +kernel
theorem dX2_addStatute_10 : decode cX2_addStatute 10 = .ok (.ifCond .lt 12, 3) := by decide +kernel
theorem dX2_addStatute_13 : decode cX2_addStatute 13 = .ok (.iload_n 1, 1) := by decide +kernel
theorem dX2_addStatute_14 : decode cX2_addStatute 14 = .ok (.aload_n 0, 1) := by decide +kernel
theorem dX2_addStatute_15 : decode cX2_addStatute 15 = .ok (.getfield 51, 3) := by decide +kernel
theorem dX2_addStatute_18 : decode cX2_addStatute 18 = .ok (.arraylength, 1) := by decide +kernel
theorem dX2_addStatute_19 : decode cX2_addStatute 19 = .ok (.if_icmp .lt 5, 3) := by decide +kernel
theorem dX2_addStatute_22 : decode cX2_addStatute 22 = .ok (.iconst (-1), 1) := by decide +kernel
theorem dX2_addStatute_23 : decode cX2_addStatute 23 = .ok (.ireturn, 1) := by decide +kernel
theorem dX2_addStatute_24 : decode cX2_addStatute 24 = .ok (.aload_n 0, 1) := by decide +kernel
theorem dX2_addStatute_25 : decode cX2_addStatute 25 = .ok (.getfield 51, 3) := by decide +kernel
theorem dX2_addStatute_28 : decode cX2_addStatute 28 = .ok (.iload_n 1, 1) := by decide +kernel
theorem dX2_addStatute_29 : decode cX2_addStatute 29 = .ok (.new 49, 3) := by decide +kernel
theorem dX2_addStatute_32 : decode cX2_addStatute 32 = .ok (.dup, 1) := by decide +kernel
theorem dX2_addStatute_33 : decode cX2_addStatute 33 = .ok (.aload_n 0, 1) := by decide +kernel
theorem dX2_addStatute_34 : decode cX2_addStatute 34 = .ok (.getfield 51, 3) := by decide +kernel
theorem dX2_addStatute_37 : decode cX2_addStatute 37 = .ok (.iload_n 1, 1) := by decide +kernel
theorem dX2_addStatute_38 : decode cX2_addStatute 38 = .ok (.aaload, 1) := by decide +kernel
theorem dX2_addStatute_39 : decode cX2_addStatute 39 = .ok (.aload_n 0, 1) := by decide +kernel
theorem dX2_addStatute_40 : decode cX2_addStatute 40 = .ok (.getfield 9, 3) := by decide +kernel
theorem dX2_addStatute_43 : decode cX2_addStatute 43 = .ok (.iload_n 2, 1) := by decide +kernel
theorem dX2_addStatute_44 : decode cX2_addStatute 44 = .ok (.iload_n 3, 1) := by decide +kernel
theorem dX2_addStatute_45 : decode cX2_addStatute 45 = .ok (.invokespecial 64, 3) := by decide +kernel
theorem dX2_addStatute_48 : decode cX2_addStatute 48 = .ok (.aastore, 1) := by decide +kernel
theorem dX2_addStatute_49 : decode cX2_addStatute 49 = .ok (.aload_n 0, 1) := by decide +kernel
theorem dX2_addStatute_50 : decode cX2_addStatute 50 = .ok (.dup, 1) := by decide +kernel
theorem dX2_addStatute_51 : decode cX2_addStatute 51 = .ok (.getfield 55, 3) := by decide +kernel
theorem dX2_addStatute_54 : decode cX2_addStatute 54 = .ok (.iconst 1, 1) := by decide +kernel
theorem dX2_addStatute_55 : decode cX2_addStatute 55 = .ok (.iadd, 1) := by decide +kernel
theorem dX2_addStatute_56 : decode cX2_addStatute 56 = .ok (.putfield 55, 3) := by decide +kernel
theorem dX2_addStatute_59 : decode cX2_addStatute 59 = .ok (.aload_n 0, 1) := by decide +kernel
theorem dX2_addStatute_60 : decode cX2_addStatute 60 = .ok (.getfield 55, 3) := by decide +kernel
theorem dX2_addStatute_63 : decode cX2_addStatute 63 = .ok (.ireturn, 1) := by decide +kernel
theorem dX2_inForce_0 : decode cX2_inForce 0 = .ok (.iload_n 1, 1) := by decide +kernel
theorem dX2_inForce_1 : decode cX2_inForce 1 = .ok (.ifCond .lt 20, 3) := by decide +kernel
theorem dX2_inForce_4 : decode cX2_inForce 4 = .ok (.iload_n 1, 1) := by decide +kernel
theorem dX2_inForce_5 : decode cX2_inForce 5 = .ok (.aload_n 0, 1) := by decide +kernel
theorem dX2_inForce_6 : decode cX2_inForce 6 = .ok (.getfield 51, 3) := by decide +kernel
theorem dX2_inForce_9 : decode cX2_inForce 9 = .ok (.arraylength, 1) := by decide +kernel
theorem dX2_inForce_10 : decode cX2_inForce 10 = .ok (.if_icmp .ge 11, 3) := by decide +kernel
theorem dX2_inForce_13 : decode cX2_inForce 13 = .ok (.iload_n 1, 1) := by decide +kernel
theorem dX2_inForce_14 : decode cX2_inForce 14 = .ok (.getstatic 67, 3) := by decide +kernel
theorem dX2_inForce_17 : decode cX2_inForce 17 = .ok (.arraylength, 1) := by decide +kernel
theorem dX2_inForce_18 : decode cX2_inForce 18 = .ok (.if_icmp .lt 5, 3) := by decide +kernel
theorem dX2_inForce_21 : decode cX2_inForce 21 = .ok (.iconst (-1), 1) := by decide +kernel
theorem dX2_inForce_22 : decode cX2_inForce 22 = .ok (.ireturn, 1) := by decide +kernel
theorem dX2_inForce_23 : decode cX2_inForce 23 = .ok (.aconst_null, 1) := by decide +kernel
theorem dX2_inForce_24 : decode cX2_inForce 24 = .ok (.astore 4, 2) := by decide +kernel
theorem dX2_inForce_26 : decode cX2_inForce 26 = .ok (.aload_n 0, 1) := by decide +kernel
theorem dX2_inForce_27 : decode cX2_inForce 27 = .ok (.getfield 51, 3) := by decide +kernel
theorem dX2_inForce_30 : decode cX2_inForce 30 = .ok (.iload_n 1, 1) := by decide +kernel
theorem dX2_inForce_31 : decode cX2_inForce 31 = .ok (.aaload, 1) := by decide +kernel
theorem dX2_inForce_32 : decode cX2_inForce 32 = .ok (.astore 5, 2) := by decide +kernel
theorem dX2_inForce_34 : decode cX2_inForce 34 = .ok (.aload 5, 2) := by decide +kernel
theorem dX2_inForce_36 : decode cX2_inForce 36 = .ok (.ifnull 65, 3) := by decide +kernel
theorem dX2_inForce_39 : decode cX2_inForce 39 = .ok (.aload 5, 2) := by decide +kernel
theorem dX2_inForce_41 : decode cX2_inForce 41 = .ok (.getfield 70, 3) := by decide +kernel
theorem dX2_inForce_44 : decode cX2_inForce 44 = .ok (.iload_n 3, 1) := by decide +kernel
theorem dX2_inForce_45 : decode cX2_inForce 45 = .ok (.if_icmp .gt 16, 3) := by decide +kernel
theorem dX2_inForce_48 : decode cX2_inForce 48 = .ok (.aload 5, 2) := by decide +kernel
theorem dX2_inForce_50 : decode cX2_inForce 50 = .ok (.getfield 73, 3) := by decide +kernel
theorem dX2_inForce_53 : decode cX2_inForce 53 = .ok (.iload_n 2, 1) := by decide +kernel
theorem dX2_inForce_54 : decode cX2_inForce 54 = .ok (.if_icmp .gt 7, 3) := by decide +kernel
theorem dX2_inForce_57 : decode cX2_inForce 57 = .ok (.iconst 1, 1) := by decide +kernel
theorem dX2_inForce_58 : decode cX2_inForce 58 = .ok (.goto 4, 3) := by decide +kernel
theorem dX2_inForce_61 : decode cX2_inForce 61 = .ok (.iconst 0, 1) := by decide +kernel
theorem dX2_inForce_62 : decode cX2_inForce 62 = .ok (.istore 6, 2) := by decide +kernel
theorem dX2_inForce_64 : decode cX2_inForce 64 = .ok (.iload 6, 2) := by decide +kernel
theorem dX2_inForce_66 : decode cX2_inForce 66 = .ok (.ifCond .eq 25, 3) := by decide +kernel
theorem dX2_inForce_69 : decode cX2_inForce 69 = .ok (.aload 4, 2) := by decide +kernel
theorem dX2_inForce_71 : decode cX2_inForce 71 = .ok (.ifnull 16, 3) := by decide +kernel
theorem dX2_inForce_74 : decode cX2_inForce 74 = .ok (.aload 5, 2) := by decide +kernel
theorem dX2_inForce_76 : decode cX2_inForce 76 = .ok (.getfield 73, 3) := by decide +kernel
theorem dX2_inForce_79 : decode cX2_inForce 79 = .ok (.aload 4, 2) := by decide +kernel
theorem dX2_inForce_81 : decode cX2_inForce 81 = .ok (.getfield 73, 3) := by decide +kernel
theorem dX2_inForce_84 : decode cX2_inForce 84 = .ok (.if_icmp .le 7, 3) := by decide +kernel
theorem dX2_inForce_87 : decode cX2_inForce 87 = .ok (.aload 5, 2) := by decide +kernel
theorem dX2_inForce_89 : decode cX2_inForce 89 = .ok (.astore 4, 2) := by decide +kernel
theorem dX2_inForce_91 : decode cX2_inForce 91 = .ok (.aload 5, 2) := by decide +kernel
theorem dX2_inForce_93 : decode cX2_inForce 93 = .ok (.getfield 76, 3) := by decide +kernel
theorem dX2_inForce_96 : decode cX2_inForce 96 = .ok (.astore 5, 2) := by decide +kernel
theorem dX2_inForce_98 : decode cX2_inForce 98 = .ok (.goto (-64), 3) := by decide +kernel
theorem dX2_inForce_101 : decode cX2_inForce 101 = .ok (.aload 4, 2) := by decide +kernel
theorem dX2_inForce_103 : decode cX2_inForce 103 = .ok (.ifnonnull 11, 3) := by decide +kernel
theorem dX2_inForce_106 : decode cX2_inForce 106 = .ok (.getstatic 67, 3) := by decide +kernel
theorem dX2_inForce_109 : decode cX2_inForce 109 = .ok (.iload_n 1, 1) := by decide +kernel
theorem dX2_inForce_110 : decode cX2_inForce 110 = .ok (.iaload, 1) := by decide +kernel
theorem dX2_inForce_111 : decode cX2_inForce 111 = .ok (.goto 8, 3) := by decide +kernel
theorem dX2_inForce_114 : decode cX2_inForce 114 = .ok (.aload 4, 2) := by decide +kernel
theorem dX2_inForce_116 : decode cX2_inForce 116 = .ok (.getfield 80, 3) := by decide +kernel
theorem dX2_inForce_119 : decode cX2_inForce 119 = .ok (.ireturn, 1) := by decide +kernel
theorem dX3_init_0 : decode cX3_init 0 = .ok (.aload_n 0, 1) := by decide +kernel
theorem dX3_init_1 : decode cX3_init 1 = .ok (.invokespecial 3, 3) := by decide +kernel
theorem dX3_init_4 : decode cX3_init 4 = .ok (.aload_n 0, 1) := by decide +kernel
theorem dX3_init_5 : decode cX3_init 5 = .ok (.bipush 41, 2) := by decide +kernel
theorem dX3_init_7 : decode cX3_init 7 = .ok (.anewarray 9, 3) := by decide +kernel
theorem dX3_init_10 : decode cX3_init 10 = .ok (.putfield 11, 3) := by decide +kernel
theorem dX3_init_13 : decode cX3_init 13 = .ok (.aload_n 0, 1) := by decide +kernel
theorem dX3_init_14 : decode cX3_init 14 = .ok (.bipush 41, 2) := by decide +kernel
theorem dX3_init_16 : decode cX3_init 16 = .ok (.anewarray 17, 3) := by decide +kernel
theorem dX3_init_19 : decode cX3_init 19 = .ok (.putfield 19, 3) := by decide +kernel
theorem dX3_init_22 : decode cX3_init 22 = .ok (.aload_n 0, 1) := by decide +kernel
theorem dX3_init_23 : decode cX3_init 23 = .ok (.iload_n 1, 1) := by decide +kernel
theorem dX3_init_24 : decode cX3_init 24 = .ok (.putfield 23, 3) := by decide +kernel
theorem dX3_init_27 : decode cX3_init 27 = .ok (.aload_n 0, 1) := by decide +kernel
theorem dX3_init_28 : decode cX3_init 28 = .ok (.iload_n 2, 1) := by decide +kernel
theorem dX3_init_29 : decode cX3_init 29 = .ok (.iload 4, 2) := by decide +kernel
theorem dX3_init_31 : decode cX3_init 31 = .ok (.invokestatic 27, 3) := by decide +kernel
theorem dX3_init_34 : decode cX3_init 34 = .ok (.putfield 33, 3) := by decide +kernel
theorem dX3_init_37 : decode cX3_init 37 = .ok (.aload_n 0, 1) := by decide +kernel
theorem dX3_init_38 : decode cX3_init 38 = .ok (.iload_n 2, 1) := by decide +kernel
theorem dX3_init_39 : decode cX3_init 39 = .ok (.iload 4, 2) := by decide +kernel
theorem dX3_init_41 : decode cX3_init 41 = .ok (.invokestatic 36, 3) := by decide +kernel
theorem dX3_init_44 : decode cX3_init 44 = .ok (.putfield 39, 3) := by decide +kernel
theorem dX3_init_47 : decode cX3_init 47 = .ok (.aload_n 0, 1) := by decide +kernel
theorem dX3_init_48 : decode cX3_init 48 = .ok (.iload_n 3, 1) := by decide +kernel
theorem dX3_init_49 : decode cX3_init 49 = .ok (.iload 5, 2) := by decide +kernel
theorem dX3_init_51 : decode cX3_init 51 = .ok (.invokestatic 27, 3) := by decide +kernel
theorem dX3_init_54 : decode cX3_init 54 = .ok (.putfield 42, 3) := by decide +kernel
theorem dX3_init_57 : decode cX3_init 57 = .ok (.aload_n 0, 1) := by decide +kernel
theorem dX3_init_58 : decode cX3_init 58 = .ok (.iload_n 3, 1) := by decide +kernel
theorem dX3_init_59 : decode cX3_init 59 = .ok (.iload 5, 2) := by decide +kernel
theorem dX3_init_61 : decode cX3_init 61 = .ok (.invokestatic 36, 3) := by decide +kernel
theorem dX3_init_64 : decode cX3_init 64 = .ok (.putfield 45, 3) := by decide +kernel
theorem dX3_init_67 : decode cX3_init 67 = .ok (.return_, 1) := by decide +kernel
theorem dX3_squareTo_0 : decode cX3_squareTo 0 = .ok (.iconst 0, 1) := by decide +kernel
theorem dX3_squareTo_1 : decode cX3_squareTo 1 = .ok (.aload_n 1, 1) := by decide +kernel
theorem dX3_squareTo_2 : decode cX3_squareTo 2 = .ok (.getfield 33, 3) := by decide +kernel
theorem dX3_squareTo_5 : decode cX3_squareTo 5 = .ok (.aload_n 0, 1) := by decide +kernel
theorem dX3_squareTo_6 : decode cX3_squareTo 6 = .ok (.getfield 39, 3) := by decide +kernel
theorem dX3_squareTo_9 : decode cX3_squareTo 9 = .ok (.isub, 1) := by decide +kernel
theorem dX3_squareTo_10 : decode cX3_squareTo 10 = .ok (.aload_n 0, 1) := by decide +kernel
theorem dX3_squareTo_11 : decode cX3_squareTo 11 = .ok (.getfield 33, 3) := by decide +kernel
theorem dX3_squareTo_14 : decode cX3_squareTo 14 = .ok (.aload_n 1, 1) := by decide +kernel
theorem dX3_squareTo_15 : decode cX3_squareTo 15 = .ok (.getfield 39, 3) := by decide +kernel
theorem dX3_squareTo_18 : decode cX3_squareTo 18 = .ok (.isub, 1) := by decide +kernel
theorem dX3_squareTo_19 : decode cX3_squareTo 19 = .ok (.invokestatic 36, 3) := by decide +kernel
theorem dX3_squareTo_22 : decode cX3_squareTo 22 = .ok (.invokestatic 36, 3) := by decide +kernel
theorem dX3_squareTo_25 : decode cX3_squareTo 25 = .ok (.istore_n 2, 1) := by decide +kernel
theorem dX3_squareTo_26 : decode cX3_squareTo 26 = .ok (.iconst 0, 1) := by decide +kernel
theorem dX3_squareTo_27 : decode cX3_squareTo 27 = .ok (.aload_n 1, 1) := by decide +kernel
theorem dX3_squareTo_28 : decode cX3_squareTo 28 = .ok (.getfield 42, 3) := by decide +kernel
theorem dX3_squareTo_31 : decode cX3_squareTo 31 = .ok (.aload_n 0, 1) := by decide +kernel
theorem dX3_squareTo_32 : decode cX3_squareTo 32 = .ok (.getfield 45, 3) := by decide +kernel
theorem dX3_squareTo_35 : decode cX3_squareTo 35 = .ok (.isub, 1) := by decide +kernel
theorem dX3_squareTo_36 : decode cX3_squareTo 36 = .ok (.aload_n 0, 1) := by decide +kernel
theorem dX3_squareTo_37 : decode cX3_squareTo 37 = .ok (.getfield 42, 3) := by decide +kernel
theorem dX3_squareTo_40 : decode cX3_squareTo 40 = .ok (.aload_n 1, 1) := by decide +kernel
theorem dX3_squareTo_41 : decode cX3_squareTo 41 = .ok (.getfield 45, 3) := by decide +kernel
theorem dX3_squareTo_44 : decode cX3_squareTo 44 = .ok (.isub, 1) := by decide +kernel
theorem dX3_squareTo_45 : decode cX3_squareTo 45 = .ok (.invokestatic 36, 3) := by decide +kernel
theorem dX3_squareTo_48 : decode cX3_squareTo 48 = .ok (.invokestatic 36, 3) := by decide +kernel
theorem dX3_squareTo_51 : decode cX3_squareTo 51 = .ok (.istore_n 3, 1) := by decide +kernel
theorem dX3_squareTo_52 : decode cX3_squareTo 52 = .ok (.iload_n 2, 1) := by decide +kernel
theorem dX3_squareTo_53 : decode cX3_squareTo 53 = .ok (.iload_n 2, 1) := by decide +kernel
theorem dX3_squareTo_54 : decode cX3_squareTo 54 = .ok (.imul, 1) := by decide +kernel
theorem dX3_squareTo_55 : decode cX3_squareTo 55 = .ok (.iload_n 3, 1) := by decide +kernel
theorem dX3_squareTo_56 : decode cX3_squareTo 56 = .ok (.iload_n 3, 1) := by decide +kernel
theorem dX3_squareTo_57 : decode cX3_squareTo 57 = .ok (.imul, 1) := by decide +kernel
theorem dX3_squareTo_58 : decode cX3_squareTo 58 = .ok (.iadd, 1) := by decide +kernel
theorem dX3_squareTo_59 : decode cX3_squareTo 59 = .ok (.ireturn, 1) := by decide +kernel
theorem dX3_grow_0 : decode cX3_grow 0 = .ok (.aload_n 1, 1) := by decide +kernel
theorem dX3_grow_1 : decode cX3_grow 1 = .ok (.getfield 48, 3) := by decide +kernel
theorem dX3_grow_4 : decode cX3_grow 4 = .ok (.ifCond .lt 25, 3) := by decide +kernel
theorem dX3_grow_7 : decode cX3_grow 7 = .ok (.aload_n 1, 1) := by decide +kernel
theorem dX3_grow_8 : decode cX3_grow 8 = .ok (.getfield 48, 3) := by decide +kernel
theorem dX3_grow_11 : decode cX3_grow 11 = .ok (.aload_n 0, 1) := by decide +kernel
theorem dX3_grow_12 : decode cX3_grow 12 = .ok (.getfield 11, 3) := by decide +kernel
theorem dX3_grow_15 : decode cX3_grow 15 = .ok (.arraylength, 1) := by decide +kernel
theorem dX3_grow_16 : decode cX3_grow 16 = .ok (.if_icmp .ge 13, 3) := by decide +kernel
theorem dX3_grow_19 : decode cX3_grow 19 = .ok (.aload_n 0, 1) := by decide +kernel
theorem dX3_grow_20 : decode cX3_grow 20 = .ok (.getfield 11, 3) := by decide +kernel
theorem dX3_grow_23 : decode cX3_grow 23 = .ok (.aload_n 1, 1) := by decide +kernel
theorem dX3_grow_24 : decode cX3_grow 24 = .ok (.getfield 48, 3) := by decide +kernel
theorem dX3_grow_27 : decode cX3_grow 27 = .ok (.aload_n 1, 1) := by decide +kernel
theorem dX3_grow_28 : decode cX3_grow 28 = .ok (.aastore, 1) := by decide +kernel
theorem dX3_grow_29 : decode cX3_grow 29 = .ok (.return_, 1) := by decide +kernel
theorem dX3_tell_0 : decode cX3_tell 0 = .ok (.iload_n 1, 1) := by decide +kernel
theorem dX3_tell_1 : decode cX3_tell 1 = .ok (.ifCond .lt 33, 3) := by decide +kernel
theorem dX3_tell_4 : decode cX3_tell 4 = .ok (.iload_n 1, 1) := by decide +kernel
theorem dX3_tell_5 : decode cX3_tell 5 = .ok (.aload_n 0, 1) := by decide +kernel
theorem dX3_tell_6 : decode cX3_tell 6 = .ok (.getfield 19, 3) := by decide +kernel
theorem dX3_tell_9 : decode cX3_tell 9 = .ok (.arraylength, 1) := by decide +kernel
theorem dX3_tell_10 : decode cX3_tell 10 = .ok (.if_icmp .ge 24, 3) := by decide +kernel
theorem dX3_tell_13 : decode cX3_tell 13 = .ok (.aload_n 0, 1) := by decide +kernel
theorem dX3_tell_14 : decode cX3_tell 14 = .ok (.getfield 19, 3) := by decide +kernel
theorem dX3_tell_17 : decode cX3_tell 17 = .ok (.iload_n 1, 1) := by decide +kernel
theorem dX3_tell_18 : decode cX3_tell 18 = .ok (.new 17, 3) := by decide +kernel
theorem dX3_tell_21 : decode cX3_tell 21 = .ok (.dup, 1) := by decide +kernel
theorem dX3_tell_22 : decode cX3_tell 22 = .ok (.aload_n 0, 1) := by decide +kernel
theorem dX3_tell_23 : decode cX3_tell 23 = .ok (.getfield 19, 3) := by decide +kernel
theorem dX3_tell_26 : decode cX3_tell 26 = .ok (.iload_n 1, 1) := by decide +kernel
theorem dX3_tell_27 : decode cX3_tell 27 = .ok (.aaload, 1) := by decide +kernel
theorem dX3_tell_28 : decode cX3_tell 28 = .ok (.iload_n 3, 1) := by decide +kernel
theorem dX3_tell_29 : decode cX3_tell 29 = .ok (.iload_n 2, 1) := by decide +kernel
theorem dX3_tell_30 : decode cX3_tell 30 = .ok (.invokespecial 51, 3) := by decide +kernel
theorem dX3_tell_33 : decode cX3_tell 33 = .ok (.aastore, 1) := by decide +kernel
theorem dX3_tell_34 : decode cX3_tell 34 = .ok (.return_, 1) := by decide +kernel
theorem dX3_grownIn_0 : decode cX3_grownIn 0 = .ok (.iload_n 1, 1) := by decide +kernel
theorem dX3_grownIn_1 : decode cX3_grownIn 1 = .ok (.ifCond .lt 21, 3) := by decide +kernel
theorem dX3_grownIn_4 : decode cX3_grownIn 4 = .ok (.iload_n 1, 1) := by decide +kernel
theorem dX3_grownIn_5 : decode cX3_grownIn 5 = .ok (.aload_n 0, 1) := by decide +kernel
theorem dX3_grownIn_6 : decode cX3_grownIn 6 = .ok (.getfield 11, 3) := by decide +kernel
theorem dX3_grownIn_9 : decode cX3_grownIn 9 = .ok (.arraylength, 1) := by decide +kernel
theorem dX3_grownIn_10 : decode cX3_grownIn 10 = .ok (.if_icmp .ge 12, 3) := by decide +kernel
theorem dX3_grownIn_13 : decode cX3_grownIn 13 = .ok (.aload_n 0, 1) := by decide +kernel
theorem dX3_grownIn_14 : decode cX3_grownIn 14 = .ok (.getfield 11, 3) := by decide +kernel
theorem dX3_grownIn_17 : decode cX3_grownIn 17 = .ok (.iload_n 1, 1) := by decide +kernel
theorem dX3_grownIn_18 : decode cX3_grownIn 18 = .ok (.aaload, 1) := by decide +kernel
theorem dX3_grownIn_19 : decode cX3_grownIn 19 = .ok (.goto 4, 3) := by decide +kernel
theorem dX3_grownIn_22 : decode cX3_grownIn 22 = .ok (.aconst_null, 1) := by decide +kernel
theorem dX3_grownIn_23 : decode cX3_grownIn 23 = .ok (.areturn, 1) := by decide +kernel
theorem dX3_cropIn_0 : decode cX3_cropIn 0 = .ok (.iload_n 1, 1) := by decide +kernel
theorem dX3_cropIn_1 : decode cX3_cropIn 1 = .ok (.ifCond .lt 12, 3) := by decide +kernel
theorem dX3_cropIn_4 : decode cX3_cropIn 4 = .ok (.iload_n 1, 1) := by decide +kernel
theorem dX3_cropIn_5 : decode cX3_cropIn 5 = .ok (.aload_n 0, 1) := by decide +kernel
theorem dX3_cropIn_6 : decode cX3_cropIn 6 = .ok (.getfield 19, 3) := by decide +kernel
theorem dX3_cropIn_9 : decode cX3_cropIn 9 = .ok (.arraylength, 1) := by decide +kernel
theorem dX3_cropIn_10 : decode cX3_cropIn 10 = .ok (.if_icmp .lt 5, 3) := by decide +kernel
theorem dX3_cropIn_13 : decode cX3_cropIn 13 = .ok (.iconst 0, 1) := by decide +kernel
theorem dX3_cropIn_14 : decode cX3_cropIn 14 = .ok (.ireturn, 1) := by decide +kernel
theorem dX3_cropIn_15 : decode cX3_cropIn 15 = .ok (.aload_n 0, 1) := by decide +kernel
theorem dX3_cropIn_16 : decode cX3_cropIn 16 = .ok (.iload_n 1, 1) := by decide +kernel
theorem dX3_cropIn_17 : decode cX3_cropIn 17 = .ok (.invokevirtual 54, 3) := by decide +kernel
theorem dX3_cropIn_20 : decode cX3_cropIn 20 = .ok (.astore_n 3, 1) := by decide +kernel
theorem dX3_cropIn_21 : decode cX3_cropIn 21 = .ok (.aload_n 3, 1) := by decide +kernel
theorem dX3_cropIn_22 : decode cX3_cropIn 22 = .ok (.ifnull 16, 3) := by decide +kernel
theorem dX3_cropIn_25 : decode cX3_cropIn 25 = .ok (.aload_n 3, 1) := by decide +kernel
theorem dX3_cropIn_26 : decode cX3_cropIn 26 = .ok (.getfield 48, 3) := by decide +kernel
theorem dX3_cropIn_29 : decode cX3_cropIn 29 = .ok (.iload_n 2, 1) := by decide +kernel
theorem dX3_cropIn_30 : decode cX3_cropIn 30 = .ok (.if_icmp .gt 8, 3) := by decide +kernel
theorem dX3_cropIn_33 : decode cX3_cropIn 33 = .ok (.aload_n 3, 1) := by decide +kernel
theorem dX3_cropIn_34 : decode cX3_cropIn 34 = .ok (.getfield 58, 3) := by decide +kernel
theorem dX3_cropIn_37 : decode cX3_cropIn 37 = .ok (.ireturn, 1) := by decide +kernel
theorem dX3_cropIn_38 : decode cX3_cropIn 38 = .ok (.aload_n 0, 1) := by decide +kernel
theorem dX3_cropIn_39 : decode cX3_cropIn 39 = .ok (.getfield 19, 3) := by decide +kernel
theorem dX3_cropIn_42 : decode cX3_cropIn 42 = .ok (.iload_n 1, 1) := by decide +kernel
theorem dX3_cropIn_43 : decode cX3_cropIn 43 = .ok (.aaload, 1) := by decide +kernel
theorem dX3_cropIn_44 : decode cX3_cropIn 44 = .ok (.astore 4, 2) := by decide +kernel
theorem dX3_cropIn_46 : decode cX3_cropIn 46 = .ok (.aload 4, 2) := by decide +kernel
theorem dX3_cropIn_48 : decode cX3_cropIn 48 = .ok (.ifnull 28, 3) := by decide +kernel
theorem dX3_cropIn_51 : decode cX3_cropIn 51 = .ok (.aload 4, 2) := by decide +kernel
theorem dX3_cropIn_53 : decode cX3_cropIn 53 = .ok (.getfield 61, 3) := by decide +kernel
theorem dX3_cropIn_56 : decode cX3_cropIn 56 = .ok (.iload_n 2, 1) := by decide +kernel
theorem dX3_cropIn_57 : decode cX3_cropIn 57 = .ok (.if_icmp .gt 9, 3) := by decide +kernel
theorem dX3_cropIn_60 : decode cX3_cropIn 60 = .ok (.aload 4, 2) := by decide +kernel
theorem dX3_cropIn_62 : decode cX3_cropIn 62 = .ok (.getfield 64, 3) := by decide +kernel
theorem dX3_cropIn_65 : decode cX3_cropIn 65 = .ok (.ireturn, 1) := by decide +kernel
theorem dX3_cropIn_66 : decode cX3_cropIn 66 = .ok (.aload 4, 2) := by decide +kernel
theorem dX3_cropIn_68 : decode cX3_cropIn 68 = .ok (.getfield 65, 3) := by decide +kernel
theorem dX3_cropIn_71 : decode cX3_cropIn 71 = .ok (.astore 4, 2) := by decide +kernel
theorem dX3_cropIn_73 : decode cX3_cropIn 73 = .ok (.goto (-27), 3) := by decide +kernel
theorem dX3_cropIn_76 : decode cX3_cropIn 76 = .ok (.iconst 0, 1) := by decide +kernel
theorem dX3_cropIn_77 : decode cX3_cropIn 77 = .ok (.ireturn, 1) := by decide +kernel
theorem dX3_stoodAheadOf_0 : decode cX3_stoodAheadOf 0 = .ok (.iconst 0, 1) := by decide +kernel
theorem dX3_stoodAheadOf_1 : decode cX3_stoodAheadOf 1 = .ok (.iload_n 1, 1) := by decide +kernel
theorem dX3_stoodAheadOf_2 : decode cX3_stoodAheadOf 2 = .ok (.iload_n 2, 1) := by decide +kernel
theorem dX3_stoodAheadOf_3 : decode cX3_stoodAheadOf 3 = .ok (.isub, 1) := by decide +kernel
theorem dX3_stoodAheadOf_4 : decode cX3_stoodAheadOf 4 = .ok (.invokestatic 36, 3) := by decide +kernel
theorem dX3_stoodAheadOf_7 : decode cX3_stoodAheadOf 7 = .ok (.istore 5, 2) := by decide +kernel
theorem dX3_stoodAheadOf_9 : decode cX3_stoodAheadOf 9 = .ok (.iload_n 1, 1) := by decide +kernel
theorem dX3_stoodAheadOf_10 : decode cX3_stoodAheadOf 10 = .ok (.iconst 1, 1) := by decide +kernel
theorem dX3_stoodAheadOf_11 : decode cX3_stoodAheadOf 11 = .ok (.isub, 1) := by decide +kernel
theorem dX3_stoodAheadOf_12 : decode cX3_stoodAheadOf 12 = .ok (.istore 6, 2) := by decide +kernel
theorem dX3_stoodAheadOf_14 : decode cX3_stoodAheadOf 14 = .ok (.iload 6, 2) := by decide +kernel
theorem dX3_stoodAheadOf_16 : decode cX3_stoodAheadOf 16 = .ok (.iload 5, 2) := by decide +kernel
theorem dX3_stoodAheadOf_18 : decode cX3_stoodAheadOf 18 = .ok (.if_icmp .lt 23, 3) := by decide +kernel
theorem dX3_stoodAheadOf_21 : decode cX3_stoodAheadOf 21 = .ok (.aload_n 0, 1) := by decide +kernel
theorem dX3_stoodAheadOf_22 : decode cX3_stoodAheadOf 22 = .ok (.iload 6, 2) := by decide +kernel
theorem dX3_stoodAheadOf_24 : decode cX3_stoodAheadOf 24 = .ok (.iload 4, 2) := by decide +kernel
theorem dX3_stoodAheadOf_26 : decode cX3_stoodAheadOf 26 = .ok (.invokevirtual 69, 3) := by decide +kernel
theorem dX3_stoodAheadOf_29 : decode cX3_stoodAheadOf 29 = .ok (.iload_n 3, 1) := by decide +kernel
theorem dX3_stoodAheadOf_30 : decode cX3_stoodAheadOf 30 = .ok (.if_icmp .ne 5, 3) := by decide +kernel
theorem dX3_stoodAheadOf_33 : decode cX3_stoodAheadOf 33 = .ok (.iconst 1, 1) := by decide +kernel
theorem dX3_stoodAheadOf_34 : decode cX3_stoodAheadOf 34 = .ok (.ireturn, 1) := by decide +kernel
theorem dX3_stoodAheadOf_35 : decode cX3_stoodAheadOf 35 = .ok (.iinc 6 (-1), 3) := by decide +kernel
theorem dX3_stoodAheadOf_38 : decode cX3_stoodAheadOf 38 = .ok (.goto (-24), 3) := by decide +kernel
theorem dX3_stoodAheadOf_41 : decode cX3_stoodAheadOf 41 = .ok (.iconst 0, 1) := by decide +kernel
theorem dX3_stoodAheadOf_42 : decode cX3_stoodAheadOf 42 = .ok (.ireturn, 1) := by decide +kernel
theorem dX4_init_0 : decode cX4_init 0 = .ok (.aload_n 0, 1) := by decide +kernel
theorem dX4_init_1 : decode cX4_init 1 = .ok (.invokespecial 3, 3) := by decide +kernel
theorem dX4_init_4 : decode cX4_init 4 = .ok (.aload_n 0, 1) := by decide +kernel
theorem dX4_init_5 : decode cX4_init 5 = .ok (.aload_n 1, 1) := by decide +kernel
theorem dX4_init_6 : decode cX4_init 6 = .ok (.putfield 9, 3) := by decide +kernel
theorem dX4_init_9 : decode cX4_init 9 = .ok (.return_, 1) := by decide +kernel
theorem dX4_traceBelow_0 : decode cX4_traceBelow 0 = .ok (.iconst 0, 1) := by decide +kernel
theorem dX4_traceBelow_1 : decode cX4_traceBelow 1 = .ok (.istore_n 2, 1) := by decide +kernel
theorem dX4_traceBelow_2 : decode cX4_traceBelow 2 = .ok (.iload_n 2, 1) := by decide +kernel
theorem dX4_traceBelow_3 : decode cX4_traceBelow 3 = .ok (.aload_n 0, 1) := by decide +kernel
theorem dX4_traceBelow_4 : decode cX4_traceBelow 4 = .ok (.getfield 9, 3) := by decide +kernel
theorem dX4_traceBelow_7 : decode cX4_traceBelow 7 = .ok (.getfield 15, 3) := by decide +kernel
theorem dX4_traceBelow_10 : decode cX4_traceBelow 10 = .ok (.if_icmp .ge 59, 3) := by decide +kernel
theorem dX4_traceBelow_13 : decode cX4_traceBelow 13 = .ok (.aload_n 0, 1) := by decide +kernel
theorem dX4_traceBelow_14 : decode cX4_traceBelow 14 = .ok (.getfield 9, 3) := by decide +kernel
theorem dX4_traceBelow_17 : decode cX4_traceBelow 17 = .ok (.iload_n 2, 1) := by decide +kernel
theorem dX4_traceBelow_18 : decode cX4_traceBelow 18 = .ok (.invokevirtual 21, 3) := by decide +kernel
theorem dX4_traceBelow_21 : decode cX4_traceBelow 21 = .ok (.astore_n 3, 1) := by decide +kernel
theorem dX4_traceBelow_22 : decode cX4_traceBelow 22 = .ok (.aload_n 3, 1) := by decide +kernel
theorem dX4_traceBelow_23 : decode cX4_traceBelow 23 = .ok (.ifnull 40, 3) := by decide +kernel
theorem dX4_traceBelow_26 : decode cX4_traceBelow 26 = .ok (.aload_n 3, 1) := by decide +kernel
theorem dX4_traceBelow_27 : decode cX4_traceBelow 27 = .ok (.getfield 25, 3) := by decide +kernel
theorem dX4_traceBelow_30 : decode cX4_traceBelow 30 = .ok (.invokestatic 31, 3) := by decide +kernel
theorem dX4_traceBelow_33 : decode cX4_traceBelow 33 = .ok (.aload_n 3, 1) := by decide +kernel
theorem dX4_traceBelow_34 : decode cX4_traceBelow 34 = .ok (.getfield 35, 3) := by decide +kernel
theorem dX4_traceBelow_37 : decode cX4_traceBelow 37 = .ok (.invokestatic 31, 3) := by decide +kernel
theorem dX4_traceBelow_40 : decode cX4_traceBelow 40 = .ok (.iadd, 1) := by decide +kernel
theorem dX4_traceBelow_41 : decode cX4_traceBelow 41 = .ok (.istore 4, 2) := by decide +kernel
theorem dX4_traceBelow_43 : decode cX4_traceBelow 43 = .ok (.aload_n 3, 1) := by decide +kernel
theorem dX4_traceBelow_44 : decode cX4_traceBelow 44 = .ok (.aload_n 3, 1) := by decide +kernel
theorem dX4_traceBelow_45 : decode cX4_traceBelow 45 = .ok (.aload_n 1, 1) := by decide +kernel
theorem dX4_traceBelow_46 : decode cX4_traceBelow 46 = .ok (.if_acmp .ne 7, 3) := by decide +kernel
theorem dX4_traceBelow_49 : decode cX4_traceBelow 49 = .ok (.iconst 1, 1) := by decide +kernel
theorem dX4_traceBelow_50 : decode cX4_traceBelow 50 = .ok (.goto 10, 3) := by decide +kernel
theorem dX4_traceBelow_53 : decode cX4_traceBelow 53 = .ok (.ldc 38, 2) := by decide +kernel
theorem dX4_traceBelow_55 : decode cX4_traceBelow 55 = .ok (.iload 4, 2) := by decide +kernel
theorem dX4_traceBelow_57 : decode cX4_traceBelow 57 = .ok (.invokestatic 39, 3) := by decide +kernel
theorem dX4_traceBelow_60 : decode cX4_traceBelow 60 = .ok (.putfield 45, 3) := by decide +kernel
theorem dX4_traceBelow_63 : decode cX4_traceBelow 63 = .ok (.iinc 2 1, 3) := by decide +kernel
theorem dX4_traceBelow_66 : decode cX4_traceBelow 66 = .ok (.goto (-64), 3) := by decide +kernel
theorem dX4_traceBelow_69 : decode cX4_traceBelow 69 = .ok (.return_, 1) := by decide +kernel
theorem dX4_buyersBelow_0 : decode cX4_buyersBelow 0 = .ok (.aload_n 0, 1) := by decide +kernel
theorem dX4_buyersBelow_1 : decode cX4_buyersBelow 1 = .ok (.aload_n 1, 1) := by decide +kernel
theorem dX4_buyersBelow_2 : decode cX4_buyersBelow 2 = .ok (.invokevirtual 48, 3) := by decide +kernel
theorem dX4_buyersBelow_5 : decode cX4_buyersBelow 5 = .ok (.iconst 0, 1) := by decide +kernel
theorem dX4_buyersBelow_6 : decode cX4_buyersBelow 6 = .ok (.istore_n 2, 1) := by decide +kernel
theorem dX4_buyersBelow_7 : decode cX4_buyersBelow 7 = .ok (.iconst 0, 1) := by decide +kernel
theorem dX4_buyersBelow_8 : decode cX4_buyersBelow 8 = .ok (.istore_n 3, 1) := by decide +kernel
theorem dX4_buyersBelow_9 : decode cX4_buyersBelow 9 = .ok (.iload_n 3, 1) := by decide +kernel
theorem dX4_buyersBelow_10 : decode cX4_buyersBelow 10 = .ok (.aload_n 0, 1) := by decide +kernel
theorem dX4_buyersBelow_11 : decode cX4_buyersBelow 11 = .ok (.getfield 9, 3) := by decide +kernel
theorem dX4_buyersBelow_14 : decode cX4_buyersBelow 14 = .ok (.getfield 52, 3) := by decide +kernel
theorem dX4_buyersBelow_17 : decode cX4_buyersBelow 17 = .ok (.if_icmp .ge 53, 3) := by decide +kernel
theorem dX4_buyersBelow_20 : decode cX4_buyersBelow 20 = .ok (.aload_n 0, 1) := by decide +kernel
theorem dX4_buyersBelow_21 : decode cX4_buyersBelow 21 = .ok (.getfield 9, 3) := by decide +kernel
theorem dX4_buyersBelow_24 : decode cX4_buyersBelow 24 = .ok (.iload_n 3, 1) := by decide +kernel
theorem dX4_buyersBelow_25 : decode cX4_buyersBelow 25 = .ok (.invokevirtual 55, 3) := by decide +kernel
theorem dX4_buyersBelow_28 : decode cX4_buyersBelow 28 = .ok (.astore 4, 2) := by decide +kernel
theorem dX4_buyersBelow_30 : decode cX4_buyersBelow 30 = .ok (.aload 4, 2) := by decide +kernel
theorem dX4_buyersBelow_32 : decode cX4_buyersBelow 32 = .ok (.ifnull 32, 3) := by decide +kernel
theorem dX4_buyersBelow_35 : decode cX4_buyersBelow 35 = .ok (.aload 4, 2) := by decide +kernel
theorem dX4_buyersBelow_37 : decode cX4_buyersBelow 37 = .ok (.invokevirtual 59, 3) := by decide +kernel
theorem dX4_buyersBelow_40 : decode cX4_buyersBelow 40 = .ok (.ifCond .eq 24, 3) := by decide +kernel
theorem dX4_buyersBelow_43 : decode cX4_buyersBelow 43 = .ok (.aload 4, 2) := by decide +kernel
theorem dX4_buyersBelow_45 : decode cX4_buyersBelow 45 = .ok (.getfield 65, 3) := by decide +kernel
theorem dX4_buyersBelow_48 : decode cX4_buyersBelow 48 = .ok (.getfield 45, 3) := by decide +kernel
theorem dX4_buyersBelow_51 : decode cX4_buyersBelow 51 = .ok (.ifCond .le 13, 3) := by decide +kernel
theorem dX4_buyersBelow_54 : decode cX4_buyersBelow 54 = .ok (.iload_n 2, 1) := by decide +kernel
theorem dX4_buyersBelow_55 : decode cX4_buyersBelow 55 = .ok (.iconst 1, 1) := by decide +kernel
theorem dX4_buyersBelow_56 : decode cX4_buyersBelow 56 = .ok (.aload 4, 2) := by decide +kernel
theorem dX4_buyersBelow_58 : decode cX4_buyersBelow 58 = .ok (.getfield 68, 3) := by decide +kernel
theorem dX4_buyersBelow_61 : decode cX4_buyersBelow 61 = .ok (.ishl, 1) := by decide +kernel
theorem dX4_buyersBelow_62 : decode cX4_buyersBelow 62 = .ok (.ior, 1) := by decide +kernel
theorem dX4_buyersBelow_63 : decode cX4_buyersBelow 63 = .ok (.istore_n 2, 1) := by decide +kernel
theorem dX4_buyersBelow_64 : decode cX4_buyersBelow 64 = .ok (.iinc 3 1, 3) := by decide +kernel
theorem dX4_buyersBelow_67 : decode cX4_buyersBelow 67 = .ok (.goto (-58), 3) := by decide +kernel
theorem dX4_buyersBelow_70 : decode cX4_buyersBelow 70 = .ok (.iload_n 2, 1) := by decide +kernel
theorem dX4_buyersBelow_71 : decode cX4_buyersBelow 71 = .ok (.ireturn, 1) := by decide +kernel
theorem dX4_touchedBy_0 : decode cX4_touchedBy 0 = .ok (.aload_n 0, 1) := by decide +kernel
theorem dX4_touchedBy_1 : decode cX4_touchedBy 1 = .ok (.aload_n 1, 1) := by decide +kernel
theorem dX4_touchedBy_2 : decode cX4_touchedBy 2 = .ok (.invokevirtual 48, 3) := by decide +kernel
theorem dX4_touchedBy_5 : decode cX4_touchedBy 5 = .ok (.aload_n 0, 1) := by decide +kernel
theorem dX4_touchedBy_6 : decode cX4_touchedBy 6 = .ok (.aload_n 1, 1) := by decide +kernel
theorem dX4_touchedBy_7 : decode cX4_touchedBy 7 = .ok (.invokevirtual 71, 3) := by decide +kernel
theorem dX4_touchedBy_10 : decode cX4_touchedBy 10 = .ok (.aload_n 0, 1) := by decide +kernel
theorem dX4_touchedBy_11 : decode cX4_touchedBy 11 = .ok (.aload_n 1, 1) := by decide +kernel
theorem dX4_touchedBy_12 : decode cX4_touchedBy 12 = .ok (.invokevirtual 74, 3) := by decide +kernel
theorem dX4_touchedBy_15 : decode cX4_touchedBy 15 = .ok (.iconst 0, 1) := by decide +kernel
theorem dX4_touchedBy_16 : decode cX4_touchedBy 16 = .ok (.istore 4, 2) := by decide +kernel
theorem dX4_touchedBy_18 : decode cX4_touchedBy 18 = .ok (.iconst 0, 1) := by decide +kernel
theorem dX4_touchedBy_19 : decode cX4_touchedBy 19 = .ok (.istore 5, 2) := by decide +kernel
theorem dX4_touchedBy_21 : decode cX4_touchedBy 21 = .ok (.iload 5, 2) := by decide +kernel
theorem dX4_touchedBy_23 : decode cX4_touchedBy 23 = .ok (.aload_n 0, 1) := by decide +kernel
theorem dX4_touchedBy_24 : decode cX4_touchedBy 24 = .ok (.getfield 9, 3) := by decide +kernel
theorem dX4_touchedBy_27 : decode cX4_touchedBy 27 = .ok (.getfield 15, 3) := by decide +kernel
theorem dX4_touchedBy_30 : decode cX4_touchedBy 30 = .ok (.if_icmp .ge 46, 3) := by decide +kernel
theorem dX4_touchedBy_33 : decode cX4_touchedBy 33 = .ok (.aload_n 0, 1) := by decide +kernel
theorem dX4_touchedBy_34 : decode cX4_touchedBy 34 = .ok (.getfield 9, 3) := by decide +kernel
theorem dX4_touchedBy_37 : decode cX4_touchedBy 37 = .ok (.iload 5, 2) := by decide +kernel
theorem dX4_touchedBy_39 : decode cX4_touchedBy 39 = .ok (.invokevirtual 21, 3) := by decide +kernel
theorem dX4_touchedBy_42 : decode cX4_touchedBy 42 = .ok (.astore 6, 2) := by decide +kernel
theorem dX4_touchedBy_44 : decode cX4_touchedBy 44 = .ok (.aload 6, 2) := by decide +kernel
theorem dX4_touchedBy_46 : decode cX4_touchedBy 46 = .ok (.ifnull 24, 3) := by decide +kernel
theorem dX4_touchedBy_49 : decode cX4_touchedBy 49 = .ok (.aload 6, 2) := by decide +kernel
theorem dX4_touchedBy_51 : decode cX4_touchedBy 51 = .ok (.invokestatic 77, 3) := by decide +kernel
theorem dX4_touchedBy_54 : decode cX4_touchedBy 54 = .ok (.iload_n 2, 1) := by decide +kernel
theorem dX4_touchedBy_55 : decode cX4_touchedBy 55 = .ok (.if_icmp .ne 15, 3) := by decide +kernel
theorem dX4_touchedBy_58 : decode cX4_touchedBy 58 = .ok (.iload 4, 2) := by decide +kernel
theorem dX4_touchedBy_60 : decode cX4_touchedBy 60 = .ok (.iload_n 3, 1) := by decide +kernel
theorem dX4_touchedBy_61 : decode cX4_touchedBy 61 = .ok (.if_icmp .ne 6, 3) := by decide +kernel
theorem dX4_touchedBy_64 : decode cX4_touchedBy 64 = .ok (.iload 5, 2) := by decide +kernel
theorem dX4_touchedBy_66 : decode cX4_touchedBy 66 = .ok (.ireturn, 1) := by decide +kernel
theorem dX4_touchedBy_67 : decode cX4_touchedBy 67 = .ok (.iinc 4 1, 3) := by decide +kernel
theorem dX4_touchedBy_70 : decode cX4_touchedBy 70 = .ok (.iinc 5 1, 3) := by decide +kernel
theorem dX4_touchedBy_73 : decode cX4_touchedBy 73 = .ok (.goto (-52), 3) := by decide +kernel
theorem dX4_touchedBy_76 : decode cX4_touchedBy 76 = .ok (.iconst (-1), 1) := by decide +kernel
theorem dX4_touchedBy_77 : decode cX4_touchedBy 77 = .ok (.ireturn, 1) := by decide +kernel
theorem dX4_markAbove_0 : decode cX4_markAbove 0 = .ok (.iconst 0, 1) := by decide +kernel
theorem dX4_markAbove_1 : decode cX4_markAbove 1 = .ok (.istore_n 2, 1) := by decide +kernel
theorem dX4_markAbove_2 : decode cX4_markAbove 2 = .ok (.iload_n 2, 1) := by decide +kernel
theorem dX4_markAbove_3 : decode cX4_markAbove 3 = .ok (.aload_n 0, 1) := by decide +kernel
theorem dX4_markAbove_4 : decode cX4_markAbove 4 = .ok (.getfield 9, 3) := by decide +kernel
theorem dX4_markAbove_7 : decode cX4_markAbove 7 = .ok (.getfield 15, 3) := by decide +kernel
theorem dX4_markAbove_10 : decode cX4_markAbove 10 = .ok (.if_icmp .ge 27, 3) := by decide +kernel
theorem dX4_markAbove_13 : decode cX4_markAbove 13 = .ok (.aload_n 0, 1) := by decide +kernel
theorem dX4_markAbove_14 : decode cX4_markAbove 14 = .ok (.getfield 9, 3) := by decide +kernel
theorem dX4_markAbove_17 : decode cX4_markAbove 17 = .ok (.iload_n 2, 1) := by decide +kernel
theorem dX4_markAbove_18 : decode cX4_markAbove 18 = .ok (.invokevirtual 21, 3) := by decide +kernel
theorem dX4_markAbove_21 : decode cX4_markAbove 21 = .ok (.astore_n 3, 1) := by decide +kernel
theorem dX4_markAbove_22 : decode cX4_markAbove 22 = .ok (.aload_n 3, 1) := by decide +kernel
theorem dX4_markAbove_23 : decode cX4_markAbove 23 = .ok (.ifnull 8, 3) := by decide +kernel
theorem dX4_markAbove_26 : decode cX4_markAbove 26 = .ok (.aload_n 3, 1) := by decide +kernel
theorem dX4_markAbove_27 : decode cX4_markAbove 27 = .ok (.iconst 0, 1) := by decide +kernel
theorem dX4_markAbove_28 : decode cX4_markAbove 28 = .ok (.putfield 80, 3) := by decide +kernel
theorem dX4_markAbove_31 : decode cX4_markAbove 31 = .ok (.iinc 2 1, 3) := by decide +kernel
theorem dX4_markAbove_34 : decode cX4_markAbove 34 = .ok (.goto (-32), 3) := by decide +kernel
theorem dX4_markAbove_37 : decode cX4_markAbove 37 = .ok (.aload_n 1, 1) := by decide +kernel
theorem dX4_markAbove_38 : decode cX4_markAbove 38 = .ok (.getfield 84, 3) := by decide +kernel
theorem dX4_markAbove_41 : decode cX4_markAbove 41 = .ok (.istore_n 2, 1) := by decide +kernel
theorem dX4_markAbove_42 : decode cX4_markAbove 42 = .ok (.iload_n 2, 1) := by decide +kernel
theorem dX4_markAbove_43 : decode cX4_markAbove 43 = .ok (.ifCond .lt 48, 3) := by decide +kernel
theorem dX4_markAbove_46 : decode cX4_markAbove 46 = .ok (.aload_n 0, 1) := by decide +kernel
theorem dX4_markAbove_47 : decode cX4_markAbove 47 = .ok (.getfield 9, 3) := by decide +kernel
theorem dX4_markAbove_50 : decode cX4_markAbove 50 = .ok (.iload_n 2, 1) := by decide +kernel
theorem dX4_markAbove_51 : decode cX4_markAbove 51 = .ok (.invokevirtual 21, 3) := by decide +kernel
theorem dX4_markAbove_54 : decode cX4_markAbove 54 = .ok (.astore_n 3, 1) := by decide +kernel
theorem dX4_markAbove_55 : decode cX4_markAbove 55 = .ok (.aload_n 3, 1) := by decide +kernel
theorem dX4_markAbove_56 : decode cX4_markAbove 56 = .ok (.ifnull 29, 3) := by decide +kernel
theorem dX4_markAbove_59 : decode cX4_markAbove 59 = .ok (.aload_n 3, 1) := by decide +kernel
theorem dX4_markAbove_60 : decode cX4_markAbove 60 = .ok (.aload_n 1, 1) := by decide +kernel
theorem dX4_markAbove_61 : decode cX4_markAbove 61 = .ok (.if_acmp .eq 10, 3) := by decide +kernel
theorem dX4_markAbove_64 : decode cX4_markAbove 64 = .ok (.aload_n 3, 1) := by decide +kernel
theorem dX4_markAbove_65 : decode cX4_markAbove 65 = .ok (.getfield 80, 3) := by decide +kernel
theorem dX4_markAbove_68 : decode cX4_markAbove 68 = .ok (.ifCond .eq 17, 3) := by decide +kernel
theorem dX4_markAbove_71 : decode cX4_markAbove 71 = .ok (.aload_n 3, 1) := by decide +kernel
theorem dX4_markAbove_72 : decode cX4_markAbove 72 = .ok (.getfield 25, 3) := by decide +kernel
theorem dX4_markAbove_75 : decode cX4_markAbove 75 = .ok (.invokestatic 87, 3) := by decide +kernel
theorem dX4_markAbove_78 : decode cX4_markAbove 78 = .ok (.aload_n 3, 1) := by decide +kernel
theorem dX4_markAbove_79 : decode cX4_markAbove 79 = .ok (.getfield 35, 3) := by decide +kernel
theorem dX4_markAbove_82 : decode cX4_markAbove 82 = .ok (.invokestatic 87, 3) := by decide +kernel
theorem dX4_markAbove_85 : decode cX4_markAbove 85 = .ok (.iinc 2 (-1), 3) := by decide +kernel
theorem dX4_markAbove_88 : decode cX4_markAbove 88 = .ok (.goto (-46), 3) := by decide +kernel
theorem dX4_markAbove_91 : decode cX4_markAbove 91 = .ok (.return_, 1) := by decide +kernel
theorem dX4_markOneAbove_0 : decode cX4_markOneAbove 0 = .ok (.aload_n 0, 1) := by decide +kernel
theorem dX4_markOneAbove_1 : decode cX4_markOneAbove 1 = .ok (.ifnull 8, 3) := by decide +kernel
theorem dX4_markOneAbove_4 : decode cX4_markOneAbove 4 = .ok (.aload_n 0, 1) := by decide +kernel
theorem dX4_markOneAbove_5 : decode cX4_markOneAbove 5 = .ok (.iconst 1, 1) := by decide +kernel
theorem dX4_markOneAbove_6 : decode cX4_markOneAbove 6 = .ok (.putfield 80, 3) := by decide +kernel
theorem dX4_markOneAbove_9 : decode cX4_markOneAbove 9 = .ok (.return_, 1) := by decide +kernel
theorem dX4_markAkin_0 : decode cX4_markAkin 0 = .ok (.iconst 0, 1) := by decide +kernel
theorem dX4_markAkin_1 : decode cX4_markAkin 1 = .ok (.istore_n 2, 1) := by decide +kernel
theorem dX4_markAkin_2 : decode cX4_markAkin 2 = .ok (.iload_n 2, 1) := by decide +kernel
theorem dX4_markAkin_3 : decode cX4_markAkin 3 = .ok (.aload_n 0, 1) := by decide +kernel
theorem dX4_markAkin_4 : decode cX4_markAkin 4 = .ok (.getfield 9, 3) := by decide +kernel
theorem dX4_markAkin_7 : decode cX4_markAkin 7 = .ok (.getfield 15, 3) := by decide +kernel
theorem dX4_markAkin_10 : decode cX4_markAkin 10 = .ok (.if_icmp .ge 79, 3) := by decide +kernel
theorem dX4_markAkin_13 : decode cX4_markAkin 13 = .ok (.aload_n 0, 1) := by decide +kernel
theorem dX4_markAkin_14 : decode cX4_markAkin 14 = .ok (.getfield 9, 3) := by decide +kernel
theorem dX4_markAkin_17 : decode cX4_markAkin 17 = .ok (.iload_n 2, 1) := by decide +kernel
theorem dX4_markAkin_18 : decode cX4_markAkin 18 = .ok (.invokevirtual 21, 3) := by decide +kernel
theorem dX4_markAkin_21 : decode cX4_markAkin 21 = .ok (.astore_n 3, 1) := by decide +kernel
theorem dX4_markAkin_22 : decode cX4_markAkin 22 = .ok (.aload_n 3, 1) := by decide +kernel
theorem dX4_markAkin_23 : decode cX4_markAkin 23 = .ok (.ifnull 60, 3) := by decide +kernel
theorem dX4_markAkin_26 : decode cX4_markAkin 26 = .ok (.aload_n 3, 1) := by decide +kernel
theorem dX4_markAkin_27 : decode cX4_markAkin 27 = .ok (.aload_n 1, 1) := by decide +kernel
theorem dX4_markAkin_28 : decode cX4_markAkin 28 = .ok (.getfield 25, 3) := by decide +kernel
theorem dX4_markAkin_31 : decode cX4_markAkin 31 = .ok (.if_acmp .eq 11, 3) := by decide +kernel
theorem dX4_markAkin_34 : decode cX4_markAkin 34 = .ok (.aload_n 3, 1) := by decide +kernel
theorem dX4_markAkin_35 : decode cX4_markAkin 35 = .ok (.aload_n 1, 1) := by decide +kernel
theorem dX4_markAkin_36 : decode cX4_markAkin 36 = .ok (.getfield 35, 3) := by decide +kernel
theorem dX4_markAkin_39 : decode cX4_markAkin 39 = .ok (.if_acmp .ne 7, 3) := by decide +kernel
theorem dX4_markAkin_42 : decode cX4_markAkin 42 = .ok (.iconst 1, 1) := by decide +kernel
theorem dX4_markAkin_43 : decode cX4_markAkin 43 = .ok (.goto 4, 3) := by decide +kernel
theorem dX4_markAkin_46 : decode cX4_markAkin 46 = .ok (.iconst 0, 1) := by decide +kernel
theorem dX4_markAkin_47 : decode cX4_markAkin 47 = .ok (.istore 4, 2) := by decide +kernel
theorem dX4_markAkin_49 : decode cX4_markAkin 49 = .ok (.aload_n 3, 1) := by decide +kernel
theorem dX4_markAkin_50 : decode cX4_markAkin 50 = .ok (.iload 4, 2) := by decide +kernel
theorem dX4_markAkin_52 : decode cX4_markAkin 52 = .ok (.ifCond .ne 23, 3) := by decide +kernel
theorem dX4_markAkin_55 : decode cX4_markAkin 55 = .ok (.aload_n 3, 1) := by decide +kernel
theorem dX4_markAkin_56 : decode cX4_markAkin 56 = .ok (.getfield 25, 3) := by decide +kernel
theorem dX4_markAkin_59 : decode cX4_markAkin 59 = .ok (.invokestatic 90, 3) := by decide +kernel
theorem dX4_markAkin_62 : decode cX4_markAkin 62 = .ok (.ifCond .ne 13, 3) := by decide +kernel
theorem dX4_markAkin_65 : decode cX4_markAkin 65 = .ok (.aload_n 3, 1) := by decide +kernel
theorem dX4_markAkin_66 : decode cX4_markAkin 66 = .ok (.getfield 35, 3) := by decide +kernel
theorem dX4_markAkin_69 : decode cX4_markAkin 69 = .ok (.invokestatic 90, 3) := by decide +kernel
theorem dX4_markAkin_72 : decode cX4_markAkin 72 = .ok (.ifCond .eq 7, 3) := by decide +kernel
theorem dX4_markAkin_75 : decode cX4_markAkin 75 = .ok (.iconst 1, 1) := by decide +kernel
theorem dX4_markAkin_76 : decode cX4_markAkin 76 = .ok (.goto 4, 3) := by decide +kernel
theorem dX4_markAkin_79 : decode cX4_markAkin 79 = .ok (.iconst 0, 1) := by decide +kernel
theorem dX4_markAkin_80 : decode cX4_markAkin 80 = .ok (.putfield 94, 3) := by decide +kernel
theorem dX4_markAkin_83 : decode cX4_markAkin 83 = .ok (.iinc 2 1, 3) := by decide +kernel
theorem dX4_markAkin_86 : decode cX4_markAkin 86 = .ok (.goto (-84), 3) := by decide +kernel
theorem dX4_markAkin_89 : decode cX4_markAkin 89 = .ok (.return_, 1) := by decide +kernel
theorem dX4_rowOf_0 : decode cX4_rowOf 0 = .ok (.aload_n 0, 1) := by decide +kernel
theorem dX4_rowOf_1 : decode cX4_rowOf 1 = .ok (.getfield 45, 3) := by decide +kernel
theorem dX4_rowOf_4 : decode cX4_rowOf 4 = .ok (.ifCond .le 5, 3) := by decide +kernel
theorem dX4_rowOf_7 : decode cX4_rowOf 7 = .ok (.iconst 0, 1) := by decide +kernel
theorem dX4_rowOf_8 : decode cX4_rowOf 8 = .ok (.ireturn, 1) := by decide +kernel
theorem dX4_rowOf_9 : decode cX4_rowOf 9 = .ok (.aload_n 0, 1) := by decide +kernel
theorem dX4_rowOf_10 : decode cX4_rowOf 10 = .ok (.getfield 80, 3) := by decide +kernel
theorem dX4_rowOf_13 : decode cX4_rowOf 13 = .ok (.ifCond .eq 5, 3) := by decide +kernel
theorem dX4_rowOf_16 : decode cX4_rowOf 16 = .ok (.iconst 1, 1) := by decide +kernel
theorem dX4_rowOf_17 : decode cX4_rowOf 17 = .ok (.ireturn, 1) := by decide +kernel
theorem dX4_rowOf_18 : decode cX4_rowOf 18 = .ok (.aload_n 0, 1) := by decide +kernel
theorem dX4_rowOf_19 : decode cX4_rowOf 19 = .ok (.getfield 94, 3) := by decide +kernel
theorem dX4_rowOf_22 : decode cX4_rowOf 22 = .ok (.ifCond .eq 7, 3) := by decide +kernel
theorem dX4_rowOf_25 : decode cX4_rowOf 25 = .ok (.iconst 2, 1) := by decide +kernel
theorem dX4_rowOf_26 : decode cX4_rowOf 26 = .ok (.goto 4, 3) := by decide +kernel
theorem dX4_rowOf_29 : decode cX4_rowOf 29 = .ok (.iconst (-1), 1) := by decide +kernel
theorem dX4_rowOf_30 : decode cX4_rowOf 30 = .ok (.ireturn, 1) := by decide +kernel
theorem dX4_linesOf_0 : decode cX4_linesOf 0 = .ok (.aload_n 0, 1) := by decide +kernel
theorem dX4_linesOf_1 : decode cX4_linesOf 1 = .ok (.ifnonnull 7, 3) := by decide +kernel
theorem dX4_linesOf_4 : decode cX4_linesOf 4 = .ok (.iconst 0, 1) := by decide +kernel
theorem dX4_linesOf_5 : decode cX4_linesOf 5 = .ok (.goto 7, 3) := by decide +kernel
theorem dX4_linesOf_8 : decode cX4_linesOf 8 = .ok (.aload_n 0, 1) := by decide +kernel
theorem dX4_linesOf_9 : decode cX4_linesOf 9 = .ok (.getfield 45, 3) := by decide +kernel
theorem dX4_linesOf_12 : decode cX4_linesOf 12 = .ok (.ireturn, 1) := by decide +kernel
theorem dX4_isAkin_0 : decode cX4_isAkin 0 = .ok (.aload_n 0, 1) := by decide +kernel
theorem dX4_isAkin_1 : decode cX4_isAkin 1 = .ok (.ifnull 14, 3) := by decide +kernel
theorem dX4_isAkin_4 : decode cX4_isAkin 4 = .ok (.aload_n 0, 1) := by decide +kernel
theorem dX4_isAkin_5 : decode cX4_isAkin 5 = .ok (.getfield 94, 3) := by decide +kernel
theorem dX4_isAkin_8 : decode cX4_isAkin 8 = .ok (.ifCond .eq 7, 3) := by decide +kernel
theorem dX4_isAkin_11 : decode cX4_isAkin 11 = .ok (.iconst 1, 1) := by decide +kernel
theorem dX4_isAkin_12 : decode cX4_isAkin 12 = .ok (.goto 4, 3) := by decide +kernel
theorem dX4_isAkin_15 : decode cX4_isAkin 15 = .ok (.iconst 0, 1) := by decide +kernel
theorem dX4_isAkin_16 : decode cX4_isAkin 16 = .ok (.ireturn, 1) := by decide +kernel
theorem dX5_init_0 : decode cX5_init 0 = .ok (.aload_n 0, 1) := by decide +kernel
theorem dX5_init_1 : decode cX5_init 1 = .ok (.invokespecial 1, 3) := by decide +kernel
theorem dX5_init_4 : decode cX5_init 4 = .ok (.aload_n 0, 1) := by decide +kernel
theorem dX5_init_5 : decode cX5_init 5 = .ok (.aload_n 1, 1) := by decide +kernel
theorem dX5_init_6 : decode cX5_init 6 = .ok (.putfield 7, 3) := by decide +kernel
theorem dX5_init_9 : decode cX5_init 9 = .ok (.aload_n 0, 1) := by decide +kernel
theorem dX5_init_10 : decode cX5_init 10 = .ok (.iload_n 2, 1) := by decide +kernel
theorem dX5_init_11 : decode cX5_init 11 = .ok (.putfield 13, 3) := by decide +kernel
theorem dX5_init_14 : decode cX5_init 14 = .ok (.aload_n 0, 1) := by decide +kernel
theorem dX5_init_15 : decode cX5_init 15 = .ok (.aload_n 1, 1) := by decide +kernel
theorem dX5_init_16 : decode cX5_init 16 = .ok (.ifnonnull 7, 3) := by decide +kernel
theorem dX5_init_19 : decode cX5_init 19 = .ok (.iconst 1, 1) := by decide +kernel
theorem dX5_init_20 : decode cX5_init 20 = .ok (.goto 9, 3) := by decide +kernel
theorem dX5_init_23 : decode cX5_init 23 = .ok (.aload_n 1, 1) := by decide +kernel
theorem dX5_init_24 : decode cX5_init 24 = .ok (.getfield 17, 3) := by decide +kernel
theorem dX5_init_27 : decode cX5_init 27 = .ok (.iconst 1, 1) := by decide +kernel
theorem dX5_init_28 : decode cX5_init 28 = .ok (.iadd, 1) := by decide +kernel
theorem dX5_init_29 : decode cX5_init 29 = .ok (.putfield 17, 3) := by decide +kernel
theorem dX5_init_32 : decode cX5_init 32 = .ok (.aload_n 0, 1) := by decide +kernel
theorem dX5_init_33 : decode cX5_init 33 = .ok (.aload_n 1, 1) := by decide +kernel
theorem dX5_init_34 : decode cX5_init 34 = .ok (.ifnonnull 7, 3) := by decide +kernel
theorem dX5_init_37 : decode cX5_init 37 = .ok (.iload_n 3, 1) := by decide +kernel
theorem dX5_init_38 : decode cX5_init 38 = .ok (.goto 9, 3) := by decide +kernel
theorem dX5_init_41 : decode cX5_init 41 = .ok (.aload_n 1, 1) := by decide +kernel
theorem dX5_init_42 : decode cX5_init 42 = .ok (.getfield 20, 3) := by decide +kernel
theorem dX5_init_45 : decode cX5_init 45 = .ok (.iload_n 3, 1) := by decide +kernel
theorem dX5_init_46 : decode cX5_init 46 = .ok (.iadd, 1) := by decide +kernel
theorem dX5_init_47 : decode cX5_init 47 = .ok (.putfield 20, 3) := by decide +kernel
theorem dX5_init_50 : decode cX5_init 50 = .ok (.aload_n 0, 1) := by decide +kernel
theorem dX5_init_51 : decode cX5_init 51 = .ok (.aload_n 1, 1) := by decide +kernel
theorem dX5_init_52 : decode cX5_init 52 = .ok (.ifnonnull 8, 3) := by decide +kernel
theorem dX5_init_55 : decode cX5_init 55 = .ok (.iload 4, 2) := by decide +kernel
theorem dX5_init_57 : decode cX5_init 57 = .ok (.goto 10, 3) := by decide +kernel
theorem dX5_init_60 : decode cX5_init 60 = .ok (.aload_n 1, 1) := by decide +kernel
theorem dX5_init_61 : decode cX5_init 61 = .ok (.getfield 23, 3) := by decide +kernel
theorem dX5_init_64 : decode cX5_init 64 = .ok (.iload 4, 2) := by decide +kernel
theorem dX5_init_66 : decode cX5_init 66 = .ok (.iadd, 1) := by decide +kernel
theorem dX5_init_67 : decode cX5_init 67 = .ok (.putfield 23, 3) := by decide +kernel
theorem dX5_init_70 : decode cX5_init 70 = .ok (.return_, 1) := by decide +kernel
theorem dX6_init_0 : decode cX6_init 0 = .ok (.aload_n 0, 1) := by decide +kernel
theorem dX6_init_1 : decode cX6_init 1 = .ok (.invokespecial 3, 3) := by decide +kernel
theorem dX6_init_4 : decode cX6_init 4 = .ok (.aload_n 0, 1) := by decide +kernel
theorem dX6_init_5 : decode cX6_init 5 = .ok (.aconst_null, 1) := by decide +kernel
theorem dX6_init_6 : decode cX6_init 6 = .ok (.putfield 9, 3) := by decide +kernel
theorem dX6_init_9 : decode cX6_init 9 = .ok (.aload_n 0, 1) := by decide +kernel
theorem dX6_init_10 : decode cX6_init 10 = .ok (.aconst_null, 1) := by decide +kernel
theorem dX6_init_11 : decode cX6_init 11 = .ok (.putfield 15, 3) := by decide +kernel
theorem dX6_init_14 : decode cX6_init 14 = .ok (.aload_n 0, 1) := by decide +kernel
theorem dX6_init_15 : decode cX6_init 15 = .ok (.aconst_null, 1) := by decide +kernel
theorem dX6_init_16 : decode cX6_init 16 = .ok (.putfield 19, 3) := by decide +kernel
theorem dX6_init_19 : decode cX6_init 19 = .ok (.aload_n 0, 1) := by decide +kernel
theorem dX6_init_20 : decode cX6_init 20 = .ok (.iconst 0, 1) := by decide +kernel
theorem dX6_init_21 : decode cX6_init 21 = .ok (.putfield 22, 3) := by decide +kernel
theorem dX6_init_24 : decode cX6_init 24 = .ok (.aload_n 0, 1) := by decide +kernel
theorem dX6_init_25 : decode cX6_init 25 = .ok (.iconst (-1), 1) := by decide +kernel
theorem dX6_init_26 : decode cX6_init 26 = .ok (.putfield 26, 3) := by decide +kernel
theorem dX6_init_29 : decode cX6_init 29 = .ok (.aload_n 0, 1) := by decide +kernel
theorem dX6_init_30 : decode cX6_init 30 = .ok (.iconst 0, 1) := by decide +kernel
theorem dX6_init_31 : decode cX6_init 31 = .ok (.putfield 29, 3) := by decide +kernel
theorem dX6_init_34 : decode cX6_init 34 = .ok (.aload_n 0, 1) := by decide +kernel
theorem dX6_init_35 : decode cX6_init 35 = .ok (.iconst 0, 1) := by decide +kernel
theorem dX6_init_36 : decode cX6_init 36 = .ok (.putfield 32, 3) := by decide +kernel
theorem dX6_init_39 : decode cX6_init 39 = .ok (.aload_n 0, 1) := by decide +kernel
theorem dX6_init_40 : decode cX6_init 40 = .ok (.iconst 0, 1) := by decide +kernel
theorem dX6_init_41 : decode cX6_init 41 = .ok (.putfield 35, 3) := by decide +kernel
theorem dX6_init_44 : decode cX6_init 44 = .ok (.aload_n 0, 1) := by decide +kernel
theorem dX6_init_45 : decode cX6_init 45 = .ok (.iconst 0, 1) := by decide +kernel
theorem dX6_init_46 : decode cX6_init 46 = .ok (.putfield 38, 3) := by decide +kernel
theorem dX6_init_49 : decode cX6_init 49 = .ok (.aload_n 0, 1) := by decide +kernel
theorem dX6_init_50 : decode cX6_init 50 = .ok (.aconst_null, 1) := by decide +kernel
theorem dX6_init_51 : decode cX6_init 51 = .ok (.putfield 41, 3) := by decide +kernel
theorem dX6_init_54 : decode cX6_init 54 = .ok (.aload_n 0, 1) := by decide +kernel
theorem dX6_init_55 : decode cX6_init 55 = .ok (.iconst (-1), 1) := by decide +kernel
theorem dX6_init_56 : decode cX6_init 56 = .ok (.putfield 45, 3) := by decide +kernel
theorem dX6_init_59 : decode cX6_init 59 = .ok (.aload_n 0, 1) := by decide +kernel
theorem dX6_init_60 : decode cX6_init 60 = .ok (.iconst 0, 1) := by decide +kernel
theorem dX6_init_61 : decode cX6_init 61 = .ok (.putfield 48, 3) := by decide +kernel
theorem dX6_init_64 : decode cX6_init 64 = .ok (.aload_n 0, 1) := by decide +kernel
theorem dX6_init_65 : decode cX6_init 65 = .ok (.iconst 0, 1) := by decide +kernel
theorem dX6_init_66 : decode cX6_init 66 = .ok (.putfield 51, 3) := by decide +kernel
theorem dX6_init_69 : decode cX6_init 69 = .ok (.aload_n 0, 1) := by decide +kernel
theorem dX6_init_70 : decode cX6_init 70 = .ok (.iconst 0, 1) := by decide +kernel
theorem dX6_init_71 : decode cX6_init 71 = .ok (.putfield 54, 3) := by decide +kernel
theorem dX6_init_74 : decode cX6_init 74 = .ok (.aload_n 0, 1) := by decide +kernel
theorem dX6_init_75 : decode cX6_init 75 = .ok (.iconst 0, 1) := by decide +kernel
theorem dX6_init_76 : decode cX6_init 76 = .ok (.putfield 57, 3) := by decide +kernel
theorem dX6_init_79 : decode cX6_init 79 = .ok (.aload_n 0, 1) := by decide +kernel
theorem dX6_init_80 : decode cX6_init 80 = .ok (.iconst 0, 1) := by decide +kernel
theorem dX6_init_81 : decode cX6_init 81 = .ok (.putfield 61, 3) := by decide +kernel
theorem dX6_init_84 : decode cX6_init 84 = .ok (.aload_n 0, 1) := by decide +kernel
theorem dX6_init_85 : decode cX6_init 85 = .ok (.iload_n 1, 1) := by decide +kernel
theorem dX6_init_86 : decode cX6_init 86 = .ok (.putfield 64, 3) := by decide +kernel
theorem dX6_init_89 : decode cX6_init 89 = .ok (.aload_n 0, 1) := by decide +kernel
theorem dX6_init_90 : decode cX6_init 90 = .ok (.iload_n 2, 1) := by decide +kernel
theorem dX6_init_91 : decode cX6_init 91 = .ok (.putfield 67, 3) := by decide +kernel
theorem dX6_init_94 : decode cX6_init 94 = .ok (.aload_n 0, 1) := by decide +kernel
theorem dX6_init_95 : decode cX6_init 95 = .ok (.iload_n 3, 1) := by decide +kernel
theorem dX6_init_96 : decode cX6_init 96 = .ok (.putfield 70, 3) := by decide +kernel
theorem dX6_init_99 : decode cX6_init 99 = .ok (.aload_n 0, 1) := by decide +kernel
theorem dX6_init_100 : decode cX6_init 100 = .ok (.iload 4, 2) := by decide +kernel
theorem dX6_init_102 : decode cX6_init 102 = .ok (.putfield 73, 3) := by decide +kernel
theorem dX6_init_105 : decode cX6_init 105 = .ok (.return_, 1) := by decide +kernel
theorem dX6_gain_0 : decode cX6_gain 0 = .ok (.aload_n 0, 1) := by decide +kernel
theorem dX6_gain_1 : decode cX6_gain 1 = .ok (.iload_n 1, 1) := by decide +kernel
theorem dX6_gain_2 : decode cX6_gain 2 = .ok (.putfield 22, 3) := by decide +kernel
theorem dX6_gain_5 : decode cX6_gain 5 = .ok (.aload_n 0, 1) := by decide +kernel
theorem dX6_gain_6 : decode cX6_gain 6 = .ok (.iload_n 1, 1) := by decide +kernel
theorem dX6_gain_7 : decode cX6_gain 7 = .ok (.putfield 26, 3) := by decide +kernel
theorem dX6_gain_10 : decode cX6_gain 10 = .ok (.return_, 1) := by decide +kernel
theorem dX6_has_0 : decode cX6_has 0 = .ok (.iload_n 1, 1) := by decide +kernel
theorem dX6_has_1 : decode cX6_has 1 = .ok (.iconst 1, 1) := by decide +kernel
theorem dX6_has_2 : decode cX6_has 2 = .ok (.if_icmp .lt 15, 3) := by decide +kernel
theorem dX6_has_5 : decode cX6_has 5 = .ok (.iload_n 1, 1) := by decide +kernel
theorem dX6_has_6 : decode cX6_has 6 = .ok (.aload_n 0, 1) := by decide +kernel
theorem dX6_has_7 : decode cX6_has 7 = .ok (.getfield 22, 3) := by decide +kernel
theorem dX6_has_10 : decode cX6_has 10 = .ok (.if_icmp .gt 7, 3) := by decide +kernel
theorem dX6_has_13 : decode cX6_has 13 = .ok (.iconst 1, 1) := by decide +kernel
theorem dX6_has_14 : decode cX6_has 14 = .ok (.goto 4, 3) := by decide +kernel
theorem dX6_has_17 : decode cX6_has 17 = .ok (.iconst 0, 1) := by decide +kernel
theorem dX6_has_18 : decode cX6_has 18 = .ok (.ireturn, 1) := by decide +kernel
theorem dX6_isFalseAsKnownIn_0 : decode cX6_isFalseAsKnownIn 0 = .ok (.aload_n 0, 1) := by decide +kernel
theorem dX6_isFalseAsKnownIn_1 : decode cX6_isFalseAsKnownIn 1 = .ok (.getfield 45, 3) := by decide +kernel
theorem dX6_isFalseAsKnownIn_4 : decode cX6_isFalseAsKnownIn 4 = .ok (.iconst (-1), 1) := by decide +kernel
theorem dX6_isFalseAsKnownIn_5 : decode cX6_isFalseAsKnownIn 5 = .ok (.if_icmp .eq 15, 3) := by decide +kernel
theorem dX6_isFalseAsKnownIn_8 : decode cX6_isFalseAsKnownIn 8 = .ok (.aload_n 0, 1) := by decide +kernel
theorem dX6_isFalseAsKnownIn_9 : decode cX6_isFalseAsKnownIn 9 = .ok (.getfield 45, 3) := by decide +kernel
theorem dX6_isFalseAsKnownIn_12 : decode cX6_isFalseAsKnownIn 12 = .ok (.iload_n 1, 1) := by decide +kernel
theorem dX6_isFalseAsKnownIn_13 : decode cX6_isFalseAsKnownIn 13 = .ok (.if_icmp .gt 7, 3) := by decide +kernel
theorem dX6_isFalseAsKnownIn_16 : decode cX6_isFalseAsKnownIn 16 = .ok (.iconst 1, 1) := by decide +kernel
theorem dX6_isFalseAsKnownIn_17 : decode cX6_isFalseAsKnownIn 17 = .ok (.goto 4, 3) := by decide +kernel
theorem dX6_isFalseAsKnownIn_20 : decode cX6_isFalseAsKnownIn 20 = .ok (.iconst 0, 1) := by decide +kernel
theorem dX6_isFalseAsKnownIn_21 : decode cX6_isFalseAsKnownIn 21 = .ok (.ireturn, 1) := by decide +kernel
theorem dX6_lookCount_0 : decode cX6_lookCount 0 = .ok (.aload_n 0, 1) := by decide +kernel
theorem dX6_lookCount_1 : decode cX6_lookCount 1 = .ok (.getfield 41, 3) := by decide +kernel
theorem dX6_lookCount_4 : decode cX6_lookCount 4 = .ok (.ifnonnull 7, 3) := by decide +kernel
theorem dX6_lookCount_7 : decode cX6_lookCount 7 = .ok (.iconst 0, 1) := by decide +kernel
theorem dX6_lookCount_8 : decode cX6_lookCount 8 = .ok (.goto 10, 3) := by decide +kernel
theorem dX6_lookCount_11 : decode cX6_lookCount 11 = .ok (.aload_n 0, 1) := by decide +kernel
theorem dX6_lookCount_12 : decode cX6_lookCount 12 = .ok (.getfield 41, 3) := by decide +kernel
theorem dX6_lookCount_15 : decode cX6_lookCount 15 = .ok (.getfield 76, 3) := by decide +kernel
theorem dX6_lookCount_18 : decode cX6_lookCount 18 = .ok (.ireturn, 1) := by decide +kernel
theorem dX6_lastLookAsKnownIn_0 : decode cX6_lastLookAsKnownIn 0 = .ok (.aload_n 0, 1) := by decide +kernel
theorem dX6_lastLookAsKnownIn_1 : decode cX6_lastLookAsKnownIn 1 = .ok (.getfield 41, 3) := by decide +kernel
theorem dX6_lastLookAsKnownIn_4 : decode cX6_lastLookAsKnownIn 4 = .ok (.astore_n 2, 1) := by decide +kernel
theorem dX6_lastLookAsKnownIn_5 : decode cX6_lastLookAsKnownIn 5 = .ok (.aload_n 2, 1) := by decide +kernel
theorem dX6_lastLookAsKnownIn_6 : decode cX6_lastLookAsKnownIn 6 = .ok (.ifnull 21, 3) := by decide +kernel
theorem dX6_lastLookAsKnownIn_9 : decode cX6_lastLookAsKnownIn 9 = .ok (.aload_n 2, 1) := by decide +kernel
theorem dX6_lastLookAsKnownIn_10 : decode cX6_lastLookAsKnownIn 10 = .ok (.getfield 79, 3) := by decide +kernel
theorem dX6_lastLookAsKnownIn_13 : decode cX6_lastLookAsKnownIn 13 = .ok (.iload_n 1, 1) := by decide +kernel
theorem dX6_lastLookAsKnownIn_14 : decode cX6_lastLookAsKnownIn 14 = .ok (.if_icmp .gt 5, 3) := by decide +kernel
theorem dX6_lastLookAsKnownIn_17 : decode cX6_lastLookAsKnownIn 17 = .ok (.aload_n 2, 1) := by decide +kernel
theorem dX6_lastLookAsKnownIn_18 : decode cX6_lastLookAsKnownIn 18 = .ok (.areturn, 1) := by decide +kernel
theorem dX6_lastLookAsKnownIn_19 : decode cX6_lastLookAsKnownIn 19 = .ok (.aload_n 2, 1) := by decide +kernel
theorem dX6_lastLookAsKnownIn_20 : decode cX6_lastLookAsKnownIn 20 = .ok (.getfield 82, 3) := by decide +kernel
theorem dX6_lastLookAsKnownIn_23 : decode cX6_lastLookAsKnownIn 23 = .ok (.astore_n 2, 1) := by decide +kernel
theorem dX6_lastLookAsKnownIn_24 : decode cX6_lastLookAsKnownIn 24 = .ok (.goto (-19), 3) := by decide +kernel
theorem dX6_lastLookAsKnownIn_27 : decode cX6_lastLookAsKnownIn 27 = .ok (.aconst_null, 1) := by decide +kernel
theorem dX6_lastLookAsKnownIn_28 : decode cX6_lastLookAsKnownIn 28 = .ok (.areturn, 1) := by decide +kernel
theorem dX6_about_0 : decode cX6_about 0 = .ok (.iload_n 1, 1) := by decide +kernel
theorem dX6_about_1 : decode cX6_about 1 = .ok (.tableswitch 183 0 13 #[71, 76, 81, 86, 91, 110, 129, 148, 153, 158, 163, 168, 173, 178], 71) := by decide +kernel
theorem dX6_about_72 : decode cX6_about 72 = .ok (.aload_n 0, 1) := by decide +kernel
theorem dX6_about_73 : decode cX6_about 73 = .ok (.getfield 67, 3) := by decide +kernel
theorem dX6_about_76 : decode cX6_about 76 = .ok (.ireturn, 1) := by decide +kernel
theorem dX6_about_77 : decode cX6_about 77 = .ok (.aload_n 0, 1) := by decide +kernel
theorem dX6_about_78 : decode cX6_about 78 = .ok (.getfield 70, 3) := by decide +kernel
theorem dX6_about_81 : decode cX6_about 81 = .ok (.ireturn, 1) := by decide +kernel
theorem dX6_about_82 : decode cX6_about 82 = .ok (.aload_n 0, 1) := by decide +kernel
theorem dX6_about_83 : decode cX6_about 83 = .ok (.getfield 22, 3) := by decide +kernel
theorem dX6_about_86 : decode cX6_about 86 = .ok (.ireturn, 1) := by decide +kernel
theorem dX6_about_87 : decode cX6_about 87 = .ok (.aload_n 0, 1) := by decide +kernel
theorem dX6_about_88 : decode cX6_about 88 = .ok (.getfield 73, 3) := by decide +kernel
theorem dX6_about_91 : decode cX6_about 91 = .ok (.ireturn, 1) := by decide +kernel
theorem dX6_about_92 : decode cX6_about 92 = .ok (.aload_n 0, 1) := by decide +kernel
theorem dX6_about_93 : decode cX6_about 93 = .ok (.getfield 9, 3) := by decide +kernel
theorem dX6_about_96 : decode cX6_about 96 = .ok (.ifnonnull 7, 3) := by decide +kernel
theorem dX6_about_99 : decode cX6_about 99 = .ok (.iconst (-1), 1) := by decide +kernel
theorem dX6_about_100 : decode cX6_about 100 = .ok (.goto 10, 3) := by decide +kernel
theorem dX6_about_103 : decode cX6_about 103 = .ok (.aload_n 0, 1) := by decide +kernel
theorem dX6_about_104 : decode cX6_about 104 = .ok (.getfield 9, 3) := by decide +kernel
theorem dX6_about_107 : decode cX6_about 107 = .ok (.getfield 85, 3) := by decide +kernel
theorem dX6_about_110 : decode cX6_about 110 = .ok (.ireturn, 1) := by decide +kernel
theorem dX6_about_111 : decode cX6_about 111 = .ok (.aload_n 0, 1) := by decide +kernel
theorem dX6_about_112 : decode cX6_about 112 = .ok (.getfield 15, 3) := by decide +kernel
theorem dX6_about_115 : decode cX6_about 115 = .ok (.ifnonnull 7, 3) := by decide +kernel
theorem dX6_about_118 : decode cX6_about 118 = .ok (.iconst (-1), 1) := by decide +kernel
theorem dX6_about_119 : decode cX6_about 119 = .ok (.goto 10, 3) := by decide +kernel
theorem dX6_about_122 : decode cX6_about 122 = .ok (.aload_n 0, 1) := by decide +kernel
theorem dX6_about_123 : decode cX6_about 123 = .ok (.getfield 15, 3) := by decide +kernel
theorem dX6_about_126 : decode cX6_about 126 = .ok (.getfield 64, 3) := by decide +kernel
theorem dX6_about_129 : decode cX6_about 129 = .ok (.ireturn, 1) := by decide +kernel
theorem dX6_about_130 : decode cX6_about 130 = .ok (.aload_n 0, 1) := by decide +kernel
theorem dX6_about_131 : decode cX6_about 131 = .ok (.getfield 19, 3) := by decide +kernel
theorem dX6_about_134 : decode cX6_about 134 = .ok (.ifnonnull 7, 3) := by decide +kernel
theorem dX6_about_137 : decode cX6_about 137 = .ok (.iconst (-1), 1) := by decide +kernel
theorem dX6_about_138 : decode cX6_about 138 = .ok (.goto 10, 3) := by decide +kernel
theorem dX6_about_141 : decode cX6_about 141 = .ok (.aload_n 0, 1) := by decide +kernel
theorem dX6_about_142 : decode cX6_about 142 = .ok (.getfield 19, 3) := by decide +kernel
theorem dX6_about_145 : decode cX6_about 145 = .ok (.getfield 64, 3) := by decide +kernel
theorem dX6_about_148 : decode cX6_about 148 = .ok (.ireturn, 1) := by decide +kernel
theorem dX6_about_149 : decode cX6_about 149 = .ok (.aload_n 0, 1) := by decide +kernel
theorem dX6_about_150 : decode cX6_about 150 = .ok (.getfield 26, 3) := by decide +kernel
theorem dX6_about_153 : decode cX6_about 153 = .ok (.ireturn, 1) := by decide +kernel
theorem dX6_about_154 : decode cX6_about 154 = .ok (.aload_n 0, 1) := by decide +kernel
theorem dX6_about_155 : decode cX6_about 155 = .ok (.getfield 29, 3) := by decide +kernel
theorem dX6_about_158 : decode cX6_about 158 = .ok (.ireturn, 1) := by decide +kernel
theorem dX6_about_159 : decode cX6_about 159 = .ok (.aload_n 0, 1) := by decide +kernel
theorem dX6_about_160 : decode cX6_about 160 = .ok (.getfield 32, 3) := by decide +kernel
theorem dX6_about_163 : decode cX6_about 163 = .ok (.ireturn, 1) := by decide +kernel
theorem dX6_about_164 : decode cX6_about 164 = .ok (.aload_n 0, 1) := by decide +kernel
theorem dX6_about_165 : decode cX6_about 165 = .ok (.getfield 35, 3) := by decide +kernel
theorem dX6_about_168 : decode cX6_about 168 = .ok (.ireturn, 1) := by decide +kernel
theorem dX6_about_169 : decode cX6_about 169 = .ok (.aload_n 0, 1) := by decide +kernel
theorem dX6_about_170 : decode cX6_about 170 = .ok (.getfield 38, 3) := by decide +kernel
theorem dX6_about_173 : decode cX6_about 173 = .ok (.ireturn, 1) := by decide +kernel
theorem dX6_about_174 : decode cX6_about 174 = .ok (.aload_n 0, 1) := by decide +kernel
theorem dX6_about_175 : decode cX6_about 175 = .ok (.invokevirtual 88, 3) := by decide +kernel
theorem dX6_about_178 : decode cX6_about 178 = .ok (.ireturn, 1) := by decide +kernel
theorem dX6_about_179 : decode cX6_about 179 = .ok (.aload_n 0, 1) := by decide +kernel
theorem dX6_about_180 : decode cX6_about 180 = .ok (.getfield 45, 3) := by decide +kernel
theorem dX6_about_183 : decode cX6_about 183 = .ok (.ireturn, 1) := by decide +kernel
theorem dX6_about_184 : decode cX6_about 184 = .ok (.iconst (-1), 1) := by decide +kernel
theorem dX6_about_185 : decode cX6_about 185 = .ok (.ireturn, 1) := by decide +kernel
theorem dX6_rankOfMothers_0 : decode cX6_rankOfMothers 0 = .ok (.aload_n 0, 1) := by decide +kernel
theorem dX6_rankOfMothers_1 : decode cX6_rankOfMothers 1 = .ok (.getfield 15, 3) := by decide +kernel
theorem dX6_rankOfMothers_4 : decode cX6_rankOfMothers 4 = .ok (.ifnonnull 7, 3) := by decide +kernel
theorem dX6_rankOfMothers_7 : decode cX6_rankOfMothers 7 = .ok (.iconst 0, 1) := by decide +kernel
theorem dX6_rankOfMothers_8 : decode cX6_rankOfMothers 8 = .ok (.goto 10, 3) := by decide +kernel
theorem dX6_rankOfMothers_11 : decode cX6_rankOfMothers 11 = .ok (.aload_n 0, 1) := by decide +kernel
theorem dX6_rankOfMothers_12 : decode cX6_rankOfMothers 12 = .ok (.getfield 15, 3) := by decide +kernel
theorem dX6_rankOfMothers_15 : decode cX6_rankOfMothers 15 = .ok (.getfield 48, 3) := by decide +kernel
theorem dX6_rankOfMothers_18 : decode cX6_rankOfMothers 18 = .ok (.istore_n 1, 1) := by decide +kernel
theorem dX6_rankOfMothers_19 : decode cX6_rankOfMothers 19 = .ok (.aload_n 0, 1) := by decide +kernel
theorem dX6_rankOfMothers_20 : decode cX6_rankOfMothers 20 = .ok (.getfield 19, 3) := by decide +kernel
theorem dX6_rankOfMothers_23 : decode cX6_rankOfMothers 23 = .ok (.ifnonnull 7, 3) := by decide +kernel
theorem dX6_rankOfMothers_26 : decode cX6_rankOfMothers 26 = .ok (.iconst 0, 1) := by decide +kernel
theorem dX6_rankOfMothers_27 : decode cX6_rankOfMothers 27 = .ok (.goto 10, 3) := by decide +kernel
theorem dX6_rankOfMothers_30 : decode cX6_rankOfMothers 30 = .ok (.aload_n 0, 1) := by decide +kernel
theorem dX6_rankOfMothers_31 : decode cX6_rankOfMothers 31 = .ok (.getfield 19, 3) := by decide +kernel
theorem dX6_rankOfMothers_34 : decode cX6_rankOfMothers 34 = .ok (.getfield 48, 3) := by decide +kernel
theorem dX6_rankOfMothers_37 : decode cX6_rankOfMothers 37 = .ok (.istore_n 2, 1) := by decide +kernel
theorem dX6_rankOfMothers_38 : decode cX6_rankOfMothers 38 = .ok (.iload_n 1, 1) := by decide +kernel
theorem dX6_rankOfMothers_39 : decode cX6_rankOfMothers 39 = .ok (.iload_n 2, 1) := by decide +kernel
theorem dX6_rankOfMothers_40 : decode cX6_rankOfMothers 40 = .ok (.if_icmp .le 7, 3) := by decide +kernel
theorem dX6_rankOfMothers_43 : decode cX6_rankOfMothers 43 = .ok (.iload_n 1, 1) := by decide +kernel
theorem dX6_rankOfMothers_44 : decode cX6_rankOfMothers 44 = .ok (.goto 4, 3) := by decide +kernel
theorem dX6_rankOfMothers_47 : decode cX6_rankOfMothers 47 = .ok (.iload_n 2, 1) := by decide +kernel
theorem dX6_rankOfMothers_48 : decode cX6_rankOfMothers 48 = .ok (.ireturn, 1) := by decide +kernel
theorem dX7_init_0 : decode cX7_init 0 = .ok (.aload_n 0, 1) := by decide +kernel
theorem dX7_init_1 : decode cX7_init 1 = .ok (.invokespecial 3, 3) := by decide +kernel
theorem dX7_init_4 : decode cX7_init 4 = .ok (.aload_n 0, 1) := by decide +kernel
theorem dX7_init_5 : decode cX7_init 5 = .ok (.iconst 5, 1) := by decide +kernel
theorem dX7_init_6 : decode cX7_init 6 = .ok (.anewarray 9, 3) := by decide +kernel
theorem dX7_init_9 : decode cX7_init 9 = .ok (.putfield 11, 3) := by decide +kernel
theorem dX7_init_12 : decode cX7_init 12 = .ok (.aload_n 0, 1) := by decide +kernel
theorem dX7_init_13 : decode cX7_init 13 = .ok (.iconst 5, 1) := by decide +kernel
theorem dX7_init_14 : decode cX7_init 14 = .ok (.newarray .int, 2) := by decide +kernel
theorem dX7_init_16 : decode cX7_init 16 = .ok (.putfield 17, 3) := by decide +kernel
theorem dX7_init_19 : decode cX7_init 19 = .ok (.aload_n 0, 1) := by decide +kernel
theorem dX7_init_20 : decode cX7_init 20 = .ok (.bipush 6, 2) := by decide +kernel
theorem dX7_init_22 : decode cX7_init 22 = .ok (.newarray .int, 2) := by decide +kernel
theorem dX7_init_24 : decode cX7_init 24 = .ok (.putfield 21, 3) := by decide +kernel
theorem dX7_init_27 : decode cX7_init 27 = .ok (.aload_n 0, 1) := by decide +kernel
theorem dX7_init_28 : decode cX7_init 28 = .ok (.iconst 5, 1) := by decide +kernel
theorem dX7_init_29 : decode cX7_init 29 = .ok (.newarray .int, 2) := by decide +kernel
theorem dX7_init_31 : decode cX7_init 31 = .ok (.putfield 24, 3) := by decide +kernel
theorem dX7_init_34 : decode cX7_init 34 = .ok (.aload_n 0, 1) := by decide +kernel
theorem dX7_init_35 : decode cX7_init 35 = .ok (.iconst 5, 1) := by decide +kernel
theorem dX7_init_36 : decode cX7_init 36 = .ok (.newarray .int, 2) := by decide +kernel
theorem dX7_init_38 : decode cX7_init 38 = .ok (.putfield 27, 3) := by decide +kernel
theorem dX7_init_41 : decode cX7_init 41 = .ok (.aload_n 0, 1) := by decide +kernel
theorem dX7_init_42 : decode cX7_init 42 = .ok (.iconst (-1), 1) := by decide +kernel
theorem dX7_init_43 : decode cX7_init 43 = .ok (.putfield 30, 3) := by decide +kernel
theorem dX7_init_46 : decode cX7_init 46 = .ok (.aload_n 0, 1) := by decide +kernel
theorem dX7_init_47 : decode cX7_init 47 = .ok (.iconst 0, 1) := by decide +kernel
theorem dX7_init_48 : decode cX7_init 48 = .ok (.putfield 34, 3) := by decide +kernel
theorem dX7_init_51 : decode cX7_init 51 = .ok (.aload_n 0, 1) := by decide +kernel
theorem dX7_init_52 : decode cX7_init 52 = .ok (.aload_n 1, 1) := by decide +kernel
theorem dX7_init_53 : decode cX7_init 53 = .ok (.putfield 37, 3) := by decide +kernel
theorem dX7_init_56 : decode cX7_init 56 = .ok (.return_, 1) := by decide +kernel
theorem dX7_forgetAll_0 : decode cX7_forgetAll 0 = .ok (.aload_n 0, 1) := by decide +kernel
theorem dX7_forgetAll_1 : decode cX7_forgetAll 1 = .ok (.iconst 0, 1) := by decide +kernel
theorem dX7_forgetAll_2 : decode cX7_forgetAll 2 = .ok (.putfield 34, 3) := by decide +kernel
theorem dX7_forgetAll_5 : decode cX7_forgetAll 5 = .ok (.return_, 1) := by decide +kernel
theorem dX7_add_0 : decode cX7_add 0 = .ok (.aload_n 0, 1) := by decide +kernel
theorem dX7_add_1 : decode cX7_add 1 = .ok (.getfield 34, 3) := by decide +kernel
theorem dX7_add_4 : decode cX7_add 4 = .ok (.aload_n 0, 1) := by decide +kernel
theorem dX7_add_5 : decode cX7_add 5 = .ok (.getfield 11, 3) := by decide +kernel
theorem dX7_add_8 : decode cX7_add 8 = .ok (.arraylength, 1) := by decide +kernel
theorem dX7_add_9 : decode cX7_add 9 = .ok (.if_icmp .lt 5, 3) := by decide +kernel
theorem dX7_add_12 : decode cX7_add 12 = .ok (.iconst (-1), 1) := by decide +kernel
theorem dX7_add_13 : decode cX7_add 13 = .ok (.ireturn, 1) := by decide +kernel
theorem dX7_add_14 : decode cX7_add 14 = .ok (.iconst 0, 1) := by decide +kernel
theorem dX7_add_15 : decode cX7_add 15 = .ok (.istore_n 2, 1) := by decide +kernel
theorem dX7_add_16 : decode cX7_add 16 = .ok (.iload_n 2, 1) := by decide +kernel
theorem dX7_add_17 : decode cX7_add 17 = .ok (.aload_n 0, 1) := by decide +kernel
theorem dX7_add_18 : decode cX7_add 18 = .ok (.getfield 34, 3) := by decide +kernel
theorem dX7_add_21 : decode cX7_add 21 = .ok (.if_icmp .ge 21, 3) := by decide +kernel
theorem dX7_add_24 : decode cX7_add 24 = .ok (.aload_n 0, 1) := by decide +kernel
theorem dX7_add_25 : decode cX7_add 25 = .ok (.getfield 11, 3) := by decide +kernel
theorem dX7_add_28 : decode cX7_add 28 = .ok (.iload_n 2, 1) := by decide +kernel
theorem dX7_add_29 : decode cX7_add 29 = .ok (.aaload, 1) := by decide +kernel
theorem dX7_add_30 : decode cX7_add 30 = .ok (.aload_n 1, 1) := by decide +kernel
theorem dX7_add_31 : decode cX7_add 31 = .ok (.if_acmp .ne 5, 3) := by decide +kernel
theorem dX7_add_34 : decode cX7_add 34 = .ok (.iconst (-1), 1) := by decide +kernel
theorem dX7_add_35 : decode cX7_add 35 = .ok (.ireturn, 1) := by decide +kernel
theorem dX7_add_36 : decode cX7_add 36 = .ok (.iinc 2 1, 3) := by decide +kernel
theorem dX7_add_39 : decode cX7_add 39 = .ok (.goto (-23), 3) := by decide +kernel
theorem dX7_add_42 : decode cX7_add 42 = .ok (.aload_n 0, 1) := by decide +kernel
theorem dX7_add_43 : decode cX7_add 43 = .ok (.getfield 11, 3) := by decide +kernel
theorem dX7_add_46 : decode cX7_add 46 = .ok (.aload_n 0, 1) := by decide +kernel
theorem dX7_add_47 : decode cX7_add 47 = .ok (.getfield 34, 3) := by decide +kernel
theorem dX7_add_50 : decode cX7_add 50 = .ok (.aload_n 1, 1) := by decide +kernel
theorem dX7_add_51 : decode cX7_add 51 = .ok (.aastore, 1) := by decide +kernel
theorem dX7_add_52 : decode cX7_add 52 = .ok (.aload_n 0, 1) := by decide +kernel
theorem dX7_add_53 : decode cX7_add 53 = .ok (.dup, 1) := by decide +kernel
theorem dX7_add_54 : decode cX7_add 54 = .ok (.getfield 34, 3) := by decide +kernel
theorem dX7_add_57 : decode cX7_add 57 = .ok (.iconst 1, 1) := by decide +kernel
theorem dX7_add_58 : decode cX7_add 58 = .ok (.iadd, 1) := by decide +kernel
theorem dX7_add_59 : decode cX7_add 59 = .ok (.putfield 34, 3) := by decide +kernel
theorem dX7_add_62 : decode cX7_add 62 = .ok (.aload_n 0, 1) := by decide +kernel
theorem dX7_add_63 : decode cX7_add 63 = .ok (.getfield 34, 3) := by decide +kernel
theorem dX7_add_66 : decode cX7_add 66 = .ok (.ireturn, 1) := by decide +kernel
theorem dX7_placeOf_0 : decode cX7_placeOf 0 = .ok (.iload_n 1, 1) := by decide +kernel
theorem dX7_placeOf_1 : decode cX7_placeOf 1 = .ok (.ifCond .lt 20, 3) := by decide +kernel
theorem dX7_placeOf_4 : decode cX7_placeOf 4 = .ok (.iload_n 1, 1) := by decide +kernel
theorem dX7_placeOf_5 : decode cX7_placeOf 5 = .ok (.aload_n 0, 1) := by decide +kernel
theorem dX7_placeOf_6 : decode cX7_placeOf 6 = .ok (.getfield 34, 3) := by decide +kernel
theorem dX7_placeOf_9 : decode cX7_placeOf 9 = .ok (.if_icmp .ge 12, 3) := by decide +kernel
theorem dX7_placeOf_12 : decode cX7_placeOf 12 = .ok (.iload_n 1, 1) := by decide +kernel
theorem dX7_placeOf_13 : decode cX7_placeOf 13 = .ok (.aload_n 0, 1) := by decide +kernel
theorem dX7_placeOf_14 : decode cX7_placeOf 14 = .ok (.getfield 27, 3) := by decide +kernel
theorem dX7_placeOf_17 : decode cX7_placeOf 17 = .ok (.arraylength, 1) := by decide +kernel
theorem dX7_placeOf_18 : decode cX7_placeOf 18 = .ok (.if_icmp .lt 5, 3) := by decide +kernel
theorem dX7_placeOf_21 : decode cX7_placeOf 21 = .ok (.iconst (-1), 1) := by decide +kernel
theorem dX7_placeOf_22 : decode cX7_placeOf 22 = .ok (.ireturn, 1) := by decide +kernel
theorem dX7_placeOf_23 : decode cX7_placeOf 23 = .ok (.aload_n 0, 1) := by decide +kernel
theorem dX7_placeOf_24 : decode cX7_placeOf 24 = .ok (.getfield 37, 3) := by decide +kernel
theorem dX7_placeOf_27 : decode cX7_placeOf 27 = .ok (.getfield 41, 3) := by decide +kernel
theorem dX7_placeOf_30 : decode cX7_placeOf 30 = .ok (.iconst 1, 1) := by decide +kernel
theorem dX7_placeOf_31 : decode cX7_placeOf 31 = .ok (.iadd, 1) := by decide +kernel
theorem dX7_placeOf_32 : decode cX7_placeOf 32 = .ok (.istore_n 2, 1) := by decide +kernel
theorem dX7_placeOf_33 : decode cX7_placeOf 33 = .ok (.aload_n 0, 1) := by decide +kernel
theorem dX7_placeOf_34 : decode cX7_placeOf 34 = .ok (.iload_n 2, 1) := by decide +kernel
theorem dX7_placeOf_35 : decode cX7_placeOf 35 = .ok (.aload_n 0, 1) := by decide +kernel
theorem dX7_placeOf_36 : decode cX7_placeOf 36 = .ok (.getfield 37, 3) := by decide +kernel
theorem dX7_placeOf_39 : decode cX7_placeOf 39 = .ok (.iconst 1, 1) := by decide +kernel
theorem dX7_placeOf_40 : decode cX7_placeOf 40 = .ok (.iload_n 2, 1) := by decide +kernel
theorem dX7_placeOf_41 : decode cX7_placeOf 41 = .ok (.aload_n 0, 1) := by decide +kernel
theorem dX7_placeOf_42 : decode cX7_placeOf 42 = .ok (.getfield 37, 3) := by decide +kernel
theorem dX7_placeOf_45 : decode cX7_placeOf 45 = .ok (.getfield 41, 3) := by decide +kernel
theorem dX7_placeOf_48 : decode cX7_placeOf 48 = .ok (.invokevirtual 46, 3) := by decide +kernel
theorem dX7_placeOf_51 : decode cX7_placeOf 51 = .ok (.invokevirtual 50, 3) := by decide +kernel
theorem dX7_placeOf_54 : decode cX7_placeOf 54 = .ok (.aload_n 0, 1) := by decide +kernel
theorem dX7_placeOf_55 : decode cX7_placeOf 55 = .ok (.aload_n 0, 1) := by decide +kernel
theorem dX7_placeOf_56 : decode cX7_placeOf 56 = .ok (.getfield 37, 3) := by decide +kernel
theorem dX7_placeOf_59 : decode cX7_placeOf 59 = .ok (.iconst 0, 1) := by decide +kernel
theorem dX7_placeOf_60 : decode cX7_placeOf 60 = .ok (.iload_n 2, 1) := by decide +kernel
theorem dX7_placeOf_61 : decode cX7_placeOf 61 = .ok (.aload_n 0, 1) := by decide +kernel
theorem dX7_placeOf_62 : decode cX7_placeOf 62 = .ok (.getfield 37, 3) := by decide +kernel
theorem dX7_placeOf_65 : decode cX7_placeOf 65 = .ok (.getfield 41, 3) := by decide +kernel
theorem dX7_placeOf_68 : decode cX7_placeOf 68 = .ok (.invokevirtual 46, 3) := by decide +kernel
theorem dX7_placeOf_71 : decode cX7_placeOf 71 = .ok (.invokevirtual 54, 3) := by decide +kernel
theorem dX7_placeOf_74 : decode cX7_placeOf 74 = .ok (.aload_n 0, 1) := by decide +kernel
theorem dX7_placeOf_75 : decode cX7_placeOf 75 = .ok (.iconst (-1), 1) := by decide +kernel
theorem dX7_placeOf_76 : decode cX7_placeOf 76 = .ok (.putfield 30, 3) := by decide +kernel
theorem dX7_placeOf_79 : decode cX7_placeOf 79 = .ok (.aload_n 0, 1) := by decide +kernel
theorem dX7_placeOf_80 : decode cX7_placeOf 80 = .ok (.iconst 0, 1) := by decide +kernel
theorem dX7_placeOf_81 : decode cX7_placeOf 81 = .ok (.iconst 0, 1) := by decide +kernel
theorem dX7_placeOf_82 : decode cX7_placeOf 82 = .ok (.invokevirtual 58, 3) := by decide +kernel
theorem dX7_placeOf_85 : decode cX7_placeOf 85 = .ok (.aload_n 0, 1) := by decide +kernel
theorem dX7_placeOf_86 : decode cX7_placeOf 86 = .ok (.getfield 27, 3) := by decide +kernel
theorem dX7_placeOf_89 : decode cX7_placeOf 89 = .ok (.iload_n 1, 1) := by decide +kernel
theorem dX7_placeOf_90 : decode cX7_placeOf 90 = .ok (.iaload, 1) := by decide +kernel
theorem dX7_placeOf_91 : decode cX7_placeOf 91 = .ok (.ireturn, 1) := by decide +kernel
theorem dX7_markMayTake_0 : decode cX7_markMayTake 0 = .ok (.iconst 0, 1) := by decide +kernel
theorem dX7_markMayTake_1 : decode cX7_markMayTake 1 = .ok (.istore_n 3, 1) := by decide +kernel
theorem dX7_markMayTake_2 : decode cX7_markMayTake 2 = .ok (.iload_n 3, 1) := by decide +kernel
theorem dX7_markMayTake_3 : decode cX7_markMayTake 3 = .ok (.aload_n 0, 1) := by decide +kernel
theorem dX7_markMayTake_4 : decode cX7_markMayTake 4 = .ok (.getfield 34, 3) := by decide +kernel
theorem dX7_markMayTake_7 : decode cX7_markMayTake 7 = .ok (.if_icmp .ge 105, 3) := by decide +kernel
theorem dX7_markMayTake_10 : decode cX7_markMayTake 10 = .ok (.iload_n 3, 1) := by decide +kernel
theorem dX7_markMayTake_11 : decode cX7_markMayTake 11 = .ok (.aload_n 0, 1) := by decide +kernel
theorem dX7_markMayTake_12 : decode cX7_markMayTake 12 = .ok (.getfield 17, 3) := by decide +kernel
theorem dX7_markMayTake_15 : decode cX7_markMayTake 15 = .ok (.arraylength, 1) := by decide +kernel
theorem dX7_markMayTake_16 : decode cX7_markMayTake 16 = .ok (.if_icmp .ge 96, 3) := by decide +kernel
theorem dX7_markMayTake_19 : decode cX7_markMayTake 19 = .ok (.aload_n 0, 1) := by decide +kernel
theorem dX7_markMayTake_20 : decode cX7_markMayTake 20 = .ok (.getfield 11, 3) := by decide +kernel
theorem dX7_markMayTake_23 : decode cX7_markMayTake 23 = .ok (.iload_n 3, 1) := by decide +kernel
theorem dX7_markMayTake_24 : decode cX7_markMayTake 24 = .ok (.aaload, 1) := by decide +kernel
theorem dX7_markMayTake_25 : decode cX7_markMayTake 25 = .ok (.astore 4, 2) := by decide +kernel
theorem dX7_markMayTake_27 : decode cX7_markMayTake 27 = .ok (.aload_n 0, 1) := by decide +kernel
theorem dX7_markMayTake_28 : decode cX7_markMayTake 28 = .ok (.getfield 17, 3) := by decide +kernel
theorem dX7_markMayTake_31 : decode cX7_markMayTake 31 = .ok (.iload_n 3, 1) := by decide +kernel
theorem dX7_markMayTake_32 : decode cX7_markMayTake 32 = .ok (.iconst 0, 1) := by decide +kernel
theorem dX7_markMayTake_33 : decode cX7_markMayTake 33 = .ok (.iastore, 1) := by decide +kernel
theorem dX7_markMayTake_34 : decode cX7_markMayTake 34 = .ok (.iconst 0, 1) := by decide +kernel
theorem dX7_markMayTake_35 : decode cX7_markMayTake 35 = .ok (.istore 5, 2) := by decide +kernel
theorem dX7_markMayTake_37 : decode cX7_markMayTake 37 = .ok (.iload 5, 2) := by decide +kernel
theorem dX7_markMayTake_39 : decode cX7_markMayTake 39 = .ok (.bipush 6, 2) := by decide +kernel
theorem dX7_markMayTake_41 : decode cX7_markMayTake 41 = .ok (.if_icmp .ge 65, 3) := by decide +kernel
theorem dX7_markMayTake_44 : decode cX7_markMayTake 44 = .ok (.aload_n 0, 1) := by decide +kernel
theorem dX7_markMayTake_45 : decode cX7_markMayTake 45 = .ok (.getfield 37, 3) := by decide +kernel
theorem dX7_markMayTake_48 : decode cX7_markMayTake 48 = .ok (.iload 5, 2) := by decide +kernel
theorem dX7_markMayTake_50 : decode cX7_markMayTake 50 = .ok (.invokevirtual 61, 3) := by decide +kernel
theorem dX7_markMayTake_53 : decode cX7_markMayTake 53 = .ok (.astore 6, 2) := by decide +kernel
theorem dX7_markMayTake_55 : decode cX7_markMayTake 55 = .ok (.aload 4, 2) := by decide +kernel
theorem dX7_markMayTake_57 : decode cX7_markMayTake 57 = .ok (.ifnull 43, 3) := by decide +kernel
theorem dX7_markMayTake_60 : decode cX7_markMayTake 60 = .ok (.aload 6, 2) := by decide +kernel
theorem dX7_markMayTake_62 : decode cX7_markMayTake 62 = .ok (.ifnull 38, 3) := by decide +kernel
theorem dX7_markMayTake_65 : decode cX7_markMayTake 65 = .ok (.aload 6, 2) := by decide +kernel
theorem dX7_markMayTake_67 : decode cX7_markMayTake 67 = .ok (.iload_n 1, 1) := by decide +kernel
theorem dX7_markMayTake_68 : decode cX7_markMayTake 68 = .ok (.iload_n 2, 1) := by decide +kernel
theorem dX7_markMayTake_69 : decode cX7_markMayTake 69 = .ok (.aload 4, 2) := by decide +kernel
theorem dX7_markMayTake_71 : decode cX7_markMayTake 71 = .ok (.getfield 65, 3) := by decide +kernel
theorem dX7_markMayTake_74 : decode cX7_markMayTake 74 = .ok (.aload_n 0, 1) := by decide +kernel
theorem dX7_markMayTake_75 : decode cX7_markMayTake 75 = .ok (.getfield 37, 3) := by decide +kernel
theorem dX7_markMayTake_78 : decode cX7_markMayTake 78 = .ok (.getfield 41, 3) := by decide +kernel
theorem dX7_markMayTake_81 : decode cX7_markMayTake 81 = .ok (.invokevirtual 68, 3) := by decide +kernel
theorem dX7_markMayTake_84 : decode cX7_markMayTake 84 = .ok (.ifCond .ne 16, 3) := by decide +kernel
theorem dX7_markMayTake_87 : decode cX7_markMayTake 87 = .ok (.aload_n 0, 1) := by decide +kernel
theorem dX7_markMayTake_88 : decode cX7_markMayTake 88 = .ok (.getfield 17, 3) := by decide +kernel
theorem dX7_markMayTake_91 : decode cX7_markMayTake 91 = .ok (.iload_n 3, 1) := by decide +kernel
theorem dX7_markMayTake_92 : decode cX7_markMayTake 92 = .ok (.dup2, 1) := by decide +kernel
theorem dX7_markMayTake_93 : decode cX7_markMayTake 93 = .ok (.iaload, 1) := by decide +kernel
theorem dX7_markMayTake_94 : decode cX7_markMayTake 94 = .ok (.iconst 1, 1) := by decide +kernel
theorem dX7_markMayTake_95 : decode cX7_markMayTake 95 = .ok (.iload 5, 2) := by decide +kernel
theorem dX7_markMayTake_97 : decode cX7_markMayTake 97 = .ok (.ishl, 1) := by decide +kernel
theorem dX7_markMayTake_98 : decode cX7_markMayTake 98 = .ok (.ior, 1) := by decide +kernel
theorem dX7_markMayTake_99 : decode cX7_markMayTake 99 = .ok (.iastore, 1) := by decide +kernel
theorem dX7_markMayTake_100 : decode cX7_markMayTake 100 = .ok (.iinc 5 1, 3) := by decide +kernel
theorem dX7_markMayTake_103 : decode cX7_markMayTake 103 = .ok (.goto (-66), 3) := by decide +kernel
theorem dX7_markMayTake_106 : decode cX7_markMayTake 106 = .ok (.iinc 3 1, 3) := by decide +kernel
theorem dX7_markMayTake_109 : decode cX7_markMayTake 109 = .ok (.goto (-107), 3) := by decide +kernel
theorem dX7_markMayTake_112 : decode cX7_markMayTake 112 = .ok (.return_, 1) := by decide +kernel
theorem dX7_markTooNear_0 : decode cX7_markTooNear 0 = .ok (.iconst 0, 1) := by decide +kernel
theorem dX7_markTooNear_1 : decode cX7_markTooNear 1 = .ok (.istore_n 2, 1) := by decide +kernel
theorem dX7_markTooNear_2 : decode cX7_markTooNear 2 = .ok (.iload_n 2, 1) := by decide +kernel
theorem dX7_markTooNear_3 : decode cX7_markTooNear 3 = .ok (.aload_n 0, 1) := by decide +kernel
theorem dX7_markTooNear_4 : decode cX7_markTooNear 4 = .ok (.getfield 21, 3) := by decide +kernel
theorem dX7_markTooNear_7 : decode cX7_markTooNear 7 = .ok (.arraylength, 1) := by decide +kernel
theorem dX7_markTooNear_8 : decode cX7_markTooNear 8 = .ok (.if_icmp .ge 89, 3) := by decide +kernel
theorem dX7_markTooNear_11 : decode cX7_markTooNear 11 = .ok (.aload_n 0, 1) := by decide +kernel
theorem dX7_markTooNear_12 : decode cX7_markTooNear 12 = .ok (.getfield 21, 3) := by decide +kernel
theorem dX7_markTooNear_15 : decode cX7_markTooNear 15 = .ok (.iload_n 2, 1) := by decide +kernel
theorem dX7_markTooNear_16 : decode cX7_markTooNear 16 = .ok (.iconst 0, 1) := by decide +kernel
theorem dX7_markTooNear_17 : decode cX7_markTooNear 17 = .ok (.iastore, 1) := by decide +kernel
theorem dX7_markTooNear_18 : decode cX7_markTooNear 18 = .ok (.aload_n 0, 1) := by decide +kernel
theorem dX7_markTooNear_19 : decode cX7_markTooNear 19 = .ok (.getfield 37, 3) := by decide +kernel
theorem dX7_markTooNear_22 : decode cX7_markTooNear 22 = .ok (.iload_n 2, 1) := by decide +kernel
theorem dX7_markTooNear_23 : decode cX7_markTooNear 23 = .ok (.invokevirtual 61, 3) := by decide +kernel
theorem dX7_markTooNear_26 : decode cX7_markTooNear 26 = .ok (.astore_n 3, 1) := by decide +kernel
theorem dX7_markTooNear_27 : decode cX7_markTooNear 27 = .ok (.iconst 0, 1) := by decide +kernel
theorem dX7_markTooNear_28 : decode cX7_markTooNear 28 = .ok (.istore 4, 2) := by decide +kernel
theorem dX7_markTooNear_30 : decode cX7_markTooNear 30 = .ok (.iload 4, 2) := by decide +kernel
theorem dX7_markTooNear_32 : decode cX7_markTooNear 32 = .ok (.aload_n 0, 1) := by decide +kernel
theorem dX7_markTooNear_33 : decode cX7_markTooNear 33 = .ok (.getfield 21, 3) := by decide +kernel
theorem dX7_markTooNear_36 : decode cX7_markTooNear 36 = .ok (.arraylength, 1) := by decide +kernel
theorem dX7_markTooNear_37 : decode cX7_markTooNear 37 = .ok (.if_icmp .ge 54, 3) := by decide +kernel
theorem dX7_markTooNear_40 : decode cX7_markTooNear 40 = .ok (.aload_n 0, 1) := by decide +kernel
theorem dX7_markTooNear_41 : decode cX7_markTooNear 41 = .ok (.getfield 37, 3) := by decide +kernel
theorem dX7_markTooNear_44 : decode cX7_markTooNear 44 = .ok (.iload 4, 2) := by decide +kernel
theorem dX7_markTooNear_46 : decode cX7_markTooNear 46 = .ok (.invokevirtual 61, 3) := by decide +kernel
theorem dX7_markTooNear_49 : decode cX7_markTooNear 49 = .ok (.astore 5, 2) := by decide +kernel
theorem dX7_markTooNear_51 : decode cX7_markTooNear 51 = .ok (.aload_n 3, 1) := by decide +kernel
theorem dX7_markTooNear_52 : decode cX7_markTooNear 52 = .ok (.ifnull 33, 3) := by decide +kernel
theorem dX7_markTooNear_55 : decode cX7_markTooNear 55 = .ok (.aload 5, 2) := by decide +kernel
theorem dX7_markTooNear_57 : decode cX7_markTooNear 57 = .ok (.ifnull 28, 3) := by decide +kernel
theorem dX7_markTooNear_60 : decode cX7_markTooNear 60 = .ok (.aload_n 3, 1) := by decide +kernel
theorem dX7_markTooNear_61 : decode cX7_markTooNear 61 = .ok (.aload 5, 2) := by decide +kernel
theorem dX7_markTooNear_63 : decode cX7_markTooNear 63 = .ok (.invokevirtual 74, 3) := by decide +kernel
theorem dX7_markTooNear_66 : decode cX7_markTooNear 66 = .ok (.iload_n 1, 1) := by decide +kernel
theorem dX7_markTooNear_67 : decode cX7_markTooNear 67 = .ok (.iload_n 1, 1) := by decide +kernel
theorem dX7_markTooNear_68 : decode cX7_markTooNear 68 = .ok (.imul, 1) := by decide +kernel
theorem dX7_markTooNear_69 : decode cX7_markTooNear 69 = .ok (.if_icmp .ge 16, 3) := by decide +kernel
theorem dX7_markTooNear_72 : decode cX7_markTooNear 72 = .ok (.aload_n 0, 1) := by decide +kernel
theorem dX7_markTooNear_73 : decode cX7_markTooNear 73 = .ok (.getfield 21, 3) := by decide +kernel
theorem dX7_markTooNear_76 : decode cX7_markTooNear 76 = .ok (.iload_n 2, 1) := by decide +kernel
theorem dX7_markTooNear_77 : decode cX7_markTooNear 77 = .ok (.dup2, 1) := by decide +kernel
theorem dX7_markTooNear_78 : decode cX7_markTooNear 78 = .ok (.iaload, 1) := by decide +kernel
theorem dX7_markTooNear_79 : decode cX7_markTooNear 79 = .ok (.iconst 1, 1) := by decide +kernel
theorem dX7_markTooNear_80 : decode cX7_markTooNear 80 = .ok (.iload 4, 2) := by decide +kernel
theorem dX7_markTooNear_82 : decode cX7_markTooNear 82 = .ok (.ishl, 1) := by decide +kernel
theorem dX7_markTooNear_83 : decode cX7_markTooNear 83 = .ok (.ior, 1) := by decide +kernel
theorem dX7_markTooNear_84 : decode cX7_markTooNear 84 = .ok (.iastore, 1) := by decide +kernel
theorem dX7_markTooNear_85 : decode cX7_markTooNear 85 = .ok (.iinc 4 1, 3) := by decide +kernel
theorem dX7_markTooNear_88 : decode cX7_markTooNear 88 = .ok (.goto (-58), 3) := by decide +kernel
theorem dX7_markTooNear_91 : decode cX7_markTooNear 91 = .ok (.iinc 2 1, 3) := by decide +kernel
theorem dX7_markTooNear_94 : decode cX7_markTooNear 94 = .ok (.goto (-92), 3) := by decide +kernel
theorem dX7_markTooNear_97 : decode cX7_markTooNear 97 = .ok (.return_, 1) := by decide +kernel
theorem dX7_search_0 : decode cX7_search 0 = .ok (.iload_n 1, 1) := by decide +kernel
theorem dX7_search_1 : decode cX7_search 1 = .ok (.ifCond .lt 18, 3) := by decide +kernel
theorem dX7_search_4 : decode cX7_search 4 = .ok (.iload_n 2, 1) := by decide +kernel
theorem dX7_search_5 : decode cX7_search 5 = .ok (.aload_n 0, 1) := by decide +kernel
theorem dX7_search_6 : decode cX7_search 6 = .ok (.getfield 34, 3) := by decide +kernel
theorem dX7_search_9 : decode cX7_search 9 = .ok (.iadd, 1) := by decide +kernel
theorem dX7_search_10 : decode cX7_search 10 = .ok (.iload_n 1, 1) := by decide +kernel
theorem dX7_search_11 : decode cX7_search 11 = .ok (.isub, 1) := by decide +kernel
theorem dX7_search_12 : decode cX7_search 12 = .ok (.aload_n 0, 1) := by decide +kernel
theorem dX7_search_13 : decode cX7_search 13 = .ok (.getfield 30, 3) := by decide +kernel
theorem dX7_search_16 : decode cX7_search 16 = .ok (.if_icmp .gt 4, 3) := by decide +kernel
theorem dX7_search_19 : decode cX7_search 19 = .ok (.return_, 1) := by decide +kernel
theorem dX7_search_20 : decode cX7_search 20 = .ok (.iload_n 1, 1) := by decide +kernel
theorem dX7_search_21 : decode cX7_search 21 = .ok (.aload_n 0, 1) := by decide +kernel
theorem dX7_search_22 : decode cX7_search 22 = .ok (.getfield 34, 3) := by decide +kernel
theorem dX7_search_25 : decode cX7_search 25 = .ok (.if_icmp .ge 12, 3) := by decide +kernel
theorem dX7_search_28 : decode cX7_search 28 = .ok (.iload_n 1, 1) := by decide +kernel
theorem dX7_search_29 : decode cX7_search 29 = .ok (.aload_n 0, 1) := by decide +kernel
theorem dX7_search_30 : decode cX7_search 30 = .ok (.getfield 24, 3) := by decide +kernel
theorem dX7_search_33 : decode cX7_search 33 = .ok (.arraylength, 1) := by decide +kernel
theorem dX7_search_34 : decode cX7_search 34 = .ok (.if_icmp .lt 27, 3) := by decide +kernel
theorem dX7_search_37 : decode cX7_search 37 = .ok (.aload_n 0, 1) := by decide +kernel
theorem dX7_search_38 : decode cX7_search 38 = .ok (.iload_n 2, 1) := by decide +kernel
theorem dX7_search_39 : decode cX7_search 39 = .ok (.putfield 30, 3) := by decide +kernel
theorem dX7_search_42 : decode cX7_search 42 = .ok (.aload_n 0, 1) := by decide +kernel
theorem dX7_search_43 : decode cX7_search 43 = .ok (.getfield 24, 3) := by decide +kernel
theorem dX7_search_46 : decode cX7_search 46 = .ok (.iconst 0, 1) := by decide +kernel
theorem dX7_search_47 : decode cX7_search 47 = .ok (.aload_n 0, 1) := by decide +kernel
theorem dX7_search_48 : decode cX7_search 48 = .ok (.getfield 27, 3) := by decide +kernel
theorem dX7_search_51 : decode cX7_search 51 = .ok (.iconst 0, 1) := by decide +kernel
theorem dX7_search_52 : decode cX7_search 52 = .ok (.aload_n 0, 1) := by decide +kernel
theorem dX7_search_53 : decode cX7_search 53 = .ok (.getfield 27, 3) := by decide +kernel
theorem dX7_search_56 : decode cX7_search 56 = .ok (.arraylength, 1) := by decide +kernel
theorem dX7_search_57 : decode cX7_search 57 = .ok (.invokestatic 78, 3) := by decide +kernel
theorem dX7_search_60 : decode cX7_search 60 = .ok (.return_, 1) := by decide +kernel
theorem dX7_search_61 : decode cX7_search 61 = .ok (.iconst 0, 1) := by decide +kernel
theorem dX7_search_62 : decode cX7_search 62 = .ok (.istore_n 3, 1) := by decide +kernel
theorem dX7_search_63 : decode cX7_search 63 = .ok (.iload_n 3, 1) := by decide +kernel
theorem dX7_search_64 : decode cX7_search 64 = .ok (.bipush 6, 2) := by decide +kernel
theorem dX7_search_66 : decode cX7_search 66 = .ok (.if_icmp .ge 35, 3) := by decide +kernel
theorem dX7_search_69 : decode cX7_search 69 = .ok (.aload_n 0, 1) := by decide +kernel
theorem dX7_search_70 : decode cX7_search 70 = .ok (.iload_n 1, 1) := by decide +kernel
theorem dX7_search_71 : decode cX7_search 71 = .ok (.iload_n 3, 1) := by decide +kernel
theorem dX7_search_72 : decode cX7_search 72 = .ok (.invokevirtual 84, 3) := by decide +kernel
theorem dX7_search_75 : decode cX7_search 75 = .ok (.ifCond .eq 20, 3) := by decide +kernel
theorem dX7_search_78 : decode cX7_search 78 = .ok (.aload_n 0, 1) := by decide +kernel
theorem dX7_search_79 : decode cX7_search 79 = .ok (.getfield 24, 3) := by decide +kernel
theorem dX7_search_82 : decode cX7_search 82 = .ok (.iload_n 1, 1) := by decide +kernel
theorem dX7_search_83 : decode cX7_search 83 = .ok (.iload_n 3, 1) := by decide +kernel
theorem dX7_search_84 : decode cX7_search 84 = .ok (.iastore, 1) := by decide +kernel
theorem dX7_search_85 : decode cX7_search 85 = .ok (.aload_n 0, 1) := by decide +kernel
theorem dX7_search_86 : decode cX7_search 86 = .ok (.iload_n 1, 1) := by decide +kernel
theorem dX7_search_87 : decode cX7_search 87 = .ok (.iconst 1, 1) := by decide +kernel
theorem dX7_search_88 : decode cX7_search 88 = .ok (.iadd, 1) := by decide +kernel
theorem dX7_search_89 : decode cX7_search 89 = .ok (.iload_n 2, 1) := by decide +kernel
theorem dX7_search_90 : decode cX7_search 90 = .ok (.iconst 1, 1) := by decide +kernel
theorem dX7_search_91 : decode cX7_search 91 = .ok (.iadd, 1) := by decide +kernel
theorem dX7_search_92 : decode cX7_search 92 = .ok (.invokevirtual 58, 3) := by decide +kernel
theorem dX7_search_95 : decode cX7_search 95 = .ok (.iinc 3 1, 3) := by decide +kernel
theorem dX7_search_98 : decode cX7_search 98 = .ok (.goto (-35), 3) := by decide +kernel
theorem dX7_search_101 : decode cX7_search 101 = .ok (.aload_n 0, 1) := by decide +kernel
theorem dX7_search_102 : decode cX7_search 102 = .ok (.getfield 24, 3) := by decide +kernel
theorem dX7_search_105 : decode cX7_search 105 = .ok (.iload_n 1, 1) := by decide +kernel
theorem dX7_search_106 : decode cX7_search 106 = .ok (.iconst (-1), 1) := by decide +kernel
theorem dX7_search_107 : decode cX7_search 107 = .ok (.iastore, 1) := by decide +kernel
theorem dX7_search_108 : decode cX7_search 108 = .ok (.aload_n 0, 1) := by decide +kernel
theorem dX7_search_109 : decode cX7_search 109 = .ok (.iload_n 1, 1) := by decide +kernel
theorem dX7_search_110 : decode cX7_search 110 = .ok (.iconst 1, 1) := by decide +kernel
theorem dX7_search_111 : decode cX7_search 111 = .ok (.iadd, 1) := by decide +kernel
theorem dX7_search_112 : decode cX7_search 112 = .ok (.iload_n 2, 1) := by decide +kernel
theorem dX7_search_113 : decode cX7_search 113 = .ok (.invokevirtual 58, 3) := by decide +kernel
theorem dX7_search_116 : decode cX7_search 116 = .ok (.return_, 1) := by decide +kernel
theorem dX7_fits_0 : decode cX7_fits 0 = .ok (.iload_n 1, 1) := by decide +kernel
theorem dX7_fits_1 : decode cX7_fits 1 = .ok (.ifCond .lt 38, 3) := by decide +kernel
theorem dX7_fits_4 : decode cX7_fits 4 = .ok (.iload_n 1, 1) := by decide +kernel
theorem dX7_fits_5 : decode cX7_fits 5 = .ok (.aload_n 0, 1) := by decide +kernel
theorem dX7_fits_6 : decode cX7_fits 6 = .ok (.getfield 17, 3) := by decide +kernel
theorem dX7_fits_9 : decode cX7_fits 9 = .ok (.arraylength, 1) := by decide +kernel
theorem dX7_fits_10 : decode cX7_fits 10 = .ok (.if_icmp .ge 29, 3) := by decide +kernel
theorem dX7_fits_13 : decode cX7_fits 13 = .ok (.iload_n 2, 1) := by decide +kernel
theorem dX7_fits_14 : decode cX7_fits 14 = .ok (.ifCond .lt 25, 3) := by decide +kernel
theorem dX7_fits_17 : decode cX7_fits 17 = .ok (.iload_n 2, 1) := by decide +kernel
theorem dX7_fits_18 : decode cX7_fits 18 = .ok (.aload_n 0, 1) := by decide +kernel
theorem dX7_fits_19 : decode cX7_fits 19 = .ok (.getfield 21, 3) := by decide +kernel
theorem dX7_fits_22 : decode cX7_fits 22 = .ok (.arraylength, 1) := by decide +kernel
theorem dX7_fits_23 : decode cX7_fits 23 = .ok (.if_icmp .ge 16, 3) := by decide +kernel
theorem dX7_fits_26 : decode cX7_fits 26 = .ok (.aload_n 0, 1) := by decide +kernel
theorem dX7_fits_27 : decode cX7_fits 27 = .ok (.getfield 17, 3) := by decide +kernel
theorem dX7_fits_30 : decode cX7_fits 30 = .ok (.iload_n 1, 1) := by decide +kernel
theorem dX7_fits_31 : decode cX7_fits 31 = .ok (.iaload, 1) := by decide +kernel
theorem dX7_fits_32 : decode cX7_fits 32 = .ok (.iload_n 2, 1) := by decide +kernel
theorem dX7_fits_33 : decode cX7_fits 33 = .ok (.ishr, 1) := by decide +kernel
theorem dX7_fits_34 : decode cX7_fits 34 = .ok (.iconst 1, 1) := by decide +kernel
theorem dX7_fits_35 : decode cX7_fits 35 = .ok (.iand, 1) := by decide +kernel
theorem dX7_fits_36 : decode cX7_fits 36 = .ok (.ifCond .ne 5, 3) := by decide +kernel
theorem dX7_fits_39 : decode cX7_fits 39 = .ok (.iconst 0, 1) := by decide +kernel
theorem dX7_fits_40 : decode cX7_fits 40 = .ok (.ireturn, 1) := by decide +kernel
theorem dX7_fits_41 : decode cX7_fits 41 = .ok (.iconst 0, 1) := by decide +kernel
theorem dX7_fits_42 : decode cX7_fits 42 = .ok (.istore_n 3, 1) := by decide +kernel
theorem dX7_fits_43 : decode cX7_fits 43 = .ok (.iload_n 3, 1) := by decide +kernel
theorem dX7_fits_44 : decode cX7_fits 44 = .ok (.iload_n 1, 1) := by decide +kernel
theorem dX7_fits_45 : decode cX7_fits 45 = .ok (.if_icmp .ge 77, 3) := by decide +kernel
theorem dX7_fits_48 : decode cX7_fits 48 = .ok (.aload_n 0, 1) := by decide +kernel
theorem dX7_fits_49 : decode cX7_fits 49 = .ok (.getfield 24, 3) := by decide +kernel
theorem dX7_fits_52 : decode cX7_fits 52 = .ok (.iload_n 3, 1) := by decide +kernel
theorem dX7_fits_53 : decode cX7_fits 53 = .ok (.iaload, 1) := by decide +kernel
theorem dX7_fits_54 : decode cX7_fits 54 = .ok (.istore 4, 2) := by decide +kernel
theorem dX7_fits_56 : decode cX7_fits 56 = .ok (.iload 4, 2) := by decide +kernel
theorem dX7_fits_58 : decode cX7_fits 58 = .ok (.iload_n 2, 1) := by decide +kernel
theorem dX7_fits_59 : decode cX7_fits 59 = .ok (.if_icmp .ne 5, 3) := by decide +kernel
theorem dX7_fits_62 : decode cX7_fits 62 = .ok (.iconst 0, 1) := by decide +kernel
theorem dX7_fits_63 : decode cX7_fits 63 = .ok (.ireturn, 1) := by decide +kernel
theorem dX7_fits_64 : decode cX7_fits 64 = .ok (.iload 4, 2) := by decide +kernel
theorem dX7_fits_66 : decode cX7_fits 66 = .ok (.iconst (-1), 1) := by decide +kernel
theorem dX7_fits_67 : decode cX7_fits 67 = .ok (.if_icmp .eq 21, 3) := by decide +kernel
theorem dX7_fits_70 : decode cX7_fits 70 = .ok (.aload_n 0, 1) := by decide +kernel
theorem dX7_fits_71 : decode cX7_fits 71 = .ok (.getfield 21, 3) := by decide +kernel
theorem dX7_fits_74 : decode cX7_fits 74 = .ok (.iload_n 2, 1) := by decide +kernel
theorem dX7_fits_75 : decode cX7_fits 75 = .ok (.iaload, 1) := by decide +kernel
theorem dX7_fits_76 : decode cX7_fits 76 = .ok (.iload 4, 2) := by decide +kernel
theorem dX7_fits_78 : decode cX7_fits 78 = .ok (.ishr, 1) := by decide +kernel
theorem dX7_fits_79 : decode cX7_fits 79 = .ok (.iconst 1, 1) := by decide +kernel
theorem dX7_fits_80 : decode cX7_fits 80 = .ok (.iand, 1) := by decide +kernel
theorem dX7_fits_81 : decode cX7_fits 81 = .ok (.ifCond .eq 7, 3) := by decide +kernel
theorem dX7_fits_84 : decode cX7_fits 84 = .ok (.iconst 1, 1) := by decide +kernel
theorem dX7_fits_85 : decode cX7_fits 85 = .ok (.goto 4, 3) := by decide +kernel
theorem dX7_fits_88 : decode cX7_fits 88 = .ok (.iconst 0, 1) := by decide +kernel
theorem dX7_fits_89 : decode cX7_fits 89 = .ok (.istore 5, 2) := by decide +kernel
theorem dX7_fits_91 : decode cX7_fits 91 = .ok (.iload 5, 2) := by decide +kernel
theorem dX7_fits_93 : decode cX7_fits 93 = .ok (.ifCond .eq 23, 3) := by decide +kernel
theorem dX7_fits_96 : decode cX7_fits 96 = .ok (.aload_n 0, 1) := by decide +kernel
theorem dX7_fits_97 : decode cX7_fits 97 = .ok (.getfield 11, 3) := by decide +kernel
theorem dX7_fits_100 : decode cX7_fits 100 = .ok (.iload_n 3, 1) := by decide +kernel
theorem dX7_fits_101 : decode cX7_fits 101 = .ok (.aaload, 1) := by decide +kernel
theorem dX7_fits_102 : decode cX7_fits 102 = .ok (.aload_n 0, 1) := by decide +kernel
theorem dX7_fits_103 : decode cX7_fits 103 = .ok (.getfield 11, 3) := by decide +kernel
theorem dX7_fits_106 : decode cX7_fits 106 = .ok (.iload_n 1, 1) := by decide +kernel
theorem dX7_fits_107 : decode cX7_fits 107 = .ok (.aaload, 1) := by decide +kernel
theorem dX7_fits_108 : decode cX7_fits 108 = .ok (.invokestatic 88, 3) := by decide +kernel
theorem dX7_fits_111 : decode cX7_fits 111 = .ok (.ifCond .eq 5, 3) := by decide +kernel
theorem dX7_fits_114 : decode cX7_fits 114 = .ok (.iconst 0, 1) := by decide +kernel
theorem dX7_fits_115 : decode cX7_fits 115 = .ok (.ireturn, 1) := by decide +kernel
theorem dX7_fits_116 : decode cX7_fits 116 = .ok (.iinc 3 1, 3) := by decide +kernel
theorem dX7_fits_119 : decode cX7_fits 119 = .ok (.goto (-76), 3) := by decide +kernel
theorem dX7_fits_122 : decode cX7_fits 122 = .ok (.iconst 1, 1) := by decide +kernel
theorem dX7_fits_123 : decode cX7_fits 123 = .ok (.ireturn, 1) := by decide +kernel
theorem dX7_areOfOneCrop_0 : decode cX7_areOfOneCrop 0 = .ok (.aload_n 0, 1) := by decide +kernel
theorem dX7_areOfOneCrop_1 : decode cX7_areOfOneCrop 1 = .ok (.ifnull 22, 3) := by decide +kernel
theorem dX7_areOfOneCrop_4 : decode cX7_areOfOneCrop 4 = .ok (.aload_n 1, 1) := by decide +kernel
theorem dX7_areOfOneCrop_5 : decode cX7_areOfOneCrop 5 = .ok (.ifnull 18, 3) := by decide +kernel
theorem dX7_areOfOneCrop_8 : decode cX7_areOfOneCrop 8 = .ok (.aload_n 0, 1) := by decide +kernel
theorem dX7_areOfOneCrop_9 : decode cX7_areOfOneCrop 9 = .ok (.getfield 65, 3) := by decide +kernel
theorem dX7_areOfOneCrop_12 : decode cX7_areOfOneCrop 12 = .ok (.aload_n 1, 1) := by decide +kernel
theorem dX7_areOfOneCrop_13 : decode cX7_areOfOneCrop 13 = .ok (.getfield 65, 3) := by decide +kernel
theorem dX7_areOfOneCrop_16 : decode cX7_areOfOneCrop 16 = .ok (.if_icmp .ne 7, 3) := by decide +kernel
theorem dX7_areOfOneCrop_19 : decode cX7_areOfOneCrop 19 = .ok (.iconst 1, 1) := by decide +kernel
theorem dX7_areOfOneCrop_20 : decode cX7_areOfOneCrop 20 = .ok (.goto 4, 3) := by decide +kernel
theorem dX7_areOfOneCrop_23 : decode cX7_areOfOneCrop 23 = .ok (.iconst 0, 1) := by decide +kernel
theorem dX7_areOfOneCrop_24 : decode cX7_areOfOneCrop 24 = .ok (.ireturn, 1) := by decide +kernel
theorem dX8_init_0 : decode cX8_init 0 = .ok (.aload_n 0, 1) := by decide +kernel
theorem dX8_init_1 : decode cX8_init 1 = .ok (.invokespecial 1, 3) := by decide +kernel
theorem dX8_init_4 : decode cX8_init 4 = .ok (.aload_n 0, 1) := by decide +kernel
theorem dX8_init_5 : decode cX8_init 5 = .ok (.aload_n 1, 1) := by decide +kernel
theorem dX8_init_6 : decode cX8_init 6 = .ok (.putfield 7, 3) := by decide +kernel
theorem dX8_init_9 : decode cX8_init 9 = .ok (.aload_n 0, 1) := by decide +kernel
theorem dX8_init_10 : decode cX8_init 10 = .ok (.iload_n 2, 1) := by decide +kernel
theorem dX8_init_11 : decode cX8_init 11 = .ok (.putfield 13, 3) := by decide +kernel
theorem dX8_init_14 : decode cX8_init 14 = .ok (.aload_n 0, 1) := by decide +kernel
theorem dX8_init_15 : decode cX8_init 15 = .ok (.iload_n 3, 1) := by decide +kernel
theorem dX8_init_16 : decode cX8_init 16 = .ok (.putfield 17, 3) := by decide +kernel
theorem dX8_init_19 : decode cX8_init 19 = .ok (.aload_n 0, 1) := by decide +kernel
theorem dX8_init_20 : decode cX8_init 20 = .ok (.iload 4, 2) := by decide +kernel
theorem dX8_init_22 : decode cX8_init 22 = .ok (.putfield 20, 3) := by decide +kernel
theorem dX8_init_25 : decode cX8_init 25 = .ok (.return_, 1) := by decide +kernel
theorem dX9_init_0 : decode cX9_init 0 = .ok (.aload_n 0, 1) := by decide +kernel
theorem dX9_init_1 : decode cX9_init 1 = .ok (.invokespecial 1, 3) := by decide +kernel
theorem dX9_init_4 : decode cX9_init 4 = .ok (.aload_n 0, 1) := by decide +kernel
theorem dX9_init_5 : decode cX9_init 5 = .ok (.aload_n 1, 1) := by decide +kernel
theorem dX9_init_6 : decode cX9_init 6 = .ok (.putfield 7, 3) := by decide +kernel
theorem dX9_init_9 : decode cX9_init 9 = .ok (.aload_n 0, 1) := by decide +kernel
theorem dX9_init_10 : decode cX9_init 10 = .ok (.iload_n 2, 1) := by decide +kernel
theorem dX9_init_11 : decode cX9_init 11 = .ok (.putfield 13, 3) := by decide +kernel
theorem dX9_init_14 : decode cX9_init 14 = .ok (.aload_n 0, 1) := by decide +kernel
theorem dX9_init_15 : decode cX9_init 15 = .ok (.iload_n 3, 1) := by decide +kernel
theorem dX9_init_16 : decode cX9_init 16 = .ok (.putfield 17, 3) := by decide +kernel
theorem dX9_init_19 : decode cX9_init 19 = .ok (.return_, 1) := by decide +kernel
