theorem dX10_init_0 : decode cX10_init 0 = .ok (.aload_n 0, 1) := by decide +kernel
theorem dX10_init_1 : decode cX10_init 1 = .ok (.invokespecial 1, 3) := by decide +kernel
theorem dX10_init_4 : decode cX10_init 4 = .ok (.aload_n 0, 1) := by decide +kernel
theorem dX10_init_5 : decode cX10_init 5 = .ok (.new 7, 3) := by decide +kernel
theorem dX10_init_8 : decode cX10_init 8 = .ok (.dup, 1) := by decide +kernel
theorem dX10_init_9 : decode cX10_init 9 = .ok (.invokespecial 9, 3) := by decide +kernel
theorem dX10_init_12 : decode cX10_init 12 = .ok (.putfield 10, 3) := by decide +kernel
theorem dX10_init_15 : decode cX10_init 15 = .ok (.aload_n 0, 1) := by decide +kernel
theorem dX10_init_16 : decode cX10_init 16 = .ok (.new 16, 3) := by decide +kernel
theorem dX10_init_19 : decode cX10_init 19 = .ok (.dup, 1) := by decide +kernel
theorem dX10_init_20 : decode cX10_init 20 = .ok (.aload_n 0, 1) := by decide +kernel
theorem dX10_init_21 : decode cX10_init 21 = .ok (.getfield 10, 3) := by decide +kernel
theorem dX10_init_24 : decode cX10_init 24 = .ok (.invokespecial 18, 3) := by decide +kernel
theorem dX10_init_27 : decode cX10_init 27 = .ok (.putfield 21, 3) := by decide +kernel
theorem dX10_init_30 : decode cX10_init 30 = .ok (.aload_n 0, 1) := by decide +kernel
theorem dX10_init_31 : decode cX10_init 31 = .ok (.new 25, 3) := by decide +kernel
theorem dX10_init_34 : decode cX10_init 34 = .ok (.dup, 1) := by decide +kernel
theorem dX10_init_35 : decode cX10_init 35 = .ok (.aload_n 0, 1) := by decide +kernel
theorem dX10_init_36 : decode cX10_init 36 = .ok (.getfield 10, 3) := by decide +kernel
theorem dX10_init_39 : decode cX10_init 39 = .ok (.invokespecial 27, 3) := by decide +kernel
theorem dX10_init_42 : decode cX10_init 42 = .ok (.putfield 28, 3) := by decide +kernel
theorem dX10_init_45 : decode cX10_init 45 = .ok (.aload_n 0, 1) := by decide +kernel
theorem dX10_init_46 : decode cX10_init 46 = .ok (.new 32, 3) := by decide +kernel
theorem dX10_init_49 : decode cX10_init 49 = .ok (.dup, 1) := by decide +kernel
theorem dX10_init_50 : decode cX10_init 50 = .ok (.aload_n 0, 1) := by decide +kernel
theorem dX10_init_51 : decode cX10_init 51 = .ok (.getfield 10, 3) := by decide +kernel
theorem dX10_init_54 : decode cX10_init 54 = .ok (.invokespecial 34, 3) := by decide +kernel
theorem dX10_init_57 : decode cX10_init 57 = .ok (.putfield 35, 3) := by decide +kernel
theorem dX10_init_60 : decode cX10_init 60 = .ok (.aload_n 0, 1) := by decide +kernel
theorem dX10_init_61 : decode cX10_init 61 = .ok (.sipush 500, 3) := by decide +kernel
theorem dX10_init_64 : decode cX10_init 64 = .ok (.newarray .int, 2) := by decide +kernel
theorem dX10_init_66 : decode cX10_init 66 = .ok (.putfield 39, 3) := by decide +kernel
theorem dX10_init_69 : decode cX10_init 69 = .ok (.return_, 1) := by decide +kernel
theorem dX10_field_0 : decode cX10_field 0 = .ok (.iload_n 1, 1) := by decide +kernel
theorem dX10_field_1 : decode cX10_field 1 = .ok (.iconst 0, 1) := by decide +kernel
theorem dX10_field_2 : decode cX10_field 2 = .ok (.sipush 1000, 3) := by decide +kernel
theorem dX10_field_5 : decode cX10_field 5 = .ok (.invokestatic 43, 3) := by decide +kernel
theorem dX10_field_8 : decode cX10_field 8 = .ok (.ifCond .eq 41, 3) := by decide +kernel
theorem dX10_field_11 : decode cX10_field 11 = .ok (.iload_n 2, 1) := by decide +kernel
theorem dX10_field_12 : decode cX10_field 12 = .ok (.iconst 0, 1) := by decide +kernel
theorem dX10_field_13 : decode cX10_field 13 = .ok (.sipush 1000, 3) := by decide +kernel
theorem dX10_field_16 : decode cX10_field 16 = .ok (.invokestatic 43, 3) := by decide +kernel
theorem dX10_field_19 : decode cX10_field 19 = .ok (.ifCond .eq 30, 3) := by decide +kernel
theorem dX10_field_22 : decode cX10_field 22 = .ok (.iload_n 3, 1) := by decide +kernel
theorem dX10_field_23 : decode cX10_field 23 = .ok (.iconst 0, 1) := by decide +kernel
theorem dX10_field_24 : decode cX10_field 24 = .ok (.sipush 1000, 3) := by decide +kernel
theorem dX10_field_27 : decode cX10_field 27 = .ok (.invokestatic 43, 3) := by decide +kernel
theorem dX10_field_30 : decode cX10_field 30 = .ok (.ifCond .eq 19, 3) := by decide +kernel
theorem dX10_field_33 : decode cX10_field 33 = .ok (.iload 4, 2) := by decide +kernel
theorem dX10_field_35 : decode cX10_field 35 = .ok (.iconst 0, 1) := by decide +kernel
theorem dX10_field_36 : decode cX10_field 36 = .ok (.sipush 1000, 3) := by decide +kernel
theorem dX10_field_39 : decode cX10_field 39 = .ok (.invokestatic 43, 3) := by decide +kernel
theorem dX10_field_42 : decode cX10_field 42 = .ok (.ifCond .eq 7, 3) := by decide +kernel
theorem dX10_field_45 : decode cX10_field 45 = .ok (.iconst 1, 1) := by decide +kernel
theorem dX10_field_46 : decode cX10_field 46 = .ok (.goto 4, 3) := by decide +kernel
theorem dX10_field_49 : decode cX10_field 49 = .ok (.iconst 0, 1) := by decide +kernel
theorem dX10_field_50 : decode cX10_field 50 = .ok (.istore 5, 2) := by decide +kernel
theorem dX10_field_52 : decode cX10_field 52 = .ok (.iload 5, 2) := by decide +kernel
theorem dX10_field_54 : decode cX10_field 54 = .ok (.ifCond .eq 26, 3) := by decide +kernel
theorem dX10_field_57 : decode cX10_field 57 = .ok (.iload_n 1, 1) := by decide +kernel
theorem dX10_field_58 : decode cX10_field 58 = .ok (.iload_n 3, 1) := by decide +kernel
theorem dX10_field_59 : decode cX10_field 59 = .ok (.if_icmp .eq 21, 3) := by decide +kernel
theorem dX10_field_62 : decode cX10_field 62 = .ok (.iload_n 2, 1) := by decide +kernel
theorem dX10_field_63 : decode cX10_field 63 = .ok (.iload 4, 2) := by decide +kernel
theorem dX10_field_65 : decode cX10_field 65 = .ok (.if_icmp .eq 15, 3) := by decide +kernel
theorem dX10_field_68 : decode cX10_field 68 = .ok (.aload_n 0, 1) := by decide +kernel
theorem dX10_field_69 : decode cX10_field 69 = .ok (.getfield 10, 3) := by decide +kernel
theorem dX10_field_72 : decode cX10_field 72 = .ok (.getfield 47, 3) := by decide +kernel
theorem dX10_field_75 : decode cX10_field 75 = .ok (.bipush 40, 2) := by decide +kernel
theorem dX10_field_77 : decode cX10_field 77 = .ok (.if_icmp .lt 5, 3) := by decide +kernel
theorem dX10_field_80 : decode cX10_field 80 = .ok (.iconst (-1), 1) := by decide +kernel
theorem dX10_field_81 : decode cX10_field 81 = .ok (.ireturn, 1) := by decide +kernel
theorem dX10_field_82 : decode cX10_field 82 = .ok (.aload_n 0, 1) := by decide +kernel
theorem dX10_field_83 : decode cX10_field 83 = .ok (.getfield 10, 3) := by decide +kernel
theorem dX10_field_86 : decode cX10_field 86 = .ok (.new 51, 3) := by decide +kernel
theorem dX10_field_89 : decode cX10_field 89 = .ok (.dup, 1) := by decide +kernel
theorem dX10_field_90 : decode cX10_field 90 = .ok (.aload_n 0, 1) := by decide +kernel
theorem dX10_field_91 : decode cX10_field 91 = .ok (.getfield 10, 3) := by decide +kernel
theorem dX10_field_94 : decode cX10_field 94 = .ok (.getfield 47, 3) := by decide +kernel
theorem dX10_field_97 : decode cX10_field 97 = .ok (.iload_n 1, 1) := by decide +kernel
theorem dX10_field_98 : decode cX10_field 98 = .ok (.iload_n 2, 1) := by decide +kernel
theorem dX10_field_99 : decode cX10_field 99 = .ok (.iload_n 3, 1) := by decide +kernel
theorem dX10_field_100 : decode cX10_field 100 = .ok (.iload 4, 2) := by decide +kernel
theorem dX10_field_102 : decode cX10_field 102 = .ok (.invokespecial 53, 3) := by decide +kernel
theorem dX10_field_105 : decode cX10_field 105 = .ok (.invokevirtual 56, 3) := by decide +kernel
theorem dX10_field_108 : decode cX10_field 108 = .ok (.ireturn, 1) := by decide +kernel
theorem dX10_near_0 : decode cX10_near 0 = .ok (.aload_n 0, 1) := by decide +kernel
theorem dX10_near_1 : decode cX10_near 1 = .ok (.getfield 10, 3) := by decide +kernel
theorem dX10_near_4 : decode cX10_near 4 = .ok (.iload_n 1, 1) := by decide +kernel
theorem dX10_near_5 : decode cX10_near 5 = .ok (.invokevirtual 60, 3) := by decide +kernel
theorem dX10_near_8 : decode cX10_near 8 = .ok (.astore_n 3, 1) := by decide +kernel
theorem dX10_near_9 : decode cX10_near 9 = .ok (.aload_n 0, 1) := by decide +kernel
theorem dX10_near_10 : decode cX10_near 10 = .ok (.getfield 10, 3) := by decide +kernel
theorem dX10_near_13 : decode cX10_near 13 = .ok (.iload_n 2, 1) := by decide +kernel
theorem dX10_near_14 : decode cX10_near 14 = .ok (.invokevirtual 60, 3) := by decide +kernel
theorem dX10_near_17 : decode cX10_near 17 = .ok (.astore 4, 2) := by decide +kernel
theorem dX10_near_19 : decode cX10_near 19 = .ok (.aload_n 3, 1) := by decide +kernel
theorem dX10_near_20 : decode cX10_near 20 = .ok (.ifnull 8, 3) := by decide +kernel
theorem dX10_near_23 : decode cX10_near 23 = .ok (.aload 4, 2) := by decide +kernel
theorem dX10_near_25 : decode cX10_near 25 = .ok (.ifnonnull 7, 3) := by decide +kernel
theorem dX10_near_28 : decode cX10_near 28 = .ok (.iconst (-1), 1) := by decide +kernel
theorem dX10_near_29 : decode cX10_near 29 = .ok (.goto 9, 3) := by decide +kernel
theorem dX10_near_32 : decode cX10_near 32 = .ok (.aload_n 3, 1) := by decide +kernel
theorem dX10_near_33 : decode cX10_near 33 = .ok (.aload 4, 2) := by decide +kernel
theorem dX10_near_35 : decode cX10_near 35 = .ok (.invokevirtual 64, 3) := by decide +kernel
theorem dX10_near_38 : decode cX10_near 38 = .ok (.ireturn, 1) := by decide +kernel
theorem dX10_stand_0 : decode cX10_stand 0 = .ok (.aload_n 0, 1) := by decide +kernel
theorem dX10_stand_1 : decode cX10_stand 1 = .ok (.getfield 10, 3) := by decide +kernel
theorem dX10_stand_4 : decode cX10_stand 4 = .ok (.iload_n 1, 1) := by decide +kernel
theorem dX10_stand_5 : decode cX10_stand 5 = .ok (.invokevirtual 60, 3) := by decide +kernel
theorem dX10_stand_8 : decode cX10_stand 8 = .ok (.astore 4, 2) := by decide +kernel
theorem dX10_stand_10 : decode cX10_stand 10 = .ok (.aload 4, 2) := by decide +kernel
theorem dX10_stand_12 : decode cX10_stand 12 = .ok (.ifnull 40, 3) := by decide +kernel
theorem dX10_stand_15 : decode cX10_stand 15 = .ok (.iload_n 2, 1) := by decide +kernel
theorem dX10_stand_16 : decode cX10_stand 16 = .ok (.iconst 0, 1) := by decide +kernel
theorem dX10_stand_17 : decode cX10_stand 17 = .ok (.aload_n 0, 1) := by decide +kernel
theorem dX10_stand_18 : decode cX10_stand 18 = .ok (.getfield 10, 3) := by decide +kernel
theorem dX10_stand_21 : decode cX10_stand 21 = .ok (.getfield 67, 3) := by decide +kernel
theorem dX10_stand_24 : decode cX10_stand 24 = .ok (.invokestatic 43, 3) := by decide +kernel
theorem dX10_stand_27 : decode cX10_stand 27 = .ok (.ifCond .eq 25, 3) := by decide +kernel
theorem dX10_stand_30 : decode cX10_stand 30 = .ok (.iload_n 3, 1) := by decide +kernel
theorem dX10_stand_31 : decode cX10_stand 31 = .ok (.iconst 0, 1) := by decide +kernel
theorem dX10_stand_32 : decode cX10_stand 32 = .ok (.iconst 4, 1) := by decide +kernel
theorem dX10_stand_33 : decode cX10_stand 33 = .ok (.invokestatic 43, 3) := by decide +kernel
theorem dX10_stand_36 : decode cX10_stand 36 = .ok (.ifCond .eq 16, 3) := by decide +kernel
theorem dX10_stand_39 : decode cX10_stand 39 = .ok (.aload_n 0, 1) := by decide +kernel
theorem dX10_stand_40 : decode cX10_stand 40 = .ok (.getfield 10, 3) := by decide +kernel
theorem dX10_stand_43 : decode cX10_stand 43 = .ok (.getfield 70, 3) := by decide +kernel
theorem dX10_stand_46 : decode cX10_stand 46 = .ok (.sipush 300, 3) := by decide +kernel
theorem dX10_stand_49 : decode cX10_stand 49 = .ok (.if_icmp .lt 5, 3) := by decide +kernel
theorem dX10_stand_52 : decode cX10_stand 52 = .ok (.iconst 0, 1) := by decide +kernel
theorem dX10_stand_53 : decode cX10_stand 53 = .ok (.ireturn, 1) := by decide +kernel
theorem dX10_stand_54 : decode cX10_stand 54 = .ok (.aload 4, 2) := by decide +kernel
theorem dX10_stand_56 : decode cX10_stand 56 = .ok (.iload_n 2, 1) := by decide +kernel
theorem dX10_stand_57 : decode cX10_stand 57 = .ok (.iload_n 3, 1) := by decide +kernel
theorem dX10_stand_58 : decode cX10_stand 58 = .ok (.aload_n 0, 1) := by decide +kernel
theorem dX10_stand_59 : decode cX10_stand 59 = .ok (.getfield 10, 3) := by decide +kernel
theorem dX10_stand_62 : decode cX10_stand 62 = .ok (.getfield 67, 3) := by decide +kernel
theorem dX10_stand_65 : decode cX10_stand 65 = .ok (.invokevirtual 73, 3) := by decide +kernel
theorem dX10_stand_68 : decode cX10_stand 68 = .ok (.aload_n 0, 1) := by decide +kernel
theorem dX10_stand_69 : decode cX10_stand 69 = .ok (.getfield 10, 3) := by decide +kernel
theorem dX10_stand_72 : decode cX10_stand 72 = .ok (.dup, 1) := by decide +kernel
theorem dX10_stand_73 : decode cX10_stand 73 = .ok (.getfield 70, 3) := by decide +kernel
theorem dX10_stand_76 : decode cX10_stand 76 = .ok (.iconst 1, 1) := by decide +kernel
theorem dX10_stand_77 : decode cX10_stand 77 = .ok (.iadd, 1) := by decide +kernel
theorem dX10_stand_78 : decode cX10_stand 78 = .ok (.putfield 70, 3) := by decide +kernel
theorem dX10_stand_81 : decode cX10_stand 81 = .ok (.iconst 1, 1) := by decide +kernel
theorem dX10_stand_82 : decode cX10_stand 82 = .ok (.ireturn, 1) := by decide +kernel
theorem dX10_stands_0 : decode cX10_stands 0 = .ok (.aload_n 0, 1) := by decide +kernel
theorem dX10_stands_1 : decode cX10_stands 1 = .ok (.getfield 10, 3) := by decide +kernel
theorem dX10_stands_4 : decode cX10_stands 4 = .ok (.iload_n 1, 1) := by decide +kernel
theorem dX10_stands_5 : decode cX10_stands 5 = .ok (.invokevirtual 60, 3) := by decide +kernel
theorem dX10_stands_8 : decode cX10_stands 8 = .ok (.astore 4, 2) := by decide +kernel
theorem dX10_stands_10 : decode cX10_stands 10 = .ok (.aload 4, 2) := by decide +kernel
theorem dX10_stands_12 : decode cX10_stands 12 = .ok (.ifnull 33, 3) := by decide +kernel
theorem dX10_stands_15 : decode cX10_stands 15 = .ok (.iload_n 2, 1) := by decide +kernel
theorem dX10_stands_16 : decode cX10_stands 16 = .ok (.iconst 0, 1) := by decide +kernel
theorem dX10_stands_17 : decode cX10_stands 17 = .ok (.aload_n 0, 1) := by decide +kernel
theorem dX10_stands_18 : decode cX10_stands 18 = .ok (.getfield 10, 3) := by decide +kernel
theorem dX10_stands_21 : decode cX10_stands 21 = .ok (.getfield 67, 3) := by decide +kernel
theorem dX10_stands_24 : decode cX10_stands 24 = .ok (.invokestatic 43, 3) := by decide +kernel
theorem dX10_stands_27 : decode cX10_stands 27 = .ok (.ifCond .eq 18, 3) := by decide +kernel
theorem dX10_stands_30 : decode cX10_stands 30 = .ok (.iload_n 3, 1) := by decide +kernel
theorem dX10_stands_31 : decode cX10_stands 31 = .ok (.iconst 0, 1) := by decide +kernel
theorem dX10_stands_32 : decode cX10_stands 32 = .ok (.aload_n 0, 1) := by decide +kernel
theorem dX10_stands_33 : decode cX10_stands 33 = .ok (.getfield 10, 3) := by decide +kernel
theorem dX10_stands_36 : decode cX10_stands 36 = .ok (.getfield 67, 3) := by decide +kernel
theorem dX10_stands_39 : decode cX10_stands 39 = .ok (.invokestatic 43, 3) := by decide +kernel
theorem dX10_stands_42 : decode cX10_stands 42 = .ok (.ifCond .ne 5, 3) := by decide +kernel
theorem dX10_stands_45 : decode cX10_stands 45 = .ok (.iconst (-1), 1) := by decide +kernel
theorem dX10_stands_46 : decode cX10_stands 46 = .ok (.ireturn, 1) := by decide +kernel
theorem dX10_stands_47 : decode cX10_stands 47 = .ok (.aload 4, 2) := by decide +kernel
theorem dX10_stands_49 : decode cX10_stands 49 = .ok (.iload_n 2, 1) := by decide +kernel
theorem dX10_stands_50 : decode cX10_stands 50 = .ok (.iload_n 3, 1) := by decide +kernel
theorem dX10_stands_51 : decode cX10_stands 51 = .ok (.invokevirtual 77, 3) := by decide +kernel
theorem dX10_stands_54 : decode cX10_stands 54 = .ok (.ireturn, 1) := by decide +kernel
theorem dX10_statute_0 : decode cX10_statute 0 = .ok (.iload_n 1, 1) := by decide +kernel
theorem dX10_statute_1 : decode cX10_statute 1 = .ok (.iconst 0, 1) := by decide +kernel
theorem dX10_statute_2 : decode cX10_statute 2 = .ok (.getstatic 81, 3) := by decide +kernel
theorem dX10_statute_5 : decode cX10_statute 5 = .ok (.arraylength, 1) := by decide +kernel
theorem dX10_statute_6 : decode cX10_statute 6 = .ok (.iconst 1, 1) := by decide +kernel
theorem dX10_statute_7 : decode cX10_statute 7 = .ok (.isub, 1) := by decide +kernel
theorem dX10_statute_8 : decode cX10_statute 8 = .ok (.invokestatic 43, 3) := by decide +kernel
theorem dX10_statute_11 : decode cX10_statute 11 = .ok (.ifCond .eq 26, 3) := by decide +kernel
theorem dX10_statute_14 : decode cX10_statute 14 = .ok (.iload_n 2, 1) := by decide +kernel
theorem dX10_statute_15 : decode cX10_statute 15 = .ok (.iconst 0, 1) := by decide +kernel
theorem dX10_statute_16 : decode cX10_statute 16 = .ok (.bipush 60, 2) := by decide +kernel
theorem dX10_statute_18 : decode cX10_statute 18 = .ok (.invokestatic 43, 3) := by decide +kernel
theorem dX10_statute_21 : decode cX10_statute 21 = .ok (.ifCond .eq 16, 3) := by decide +kernel
theorem dX10_statute_24 : decode cX10_statute 24 = .ok (.iload_n 3, 1) := by decide +kernel
theorem dX10_statute_25 : decode cX10_statute 25 = .ok (.iconst 0, 1) := by decide +kernel
theorem dX10_statute_26 : decode cX10_statute 26 = .ok (.getstatic 81, 3) := by decide +kernel
theorem dX10_statute_29 : decode cX10_statute 29 = .ok (.iload_n 1, 1) := by decide +kernel
theorem dX10_statute_30 : decode cX10_statute 30 = .ok (.iaload, 1) := by decide +kernel
theorem dX10_statute_31 : decode cX10_statute 31 = .ok (.invokestatic 43, 3) := by decide +kernel
theorem dX10_statute_34 : decode cX10_statute 34 = .ok (.ifCond .ne 5, 3) := by decide +kernel
theorem dX10_statute_37 : decode cX10_statute 37 = .ok (.iconst (-1), 1) := by decide +kernel
theorem dX10_statute_38 : decode cX10_statute 38 = .ok (.ireturn, 1) := by decide +kernel
theorem dX10_statute_39 : decode cX10_statute 39 = .ok (.aload_n 0, 1) := by decide +kernel
theorem dX10_statute_40 : decode cX10_statute 40 = .ok (.getfield 10, 3) := by decide +kernel
theorem dX10_statute_43 : decode cX10_statute 43 = .ok (.iload_n 1, 1) := by decide +kernel
theorem dX10_statute_44 : decode cX10_statute 44 = .ok (.iload_n 2, 1) := by decide +kernel
theorem dX10_statute_45 : decode cX10_statute 45 = .ok (.iload_n 3, 1) := by decide +kernel
theorem dX10_statute_46 : decode cX10_statute 46 = .ok (.invokevirtual 84, 3) := by decide +kernel
theorem dX10_statute_49 : decode cX10_statute 49 = .ok (.ireturn, 1) := by decide +kernel
theorem dX10_force_0 : decode cX10_force 0 = .ok (.iload_n 1, 1) := by decide +kernel
theorem dX10_force_1 : decode cX10_force 1 = .ok (.iconst 0, 1) := by decide +kernel
theorem dX10_force_2 : decode cX10_force 2 = .ok (.getstatic 81, 3) := by decide +kernel
theorem dX10_force_5 : decode cX10_force 5 = .ok (.arraylength, 1) := by decide +kernel
theorem dX10_force_6 : decode cX10_force 6 = .ok (.iconst 1, 1) := by decide +kernel
theorem dX10_force_7 : decode cX10_force 7 = .ok (.isub, 1) := by decide +kernel
theorem dX10_force_8 : decode cX10_force 8 = .ok (.invokestatic 43, 3) := by decide +kernel
theorem dX10_force_11 : decode cX10_force 11 = .ok (.ifCond .eq 28, 3) := by decide +kernel
theorem dX10_force_14 : decode cX10_force 14 = .ok (.iload_n 2, 1) := by decide +kernel
theorem dX10_force_15 : decode cX10_force 15 = .ok (.iconst 0, 1) := by decide +kernel
theorem dX10_force_16 : decode cX10_force 16 = .ok (.bipush 60, 2) := by decide +kernel
theorem dX10_force_18 : decode cX10_force 18 = .ok (.invokestatic 43, 3) := by decide +kernel
theorem dX10_force_21 : decode cX10_force 21 = .ok (.ifCond .eq 18, 3) := by decide +kernel
theorem dX10_force_24 : decode cX10_force 24 = .ok (.iload_n 3, 1) := by decide +kernel
theorem dX10_force_25 : decode cX10_force 25 = .ok (.iconst 0, 1) := by decide +kernel
theorem dX10_force_26 : decode cX10_force 26 = .ok (.aload_n 0, 1) := by decide +kernel
theorem dX10_force_27 : decode cX10_force 27 = .ok (.getfield 10, 3) := by decide +kernel
theorem dX10_force_30 : decode cX10_force 30 = .ok (.getfield 67, 3) := by decide +kernel
theorem dX10_force_33 : decode cX10_force 33 = .ok (.invokestatic 43, 3) := by decide +kernel
theorem dX10_force_36 : decode cX10_force 36 = .ok (.ifCond .ne 5, 3) := by decide +kernel
theorem dX10_force_39 : decode cX10_force 39 = .ok (.iconst (-1), 1) := by decide +kernel
theorem dX10_force_40 : decode cX10_force 40 = .ok (.ireturn, 1) := by decide +kernel
theorem dX10_force_41 : decode cX10_force 41 = .ok (.aload_n 0, 1) := by decide +kernel
theorem dX10_force_42 : decode cX10_force 42 = .ok (.getfield 10, 3) := by decide +kernel
theorem dX10_force_45 : decode cX10_force 45 = .ok (.iload_n 1, 1) := by decide +kernel
theorem dX10_force_46 : decode cX10_force 46 = .ok (.iload_n 2, 1) := by decide +kernel
theorem dX10_force_47 : decode cX10_force 47 = .ok (.iload_n 3, 1) := by decide +kernel
theorem dX10_force_48 : decode cX10_force 48 = .ok (.invokevirtual 88, 3) := by decide +kernel
theorem dX10_force_51 : decode cX10_force 51 = .ok (.ireturn, 1) := by decide +kernel
theorem dX10_tube_0 : decode cX10_tube 0 = .ok (.iload_n 1, 1) := by decide +kernel
theorem dX10_tube_1 : decode cX10_tube 1 = .ok (.iconst 1, 1) := by decide +kernel
theorem dX10_tube_2 : decode cX10_tube 2 = .ok (.iconst 4, 1) := by decide +kernel
theorem dX10_tube_3 : decode cX10_tube 3 = .ok (.invokestatic 43, 3) := by decide +kernel
theorem dX10_tube_6 : decode cX10_tube 6 = .ok (.ifCond .eq 16, 3) := by decide +kernel
theorem dX10_tube_9 : decode cX10_tube 9 = .ok (.aload_n 0, 1) := by decide +kernel
theorem dX10_tube_10 : decode cX10_tube 10 = .ok (.getfield 10, 3) := by decide +kernel
theorem dX10_tube_13 : decode cX10_tube 13 = .ok (.getfield 91, 3) := by decide +kernel
theorem dX10_tube_16 : decode cX10_tube 16 = .ok (.sipush 200, 3) := by decide +kernel
theorem dX10_tube_19 : decode cX10_tube 19 = .ok (.if_icmp .lt 5, 3) := by decide +kernel
theorem dX10_tube_22 : decode cX10_tube 22 = .ok (.iconst (-1), 1) := by decide +kernel
theorem dX10_tube_23 : decode cX10_tube 23 = .ok (.ireturn, 1) := by decide +kernel
theorem dX10_tube_24 : decode cX10_tube 24 = .ok (.new 94, 3) := by decide +kernel
theorem dX10_tube_27 : decode cX10_tube 27 = .ok (.dup, 1) := by decide +kernel
theorem dX10_tube_28 : decode cX10_tube 28 = .ok (.aload_n 0, 1) := by decide +kernel
theorem dX10_tube_29 : decode cX10_tube 29 = .ok (.getfield 10, 3) := by decide +kernel
theorem dX10_tube_32 : decode cX10_tube 32 = .ok (.getfield 91, 3) := by decide +kernel
theorem dX10_tube_35 : decode cX10_tube 35 = .ok (.iconst 0, 1) := by decide +kernel
theorem dX10_tube_36 : decode cX10_tube 36 = .ok (.iload_n 1, 1) := by decide +kernel
theorem dX10_tube_37 : decode cX10_tube 37 = .ok (.aload_n 0, 1) := by decide +kernel
theorem dX10_tube_38 : decode cX10_tube 38 = .ok (.getfield 10, 3) := by decide +kernel
theorem dX10_tube_41 : decode cX10_tube 41 = .ok (.getfield 67, 3) := by decide +kernel
theorem dX10_tube_44 : decode cX10_tube 44 = .ok (.invokespecial 96, 3) := by decide +kernel
theorem dX10_tube_47 : decode cX10_tube 47 = .ok (.astore_n 2, 1) := by decide +kernel
theorem dX10_tube_48 : decode cX10_tube 48 = .ok (.aload_n 2, 1) := by decide +kernel
theorem dX10_tube_49 : decode cX10_tube 49 = .ok (.bipush 100, 2) := by decide +kernel
theorem dX10_tube_51 : decode cX10_tube 51 = .ok (.invokevirtual 99, 3) := by decide +kernel
theorem dX10_tube_54 : decode cX10_tube 54 = .ok (.aload_n 0, 1) := by decide +kernel
theorem dX10_tube_55 : decode cX10_tube 55 = .ok (.getfield 10, 3) := by decide +kernel
theorem dX10_tube_58 : decode cX10_tube 58 = .ok (.aload_n 2, 1) := by decide +kernel
theorem dX10_tube_59 : decode cX10_tube 59 = .ok (.invokevirtual 103, 3) := by decide +kernel
theorem dX10_tube_62 : decode cX10_tube 62 = .ok (.ireturn, 1) := by decide +kernel
theorem dX10_sow_0 : decode cX10_sow 0 = .ok (.aload_n 0, 1) := by decide +kernel
theorem dX10_sow_1 : decode cX10_sow 1 = .ok (.getfield 10, 3) := by decide +kernel
theorem dX10_sow_4 : decode cX10_sow 4 = .ok (.iload_n 1, 1) := by decide +kernel
theorem dX10_sow_5 : decode cX10_sow 5 = .ok (.invokevirtual 107, 3) := by decide +kernel
theorem dX10_sow_8 : decode cX10_sow 8 = .ok (.astore 4, 2) := by decide +kernel
theorem dX10_sow_10 : decode cX10_sow 10 = .ok (.aload_n 0, 1) := by decide +kernel
theorem dX10_sow_11 : decode cX10_sow 11 = .ok (.getfield 10, 3) := by decide +kernel
theorem dX10_sow_14 : decode cX10_sow 14 = .ok (.iload_n 2, 1) := by decide +kernel
theorem dX10_sow_15 : decode cX10_sow 15 = .ok (.invokevirtual 60, 3) := by decide +kernel
theorem dX10_sow_18 : decode cX10_sow 18 = .ok (.astore 5, 2) := by decide +kernel
theorem dX10_sow_20 : decode cX10_sow 20 = .ok (.aload 4, 2) := by decide +kernel
theorem dX10_sow_22 : decode cX10_sow 22 = .ok (.ifnull 30, 3) := by decide +kernel
theorem dX10_sow_25 : decode cX10_sow 25 = .ok (.aload 5, 2) := by decide +kernel
theorem dX10_sow_27 : decode cX10_sow 27 = .ok (.ifnull 25, 3) := by decide +kernel
theorem dX10_sow_30 : decode cX10_sow 30 = .ok (.aload 4, 2) := by decide +kernel
theorem dX10_sow_32 : decode cX10_sow 32 = .ok (.iload_n 3, 1) := by decide +kernel
theorem dX10_sow_33 : decode cX10_sow 33 = .ok (.invokevirtual 111, 3) := by decide +kernel
theorem dX10_sow_36 : decode cX10_sow 36 = .ok (.ifCond .eq 16, 3) := by decide +kernel
theorem dX10_sow_39 : decode cX10_sow 39 = .ok (.aload_n 0, 1) := by decide +kernel
theorem dX10_sow_40 : decode cX10_sow 40 = .ok (.getfield 10, 3) := by decide +kernel
theorem dX10_sow_43 : decode cX10_sow 43 = .ok (.getfield 91, 3) := by decide +kernel
theorem dX10_sow_46 : decode cX10_sow 46 = .ok (.sipush 200, 3) := by decide +kernel
theorem dX10_sow_49 : decode cX10_sow 49 = .ok (.if_icmp .lt 5, 3) := by decide +kernel
theorem dX10_sow_52 : decode cX10_sow 52 = .ok (.iconst (-1), 1) := by decide +kernel
theorem dX10_sow_53 : decode cX10_sow 53 = .ok (.ireturn, 1) := by decide +kernel
theorem dX10_sow_54 : decode cX10_sow 54 = .ok (.aload 4, 2) := by decide +kernel
theorem dX10_sow_56 : decode cX10_sow 56 = .ok (.getfield 115, 3) := by decide +kernel
theorem dX10_sow_59 : decode cX10_sow 59 = .ok (.ifCond .eq 22, 3) := by decide +kernel
theorem dX10_sow_62 : decode cX10_sow 62 = .ok (.aload 4, 2) := by decide +kernel
theorem dX10_sow_64 : decode cX10_sow 64 = .ok (.getfield 118, 3) := by decide +kernel
theorem dX10_sow_67 : decode cX10_sow 67 = .ok (.aload_n 0, 1) := by decide +kernel
theorem dX10_sow_68 : decode cX10_sow 68 = .ok (.getfield 10, 3) := by decide +kernel
theorem dX10_sow_71 : decode cX10_sow 71 = .ok (.getfield 67, 3) := by decide +kernel
theorem dX10_sow_74 : decode cX10_sow 74 = .ok (.if_icmp .ne 7, 3) := by decide +kernel
theorem dX10_sow_77 : decode cX10_sow 77 = .ok (.iconst 1, 1) := by decide +kernel
theorem dX10_sow_78 : decode cX10_sow 78 = .ok (.goto 4, 3) := by decide +kernel
theorem dX10_sow_81 : decode cX10_sow 81 = .ok (.iconst 0, 1) := by decide +kernel
theorem dX10_sow_82 : decode cX10_sow 82 = .ok (.istore 6, 2) := by decide +kernel
theorem dX10_sow_84 : decode cX10_sow 84 = .ok (.iload 6, 2) := by decide +kernel
theorem dX10_sow_86 : decode cX10_sow 86 = .ok (.ifCond .ne 18, 3) := by decide +kernel
theorem dX10_sow_89 : decode cX10_sow 89 = .ok (.aload 5, 2) := by decide +kernel
theorem dX10_sow_91 : decode cX10_sow 91 = .ok (.aload_n 0, 1) := by decide +kernel
theorem dX10_sow_92 : decode cX10_sow 92 = .ok (.getfield 10, 3) := by decide +kernel
theorem dX10_sow_95 : decode cX10_sow 95 = .ok (.getfield 67, 3) := by decide +kernel
theorem dX10_sow_98 : decode cX10_sow 98 = .ok (.invokevirtual 121, 3) := by decide +kernel
theorem dX10_sow_101 : decode cX10_sow 101 = .ok (.ifnull 5, 3) := by decide +kernel
theorem dX10_sow_104 : decode cX10_sow 104 = .ok (.iconst (-1), 1) := by decide +kernel
theorem dX10_sow_105 : decode cX10_sow 105 = .ok (.ireturn, 1) := by decide +kernel
theorem dX10_sow_106 : decode cX10_sow 106 = .ok (.new 94, 3) := by decide +kernel
theorem dX10_sow_109 : decode cX10_sow 109 = .ok (.dup, 1) := by decide +kernel
theorem dX10_sow_110 : decode cX10_sow 110 = .ok (.aload_n 0, 1) := by decide +kernel
theorem dX10_sow_111 : decode cX10_sow 111 = .ok (.getfield 10, 3) := by decide +kernel
theorem dX10_sow_114 : decode cX10_sow 114 = .ok (.getfield 91, 3) := by decide +kernel
theorem dX10_sow_117 : decode cX10_sow 117 = .ok (.iconst 1, 1) := by decide +kernel
theorem dX10_sow_118 : decode cX10_sow 118 = .ok (.aload 4, 2) := by decide +kernel
theorem dX10_sow_120 : decode cX10_sow 120 = .ok (.getfield 124, 3) := by decide +kernel
theorem dX10_sow_123 : decode cX10_sow 123 = .ok (.aload_n 0, 1) := by decide +kernel
theorem dX10_sow_124 : decode cX10_sow 124 = .ok (.getfield 10, 3) := by decide +kernel
theorem dX10_sow_127 : decode cX10_sow 127 = .ok (.getfield 67, 3) := by decide +kernel
theorem dX10_sow_130 : decode cX10_sow 130 = .ok (.invokespecial 96, 3) := by decide +kernel
theorem dX10_sow_133 : decode cX10_sow 133 = .ok (.astore 7, 2) := by decide +kernel
theorem dX10_sow_135 : decode cX10_sow 135 = .ok (.aload 7, 2) := by decide +kernel
theorem dX10_sow_137 : decode cX10_sow 137 = .ok (.aload 4, 2) := by decide +kernel
theorem dX10_sow_139 : decode cX10_sow 139 = .ok (.putfield 127, 3) := by decide +kernel
theorem dX10_sow_142 : decode cX10_sow 142 = .ok (.aload 7, 2) := by decide +kernel
theorem dX10_sow_144 : decode cX10_sow 144 = .ok (.aload 5, 2) := by decide +kernel
theorem dX10_sow_146 : decode cX10_sow 146 = .ok (.putfield 131, 3) := by decide +kernel
theorem dX10_sow_149 : decode cX10_sow 149 = .ok (.aload 5, 2) := by decide +kernel
theorem dX10_sow_151 : decode cX10_sow 151 = .ok (.aload 7, 2) := by decide +kernel
theorem dX10_sow_153 : decode cX10_sow 153 = .ok (.invokevirtual 135, 3) := by decide +kernel
theorem dX10_sow_156 : decode cX10_sow 156 = .ok (.aload 4, 2) := by decide +kernel
theorem dX10_sow_158 : decode cX10_sow 158 = .ok (.dup, 1) := by decide +kernel
theorem dX10_sow_159 : decode cX10_sow 159 = .ok (.getfield 139, 3) := by decide +kernel
theorem dX10_sow_162 : decode cX10_sow 162 = .ok (.iload_n 3, 1) := by decide +kernel
theorem dX10_sow_163 : decode cX10_sow 163 = .ok (.isub, 1) := by decide +kernel
theorem dX10_sow_164 : decode cX10_sow 164 = .ok (.putfield 139, 3) := by decide +kernel
theorem dX10_sow_167 : decode cX10_sow 167 = .ok (.aload 4, 2) := by decide +kernel
theorem dX10_sow_169 : decode cX10_sow 169 = .ok (.dup, 1) := by decide +kernel
theorem dX10_sow_170 : decode cX10_sow 170 = .ok (.getfield 142, 3) := by decide +kernel
theorem dX10_sow_173 : decode cX10_sow 173 = .ok (.iload_n 3, 1) := by decide +kernel
theorem dX10_sow_174 : decode cX10_sow 174 = .ok (.iadd, 1) := by decide +kernel
theorem dX10_sow_175 : decode cX10_sow 175 = .ok (.putfield 142, 3) := by decide +kernel
theorem dX10_sow_178 : decode cX10_sow 178 = .ok (.aload_n 0, 1) := by decide +kernel
theorem dX10_sow_179 : decode cX10_sow 179 = .ok (.getfield 10, 3) := by decide +kernel
theorem dX10_sow_182 : decode cX10_sow 182 = .ok (.aload 7, 2) := by decide +kernel
theorem dX10_sow_184 : decode cX10_sow 184 = .ok (.invokevirtual 103, 3) := by decide +kernel
theorem dX10_sow_187 : decode cX10_sow 187 = .ok (.ireturn, 1) := by decide +kernel
theorem dX10_harvest_0 : decode cX10_harvest 0 = .ok (.aload_n 0, 1) := by decide +kernel
theorem dX10_harvest_1 : decode cX10_harvest 1 = .ok (.getfield 10, 3) := by decide +kernel
theorem dX10_harvest_4 : decode cX10_harvest 4 = .ok (.iload_n 1, 1) := by decide +kernel
theorem dX10_harvest_5 : decode cX10_harvest 5 = .ok (.invokevirtual 107, 3) := by decide +kernel
theorem dX10_harvest_8 : decode cX10_harvest 8 = .ok (.astore_n 3, 1) := by decide +kernel
theorem dX10_harvest_9 : decode cX10_harvest 9 = .ok (.aload_n 3, 1) := by decide +kernel
theorem dX10_harvest_10 : decode cX10_harvest 10 = .ok (.ifnull 29, 3) := by decide +kernel
theorem dX10_harvest_13 : decode cX10_harvest 13 = .ok (.aload_n 3, 1) := by decide +kernel
theorem dX10_harvest_14 : decode cX10_harvest 14 = .ok (.getfield 115, 3) := by decide +kernel
theorem dX10_harvest_17 : decode cX10_harvest 17 = .ok (.iconst 1, 1) := by decide +kernel
theorem dX10_harvest_18 : decode cX10_harvest 18 = .ok (.if_icmp .ne 21, 3) := by decide +kernel
theorem dX10_harvest_21 : decode cX10_harvest 21 = .ok (.aload_n 3, 1) := by decide +kernel
theorem dX10_harvest_22 : decode cX10_harvest 22 = .ok (.getfield 145, 3) := by decide +kernel
theorem dX10_harvest_25 : decode cX10_harvest 25 = .ok (.iconst (-1), 1) := by decide +kernel
theorem dX10_harvest_26 : decode cX10_harvest 26 = .ok (.if_icmp .ne 13, 3) := by decide +kernel
theorem dX10_harvest_29 : decode cX10_harvest 29 = .ok (.iload_n 2, 1) := by decide +kernel
theorem dX10_harvest_30 : decode cX10_harvest 30 = .ok (.iconst 1, 1) := by decide +kernel
theorem dX10_harvest_31 : decode cX10_harvest 31 = .ok (.ldc 148, 2) := by decide +kernel
theorem dX10_harvest_33 : decode cX10_harvest 33 = .ok (.invokestatic 43, 3) := by decide +kernel
theorem dX10_harvest_36 : decode cX10_harvest 36 = .ok (.ifCond .ne 5, 3) := by decide +kernel
theorem dX10_harvest_39 : decode cX10_harvest 39 = .ok (.iconst 0, 1) := by decide +kernel
theorem dX10_harvest_40 : decode cX10_harvest 40 = .ok (.ireturn, 1) := by decide +kernel
theorem dX10_harvest_41 : decode cX10_harvest 41 = .ok (.aload_n 3, 1) := by decide +kernel
theorem dX10_harvest_42 : decode cX10_harvest 42 = .ok (.iload_n 2, 1) := by decide +kernel
theorem dX10_harvest_43 : decode cX10_harvest 43 = .ok (.invokevirtual 99, 3) := by decide +kernel
theorem dX10_harvest_46 : decode cX10_harvest 46 = .ok (.iconst 1, 1) := by decide +kernel
theorem dX10_harvest_47 : decode cX10_harvest 47 = .ok (.ireturn, 1) := by decide +kernel
theorem dX10_mix_0 : decode cX10_mix 0 = .ok (.aload_n 0, 1) := by decide +kernel
theorem dX10_mix_1 : decode cX10_mix 1 = .ok (.getfield 10, 3) := by decide +kernel
theorem dX10_mix_4 : decode cX10_mix 4 = .ok (.iload_n 1, 1) := by decide +kernel
theorem dX10_mix_5 : decode cX10_mix 5 = .ok (.invokevirtual 107, 3) := by decide +kernel
theorem dX10_mix_8 : decode cX10_mix 8 = .ok (.astore 5, 2) := by decide +kernel
theorem dX10_mix_10 : decode cX10_mix 10 = .ok (.aload_n 0, 1) := by decide +kernel
theorem dX10_mix_11 : decode cX10_mix 11 = .ok (.getfield 10, 3) := by decide +kernel
theorem dX10_mix_14 : decode cX10_mix 14 = .ok (.iload_n 3, 1) := by decide +kernel
theorem dX10_mix_15 : decode cX10_mix 15 = .ok (.invokevirtual 107, 3) := by decide +kernel
theorem dX10_mix_18 : decode cX10_mix 18 = .ok (.astore 6, 2) := by decide +kernel
theorem dX10_mix_20 : decode cX10_mix 20 = .ok (.aload 5, 2) := by decide +kernel
theorem dX10_mix_22 : decode cX10_mix 22 = .ok (.ifnull 60, 3) := by decide +kernel
theorem dX10_mix_25 : decode cX10_mix 25 = .ok (.aload 6, 2) := by decide +kernel
theorem dX10_mix_27 : decode cX10_mix 27 = .ok (.ifnull 55, 3) := by decide +kernel
theorem dX10_mix_30 : decode cX10_mix 30 = .ok (.aload 5, 2) := by decide +kernel
theorem dX10_mix_32 : decode cX10_mix 32 = .ok (.aload 6, 2) := by decide +kernel
theorem dX10_mix_34 : decode cX10_mix 34 = .ok (.if_acmp .eq 48, 3) := by decide +kernel
theorem dX10_mix_37 : decode cX10_mix 37 = .ok (.aload 5, 2) := by decide +kernel
theorem dX10_mix_39 : decode cX10_mix 39 = .ok (.getfield 124, 3) := by decide +kernel
theorem dX10_mix_42 : decode cX10_mix 42 = .ok (.aload 6, 2) := by decide +kernel
theorem dX10_mix_44 : decode cX10_mix 44 = .ok (.getfield 124, 3) := by decide +kernel
theorem dX10_mix_47 : decode cX10_mix 47 = .ok (.if_icmp .ne 35, 3) := by decide +kernel
theorem dX10_mix_50 : decode cX10_mix 50 = .ok (.aload 5, 2) := by decide +kernel
theorem dX10_mix_52 : decode cX10_mix 52 = .ok (.iload_n 2, 1) := by decide +kernel
theorem dX10_mix_53 : decode cX10_mix 53 = .ok (.invokevirtual 111, 3) := by decide +kernel
theorem dX10_mix_56 : decode cX10_mix 56 = .ok (.ifCond .eq 26, 3) := by decide +kernel
theorem dX10_mix_59 : decode cX10_mix 59 = .ok (.aload 6, 2) := by decide +kernel
theorem dX10_mix_61 : decode cX10_mix 61 = .ok (.iload 4, 2) := by decide +kernel
theorem dX10_mix_63 : decode cX10_mix 63 = .ok (.invokevirtual 111, 3) := by decide +kernel
theorem dX10_mix_66 : decode cX10_mix 66 = .ok (.ifCond .eq 16, 3) := by decide +kernel
theorem dX10_mix_69 : decode cX10_mix 69 = .ok (.aload_n 0, 1) := by decide +kernel
theorem dX10_mix_70 : decode cX10_mix 70 = .ok (.getfield 10, 3) := by decide +kernel
theorem dX10_mix_73 : decode cX10_mix 73 = .ok (.getfield 91, 3) := by decide +kernel
theorem dX10_mix_76 : decode cX10_mix 76 = .ok (.sipush 200, 3) := by decide +kernel
theorem dX10_mix_79 : decode cX10_mix 79 = .ok (.if_icmp .lt 5, 3) := by decide +kernel
theorem dX10_mix_82 : decode cX10_mix 82 = .ok (.iconst (-1), 1) := by decide +kernel
theorem dX10_mix_83 : decode cX10_mix 83 = .ok (.ireturn, 1) := by decide +kernel
theorem dX10_mix_84 : decode cX10_mix 84 = .ok (.new 94, 3) := by decide +kernel
theorem dX10_mix_87 : decode cX10_mix 87 = .ok (.dup, 1) := by decide +kernel
theorem dX10_mix_88 : decode cX10_mix 88 = .ok (.aload_n 0, 1) := by decide +kernel
theorem dX10_mix_89 : decode cX10_mix 89 = .ok (.getfield 10, 3) := by decide +kernel
theorem dX10_mix_92 : decode cX10_mix 92 = .ok (.getfield 91, 3) := by decide +kernel
theorem dX10_mix_95 : decode cX10_mix 95 = .ok (.iconst 2, 1) := by decide +kernel
theorem dX10_mix_96 : decode cX10_mix 96 = .ok (.aload 5, 2) := by decide +kernel
theorem dX10_mix_98 : decode cX10_mix 98 = .ok (.getfield 124, 3) := by decide +kernel
theorem dX10_mix_101 : decode cX10_mix 101 = .ok (.aload_n 0, 1) := by decide +kernel
theorem dX10_mix_102 : decode cX10_mix 102 = .ok (.getfield 10, 3) := by decide +kernel
theorem dX10_mix_105 : decode cX10_mix 105 = .ok (.getfield 67, 3) := by decide +kernel
theorem dX10_mix_108 : decode cX10_mix 108 = .ok (.invokespecial 96, 3) := by decide +kernel
theorem dX10_mix_111 : decode cX10_mix 111 = .ok (.astore 7, 2) := by decide +kernel
theorem dX10_mix_113 : decode cX10_mix 113 = .ok (.aload 7, 2) := by decide +kernel
theorem dX10_mix_115 : decode cX10_mix 115 = .ok (.aload 5, 2) := by decide +kernel
theorem dX10_mix_117 : decode cX10_mix 117 = .ok (.putfield 127, 3) := by decide +kernel
theorem dX10_mix_120 : decode cX10_mix 120 = .ok (.aload 7, 2) := by decide +kernel
theorem dX10_mix_122 : decode cX10_mix 122 = .ok (.aload 6, 2) := by decide +kernel
theorem dX10_mix_124 : decode cX10_mix 124 = .ok (.putfield 149, 3) := by decide +kernel
theorem dX10_mix_127 : decode cX10_mix 127 = .ok (.aload 7, 2) := by decide +kernel
theorem dX10_mix_129 : decode cX10_mix 129 = .ok (.iload_n 2, 1) := by decide +kernel
theorem dX10_mix_130 : decode cX10_mix 130 = .ok (.iload 4, 2) := by decide +kernel
theorem dX10_mix_132 : decode cX10_mix 132 = .ok (.iadd, 1) := by decide +kernel
theorem dX10_mix_133 : decode cX10_mix 133 = .ok (.invokevirtual 99, 3) := by decide +kernel
theorem dX10_mix_136 : decode cX10_mix 136 = .ok (.aload 5, 2) := by decide +kernel
theorem dX10_mix_138 : decode cX10_mix 138 = .ok (.dup, 1) := by decide +kernel
theorem dX10_mix_139 : decode cX10_mix 139 = .ok (.getfield 139, 3) := by decide +kernel
theorem dX10_mix_142 : decode cX10_mix 142 = .ok (.iload_n 2, 1) := by decide +kernel
theorem dX10_mix_143 : decode cX10_mix 143 = .ok (.isub, 1) := by decide +kernel
theorem dX10_mix_144 : decode cX10_mix 144 = .ok (.putfield 139, 3) := by decide +kernel
theorem dX10_mix_147 : decode cX10_mix 147 = .ok (.aload 5, 2) := by decide +kernel
theorem dX10_mix_149 : decode cX10_mix 149 = .ok (.dup, 1) := by decide +kernel
theorem dX10_mix_150 : decode cX10_mix 150 = .ok (.getfield 152, 3) := by decide +kernel
theorem dX10_mix_153 : decode cX10_mix 153 = .ok (.iload_n 2, 1) := by decide +kernel
theorem dX10_mix_154 : decode cX10_mix 154 = .ok (.iadd, 1) := by decide +kernel
theorem dX10_mix_155 : decode cX10_mix 155 = .ok (.putfield 152, 3) := by decide +kernel
theorem dX10_mix_158 : decode cX10_mix 158 = .ok (.aload 6, 2) := by decide +kernel
theorem dX10_mix_160 : decode cX10_mix 160 = .ok (.dup, 1) := by decide +kernel
theorem dX10_mix_161 : decode cX10_mix 161 = .ok (.getfield 139, 3) := by decide +kernel
theorem dX10_mix_164 : decode cX10_mix 164 = .ok (.iload 4, 2) := by decide +kernel
theorem dX10_mix_166 : decode cX10_mix 166 = .ok (.isub, 1) := by decide +kernel
theorem dX10_mix_167 : decode cX10_mix 167 = .ok (.putfield 139, 3) := by decide +kernel
theorem dX10_mix_170 : decode cX10_mix 170 = .ok (.aload 6, 2) := by decide +kernel
theorem dX10_mix_172 : decode cX10_mix 172 = .ok (.dup, 1) := by decide +kernel
theorem dX10_mix_173 : decode cX10_mix 173 = .ok (.getfield 152, 3) := by decide +kernel
theorem dX10_mix_176 : decode cX10_mix 176 = .ok (.iload 4, 2) := by decide +kernel
theorem dX10_mix_178 : decode cX10_mix 178 = .ok (.iadd, 1) := by decide +kernel
theorem dX10_mix_179 : decode cX10_mix 179 = .ok (.putfield 152, 3) := by decide +kernel
theorem dX10_mix_182 : decode cX10_mix 182 = .ok (.aload_n 0, 1) := by decide +kernel
theorem dX10_mix_183 : decode cX10_mix 183 = .ok (.getfield 10, 3) := by decide +kernel
theorem dX10_mix_186 : decode cX10_mix 186 = .ok (.aload 7, 2) := by decide +kernel
theorem dX10_mix_188 : decode cX10_mix 188 = .ok (.invokevirtual 103, 3) := by decide +kernel
theorem dX10_mix_191 : decode cX10_mix 191 = .ok (.ireturn, 1) := by decide +kernel
theorem dX10_bag_0 : decode cX10_bag 0 = .ok (.aload_n 0, 1) := by decide +kernel
theorem dX10_bag_1 : decode cX10_bag 1 = .ok (.getfield 10, 3) := by decide +kernel
theorem dX10_bag_4 : decode cX10_bag 4 = .ok (.iload_n 1, 1) := by decide +kernel
theorem dX10_bag_5 : decode cX10_bag 5 = .ok (.invokevirtual 107, 3) := by decide +kernel
theorem dX10_bag_8 : decode cX10_bag 8 = .ok (.astore_n 3, 1) := by decide +kernel
theorem dX10_bag_9 : decode cX10_bag 9 = .ok (.aload_n 3, 1) := by decide +kernel
theorem dX10_bag_10 : decode cX10_bag 10 = .ok (.ifnull 24, 3) := by decide +kernel
theorem dX10_bag_13 : decode cX10_bag 13 = .ok (.aload_n 3, 1) := by decide +kernel
theorem dX10_bag_14 : decode cX10_bag 14 = .ok (.iload_n 2, 1) := by decide +kernel
theorem dX10_bag_15 : decode cX10_bag 15 = .ok (.invokevirtual 111, 3) := by decide +kernel
theorem dX10_bag_18 : decode cX10_bag 18 = .ok (.ifCond .eq 16, 3) := by decide +kernel
theorem dX10_bag_21 : decode cX10_bag 21 = .ok (.aload_n 0, 1) := by decide +kernel
theorem dX10_bag_22 : decode cX10_bag 22 = .ok (.getfield 10, 3) := by decide +kernel
theorem dX10_bag_25 : decode cX10_bag 25 = .ok (.getfield 155, 3) := by decide +kernel
theorem dX10_bag_28 : decode cX10_bag 28 = .ok (.sipush 200, 3) := by decide +kernel
theorem dX10_bag_31 : decode cX10_bag 31 = .ok (.if_icmp .lt 5, 3) := by decide +kernel
theorem dX10_bag_34 : decode cX10_bag 34 = .ok (.iconst (-1), 1) := by decide +kernel
theorem dX10_bag_35 : decode cX10_bag 35 = .ok (.ireturn, 1) := by decide +kernel
theorem dX10_bag_36 : decode cX10_bag 36 = .ok (.aload_n 0, 1) := by decide +kernel
theorem dX10_bag_37 : decode cX10_bag 37 = .ok (.getfield 21, 3) := by decide +kernel
theorem dX10_bag_40 : decode cX10_bag 40 = .ok (.aload_n 3, 1) := by decide +kernel
theorem dX10_bag_41 : decode cX10_bag 41 = .ok (.getfield 158, 3) := by decide +kernel
theorem dX10_bag_44 : decode cX10_bag 44 = .ok (.aload_n 0, 1) := by decide +kernel
theorem dX10_bag_45 : decode cX10_bag 45 = .ok (.getfield 10, 3) := by decide +kernel
theorem dX10_bag_48 : decode cX10_bag 48 = .ok (.getfield 67, 3) := by decide +kernel
theorem dX10_bag_51 : decode cX10_bag 51 = .ok (.invokevirtual 161, 3) := by decide +kernel
theorem dX10_bag_54 : decode cX10_bag 54 = .ok (.aload_n 3, 1) := by decide +kernel
theorem dX10_bag_55 : decode cX10_bag 55 = .ok (.getfield 165, 3) := by decide +kernel
theorem dX10_bag_58 : decode cX10_bag 58 = .ok (.bipush 9, 2) := by decide +kernel
theorem dX10_bag_60 : decode cX10_bag 60 = .ok (.if_icmp .ne 5, 3) := by decide +kernel
theorem dX10_bag_63 : decode cX10_bag 63 = .ok (.iconst (-1), 1) := by decide +kernel
theorem dX10_bag_64 : decode cX10_bag 64 = .ok (.ireturn, 1) := by decide +kernel
theorem dX10_bag_65 : decode cX10_bag 65 = .ok (.aload_n 3, 1) := by decide +kernel
theorem dX10_bag_66 : decode cX10_bag 66 = .ok (.dup, 1) := by decide +kernel
theorem dX10_bag_67 : decode cX10_bag 67 = .ok (.getfield 139, 3) := by decide +kernel
theorem dX10_bag_70 : decode cX10_bag 70 = .ok (.iload_n 2, 1) := by decide +kernel
theorem dX10_bag_71 : decode cX10_bag 71 = .ok (.isub, 1) := by decide +kernel
theorem dX10_bag_72 : decode cX10_bag 72 = .ok (.putfield 139, 3) := by decide +kernel
theorem dX10_bag_75 : decode cX10_bag 75 = .ok (.aload_n 3, 1) := by decide +kernel
theorem dX10_bag_76 : decode cX10_bag 76 = .ok (.dup, 1) := by decide +kernel
theorem dX10_bag_77 : decode cX10_bag 77 = .ok (.getfield 168, 3) := by decide +kernel
theorem dX10_bag_80 : decode cX10_bag 80 = .ok (.iload_n 2, 1) := by decide +kernel
theorem dX10_bag_81 : decode cX10_bag 81 = .ok (.iadd, 1) := by decide +kernel
theorem dX10_bag_82 : decode cX10_bag 82 = .ok (.putfield 168, 3) := by decide +kernel
theorem dX10_bag_85 : decode cX10_bag 85 = .ok (.aload_n 0, 1) := by decide +kernel
theorem dX10_bag_86 : decode cX10_bag 86 = .ok (.getfield 10, 3) := by decide +kernel
theorem dX10_bag_89 : decode cX10_bag 89 = .ok (.new 171, 3) := by decide +kernel
theorem dX10_bag_92 : decode cX10_bag 92 = .ok (.dup, 1) := by decide +kernel
theorem dX10_bag_93 : decode cX10_bag 93 = .ok (.aload_n 3, 1) := by decide +kernel
theorem dX10_bag_94 : decode cX10_bag 94 = .ok (.iload_n 2, 1) := by decide +kernel
theorem dX10_bag_95 : decode cX10_bag 95 = .ok (.aload_n 0, 1) := by decide +kernel
theorem dX10_bag_96 : decode cX10_bag 96 = .ok (.getfield 10, 3) := by decide +kernel
theorem dX10_bag_99 : decode cX10_bag 99 = .ok (.invokevirtual 173, 3) := by decide +kernel
theorem dX10_bag_102 : decode cX10_bag 102 = .ok (.invokespecial 177, 3) := by decide +kernel
theorem dX10_bag_105 : decode cX10_bag 105 = .ok (.invokevirtual 180, 3) := by decide +kernel
theorem dX10_bag_108 : decode cX10_bag 108 = .ok (.ireturn, 1) := by decide +kernel
theorem dX10_open_0 : decode cX10_open 0 = .ok (.aload_n 0, 1) := by decide +kernel
theorem dX10_open_1 : decode cX10_open 1 = .ok (.getfield 10, 3) := by decide +kernel
theorem dX10_open_4 : decode cX10_open 4 = .ok (.iload_n 1, 1) := by decide +kernel
theorem dX10_open_5 : decode cX10_open 5 = .ok (.invokevirtual 184, 3) := by decide +kernel
theorem dX10_open_8 : decode cX10_open 8 = .ok (.astore_n 2, 1) := by decide +kernel
theorem dX10_open_9 : decode cX10_open 9 = .ok (.aload_n 2, 1) := by decide +kernel
theorem dX10_open_10 : decode cX10_open 10 = .ok (.ifnull 10, 3) := by decide +kernel
theorem dX10_open_13 : decode cX10_open 13 = .ok (.aload_n 2, 1) := by decide +kernel
theorem dX10_open_14 : decode cX10_open 14 = .ok (.invokevirtual 188, 3) := by decide +kernel
theorem dX10_open_17 : decode cX10_open 17 = .ok (.ifCond .eq 5, 3) := by decide +kernel
theorem dX10_open_20 : decode cX10_open 20 = .ok (.iconst 0, 1) := by decide +kernel
theorem dX10_open_21 : decode cX10_open 21 = .ok (.ireturn, 1) := by decide +kernel
theorem dX10_open_22 : decode cX10_open 22 = .ok (.aload_n 2, 1) := by decide +kernel
theorem dX10_open_23 : decode cX10_open 23 = .ok (.iconst 0, 1) := by decide +kernel
theorem dX10_open_24 : decode cX10_open 24 = .ok (.putfield 192, 3) := by decide +kernel
theorem dX10_open_27 : decode cX10_open 27 = .ok (.iconst 1, 1) := by decide +kernel
theorem dX10_open_28 : decode cX10_open 28 = .ok (.ireturn, 1) := by decide +kernel
theorem dX10_seal_0 : decode cX10_seal 0 = .ok (.aload_n 0, 1) := by decide +kernel
theorem dX10_seal_1 : decode cX10_seal 1 = .ok (.getfield 10, 3) := by decide +kernel
theorem dX10_seal_4 : decode cX10_seal 4 = .ok (.iload_n 1, 1) := by decide +kernel
theorem dX10_seal_5 : decode cX10_seal 5 = .ok (.invokevirtual 184, 3) := by decide +kernel
theorem dX10_seal_8 : decode cX10_seal 8 = .ok (.astore_n 2, 1) := by decide +kernel
theorem dX10_seal_9 : decode cX10_seal 9 = .ok (.aload_n 2, 1) := by decide +kernel
theorem dX10_seal_10 : decode cX10_seal 10 = .ok (.ifnull 17, 3) := by decide +kernel
theorem dX10_seal_13 : decode cX10_seal 13 = .ok (.aload_n 2, 1) := by decide +kernel
theorem dX10_seal_14 : decode cX10_seal 14 = .ok (.invokevirtual 188, 3) := by decide +kernel
theorem dX10_seal_17 : decode cX10_seal 17 = .ok (.ifCond .eq 10, 3) := by decide +kernel
theorem dX10_seal_20 : decode cX10_seal 20 = .ok (.aload_n 2, 1) := by decide +kernel
theorem dX10_seal_21 : decode cX10_seal 21 = .ok (.invokevirtual 195, 3) := by decide +kernel
theorem dX10_seal_24 : decode cX10_seal 24 = .ok (.ifCond .eq 5, 3) := by decide +kernel
theorem dX10_seal_27 : decode cX10_seal 27 = .ok (.iconst (-1), 1) := by decide +kernel
theorem dX10_seal_28 : decode cX10_seal 28 = .ok (.ireturn, 1) := by decide +kernel
theorem dX10_seal_29 : decode cX10_seal 29 = .ok (.aload_n 0, 1) := by decide +kernel
theorem dX10_seal_30 : decode cX10_seal 30 = .ok (.getfield 21, 3) := by decide +kernel
theorem dX10_seal_33 : decode cX10_seal 33 = .ok (.aload_n 2, 1) := by decide +kernel
theorem dX10_seal_34 : decode cX10_seal 34 = .ok (.getfield 198, 3) := by decide +kernel
theorem dX10_seal_37 : decode cX10_seal 37 = .ok (.getfield 158, 3) := by decide +kernel
theorem dX10_seal_40 : decode cX10_seal 40 = .ok (.aload_n 0, 1) := by decide +kernel
theorem dX10_seal_41 : decode cX10_seal 41 = .ok (.getfield 10, 3) := by decide +kernel
theorem dX10_seal_44 : decode cX10_seal 44 = .ok (.getfield 67, 3) := by decide +kernel
theorem dX10_seal_47 : decode cX10_seal 47 = .ok (.invokevirtual 161, 3) := by decide +kernel
theorem dX10_seal_50 : decode cX10_seal 50 = .ok (.aload_n 2, 1) := by decide +kernel
theorem dX10_seal_51 : decode cX10_seal 51 = .ok (.getfield 198, 3) := by decide +kernel
theorem dX10_seal_54 : decode cX10_seal 54 = .ok (.getfield 165, 3) := by decide +kernel
theorem dX10_seal_57 : decode cX10_seal 57 = .ok (.bipush 9, 2) := by decide +kernel
theorem dX10_seal_59 : decode cX10_seal 59 = .ok (.if_icmp .ne 5, 3) := by decide +kernel
theorem dX10_seal_62 : decode cX10_seal 62 = .ok (.iconst (-1), 1) := by decide +kernel
theorem dX10_seal_63 : decode cX10_seal 63 = .ok (.ireturn, 1) := by decide +kernel
theorem dX10_seal_64 : decode cX10_seal 64 = .ok (.aload_n 2, 1) := by decide +kernel
theorem dX10_seal_65 : decode cX10_seal 65 = .ok (.aload_n 0, 1) := by decide +kernel
theorem dX10_seal_66 : decode cX10_seal 66 = .ok (.getfield 10, 3) := by decide +kernel
theorem dX10_seal_69 : decode cX10_seal 69 = .ok (.invokevirtual 173, 3) := by decide +kernel
theorem dX10_seal_72 : decode cX10_seal 72 = .ok (.putfield 192, 3) := by decide +kernel
theorem dX10_seal_75 : decode cX10_seal 75 = .ok (.aload_n 2, 1) := by decide +kernel
theorem dX10_seal_76 : decode cX10_seal 76 = .ok (.getfield 192, 3) := by decide +kernel
theorem dX10_seal_79 : decode cX10_seal 79 = .ok (.ireturn, 1) := by decide +kernel
theorem dX10_sell_0 : decode cX10_sell 0 = .ok (.aload_n 0, 1) := by decide +kernel
theorem dX10_sell_1 : decode cX10_sell 1 = .ok (.getfield 10, 3) := by decide +kernel
theorem dX10_sell_4 : decode cX10_sell 4 = .ok (.iload_n 1, 1) := by decide +kernel
theorem dX10_sell_5 : decode cX10_sell 5 = .ok (.invokevirtual 184, 3) := by decide +kernel
theorem dX10_sell_8 : decode cX10_sell 8 = .ok (.astore_n 3, 1) := by decide +kernel
theorem dX10_sell_9 : decode cX10_sell 9 = .ok (.aload_n 3, 1) := by decide +kernel
theorem dX10_sell_10 : decode cX10_sell 10 = .ok (.ifnull 27, 3) := by decide +kernel
theorem dX10_sell_13 : decode cX10_sell 13 = .ok (.iload_n 2, 1) := by decide +kernel
theorem dX10_sell_14 : decode cX10_sell 14 = .ok (.iconst 0, 1) := by decide +kernel
theorem dX10_sell_15 : decode cX10_sell 15 = .ok (.bipush 19, 2) := by decide +kernel
theorem dX10_sell_17 : decode cX10_sell 17 = .ok (.invokestatic 43, 3) := by decide +kernel
theorem dX10_sell_20 : decode cX10_sell 20 = .ok (.ifCond .eq 17, 3) := by decide +kernel
theorem dX10_sell_23 : decode cX10_sell 23 = .ok (.aload_n 3, 1) := by decide +kernel
theorem dX10_sell_24 : decode cX10_sell 24 = .ok (.invokevirtual 188, 3) := by decide +kernel
theorem dX10_sell_27 : decode cX10_sell 27 = .ok (.ifCond .ne 10, 3) := by decide +kernel
theorem dX10_sell_30 : decode cX10_sell 30 = .ok (.aload_n 3, 1) := by decide +kernel
theorem dX10_sell_31 : decode cX10_sell 31 = .ok (.invokevirtual 195, 3) := by decide +kernel
theorem dX10_sell_34 : decode cX10_sell 34 = .ok (.ifCond .eq 5, 3) := by decide +kernel
theorem dX10_sell_37 : decode cX10_sell 37 = .ok (.iconst 0, 1) := by decide +kernel
theorem dX10_sell_38 : decode cX10_sell 38 = .ok (.ireturn, 1) := by decide +kernel
theorem dX10_sell_39 : decode cX10_sell 39 = .ok (.aload_n 3, 1) := by decide +kernel
theorem dX10_sell_40 : decode cX10_sell 40 = .ok (.iload_n 2, 1) := by decide +kernel
theorem dX10_sell_41 : decode cX10_sell 41 = .ok (.putfield 201, 3) := by decide +kernel
theorem dX10_sell_44 : decode cX10_sell 44 = .ok (.iconst 1, 1) := by decide +kernel
theorem dX10_sell_45 : decode cX10_sell 45 = .ok (.ireturn, 1) := by decide +kernel
theorem dX10_toss_0 : decode cX10_toss 0 = .ok (.aload_n 0, 1) := by decide +kernel
theorem dX10_toss_1 : decode cX10_toss 1 = .ok (.getfield 10, 3) := by decide +kernel
theorem dX10_toss_4 : decode cX10_toss 4 = .ok (.iload_n 1, 1) := by decide +kernel
theorem dX10_toss_5 : decode cX10_toss 5 = .ok (.invokevirtual 107, 3) := by decide +kernel
theorem dX10_toss_8 : decode cX10_toss 8 = .ok (.astore_n 3, 1) := by decide +kernel
theorem dX10_toss_9 : decode cX10_toss 9 = .ok (.aload_n 3, 1) := by decide +kernel
theorem dX10_toss_10 : decode cX10_toss 10 = .ok (.ifnull 11, 3) := by decide +kernel
theorem dX10_toss_13 : decode cX10_toss 13 = .ok (.aload_n 3, 1) := by decide +kernel
theorem dX10_toss_14 : decode cX10_toss 14 = .ok (.iload_n 2, 1) := by decide +kernel
theorem dX10_toss_15 : decode cX10_toss 15 = .ok (.invokevirtual 111, 3) := by decide +kernel
theorem dX10_toss_18 : decode cX10_toss 18 = .ok (.ifCond .ne 5, 3) := by decide +kernel
theorem dX10_toss_21 : decode cX10_toss 21 = .ok (.iconst 0, 1) := by decide +kernel
theorem dX10_toss_22 : decode cX10_toss 22 = .ok (.ireturn, 1) := by decide +kernel
theorem dX10_toss_23 : decode cX10_toss 23 = .ok (.aload_n 3, 1) := by decide +kernel
theorem dX10_toss_24 : decode cX10_toss 24 = .ok (.dup, 1) := by decide +kernel
theorem dX10_toss_25 : decode cX10_toss 25 = .ok (.getfield 139, 3) := by decide +kernel
theorem dX10_toss_28 : decode cX10_toss 28 = .ok (.iload_n 2, 1) := by decide +kernel
theorem dX10_toss_29 : decode cX10_toss 29 = .ok (.isub, 1) := by decide +kernel
theorem dX10_toss_30 : decode cX10_toss 30 = .ok (.putfield 139, 3) := by decide +kernel
theorem dX10_toss_33 : decode cX10_toss 33 = .ok (.aload_n 3, 1) := by decide +kernel
theorem dX10_toss_34 : decode cX10_toss 34 = .ok (.dup, 1) := by decide +kernel
theorem dX10_toss_35 : decode cX10_toss 35 = .ok (.getfield 204, 3) := by decide +kernel
theorem dX10_toss_38 : decode cX10_toss 38 = .ok (.iload_n 2, 1) := by decide +kernel
theorem dX10_toss_39 : decode cX10_toss 39 = .ok (.iadd, 1) := by decide +kernel
theorem dX10_toss_40 : decode cX10_toss 40 = .ok (.putfield 204, 3) := by decide +kernel
theorem dX10_toss_43 : decode cX10_toss 43 = .ok (.iconst 1, 1) := by decide +kernel
theorem dX10_toss_44 : decode cX10_toss 44 = .ok (.ireturn, 1) := by decide +kernel
theorem dX10_look_0 : decode cX10_look 0 = .ok (.aload_n 0, 1) := by decide +kernel
theorem dX10_look_1 : decode cX10_look 1 = .ok (.getfield 10, 3) := by decide +kernel
theorem dX10_look_4 : decode cX10_look 4 = .ok (.iload_n 1, 1) := by decide +kernel
theorem dX10_look_5 : decode cX10_look 5 = .ok (.invokevirtual 107, 3) := by decide +kernel
theorem dX10_look_8 : decode cX10_look 8 = .ok (.astore 4, 2) := by decide +kernel
theorem dX10_look_10 : decode cX10_look 10 = .ok (.aload 4, 2) := by decide +kernel
theorem dX10_look_12 : decode cX10_look 12 = .ok (.ifnull 45, 3) := by decide +kernel
theorem dX10_look_15 : decode cX10_look 15 = .ok (.aload 4, 2) := by decide +kernel
theorem dX10_look_17 : decode cX10_look 17 = .ok (.getfield 115, 3) := by decide +kernel
theorem dX10_look_20 : decode cX10_look 20 = .ok (.iconst 1, 1) := by decide +kernel
theorem dX10_look_21 : decode cX10_look 21 = .ok (.if_icmp .ne 36, 3) := by decide +kernel
theorem dX10_look_24 : decode cX10_look 24 = .ok (.iload_n 2, 1) := by decide +kernel
theorem dX10_look_25 : decode cX10_look 25 = .ok (.iconst 1, 1) := by decide +kernel
theorem dX10_look_26 : decode cX10_look 26 = .ok (.sipush 10000, 3) := by decide +kernel
theorem dX10_look_29 : decode cX10_look 29 = .ok (.invokestatic 43, 3) := by decide +kernel
theorem dX10_look_32 : decode cX10_look 32 = .ok (.ifCond .eq 25, 3) := by decide +kernel
theorem dX10_look_35 : decode cX10_look 35 = .ok (.iload_n 3, 1) := by decide +kernel
theorem dX10_look_36 : decode cX10_look 36 = .ok (.iconst 0, 1) := by decide +kernel
theorem dX10_look_37 : decode cX10_look 37 = .ok (.iload_n 2, 1) := by decide +kernel
theorem dX10_look_38 : decode cX10_look 38 = .ok (.invokestatic 43, 3) := by decide +kernel
theorem dX10_look_41 : decode cX10_look 41 = .ok (.ifCond .eq 16, 3) := by decide +kernel
theorem dX10_look_44 : decode cX10_look 44 = .ok (.aload_n 0, 1) := by decide +kernel
theorem dX10_look_45 : decode cX10_look 45 = .ok (.getfield 10, 3) := by decide +kernel
theorem dX10_look_48 : decode cX10_look 48 = .ok (.getfield 207, 3) := by decide +kernel
theorem dX10_look_51 : decode cX10_look 51 = .ok (.sipush 300, 3) := by decide +kernel
theorem dX10_look_54 : decode cX10_look 54 = .ok (.if_icmp .lt 5, 3) := by decide +kernel
theorem dX10_look_57 : decode cX10_look 57 = .ok (.iconst (-1), 1) := by decide +kernel
theorem dX10_look_58 : decode cX10_look 58 = .ok (.ireturn, 1) := by decide +kernel
theorem dX10_look_59 : decode cX10_look 59 = .ok (.aload 4, 2) := by decide +kernel
theorem dX10_look_61 : decode cX10_look 61 = .ok (.new 210, 3) := by decide +kernel
theorem dX10_look_64 : decode cX10_look 64 = .ok (.dup, 1) := by decide +kernel
theorem dX10_look_65 : decode cX10_look 65 = .ok (.aload 4, 2) := by decide +kernel
theorem dX10_look_67 : decode cX10_look 67 = .ok (.getfield 212, 3) := by decide +kernel
theorem dX10_look_70 : decode cX10_look 70 = .ok (.aload_n 0, 1) := by decide +kernel
theorem dX10_look_71 : decode cX10_look 71 = .ok (.getfield 10, 3) := by decide +kernel
theorem dX10_look_74 : decode cX10_look 74 = .ok (.getfield 67, 3) := by decide +kernel
theorem dX10_look_77 : decode cX10_look 77 = .ok (.iload_n 2, 1) := by decide +kernel
theorem dX10_look_78 : decode cX10_look 78 = .ok (.iload_n 3, 1) := by decide +kernel
theorem dX10_look_79 : decode cX10_look 79 = .ok (.invokespecial 216, 3) := by decide +kernel
theorem dX10_look_82 : decode cX10_look 82 = .ok (.putfield 212, 3) := by decide +kernel
theorem dX10_look_85 : decode cX10_look 85 = .ok (.aload_n 0, 1) := by decide +kernel
theorem dX10_look_86 : decode cX10_look 86 = .ok (.getfield 10, 3) := by decide +kernel
theorem dX10_look_89 : decode cX10_look 89 = .ok (.dup, 1) := by decide +kernel
theorem dX10_look_90 : decode cX10_look 90 = .ok (.getfield 207, 3) := by decide +kernel
theorem dX10_look_93 : decode cX10_look 93 = .ok (.iconst 1, 1) := by decide +kernel
theorem dX10_look_94 : decode cX10_look 94 = .ok (.iadd, 1) := by decide +kernel
theorem dX10_look_95 : decode cX10_look 95 = .ok (.putfield 207, 3) := by decide +kernel
theorem dX10_look_98 : decode cX10_look 98 = .ok (.aload 4, 2) := by decide +kernel
theorem dX10_look_100 : decode cX10_look 100 = .ok (.invokevirtual 219, 3) := by decide +kernel
theorem dX10_look_103 : decode cX10_look 103 = .ok (.ireturn, 1) := by decide +kernel
theorem dX10_drawn_0 : decode cX10_drawn 0 = .ok (.iload_n 1, 1) := by decide +kernel
theorem dX10_drawn_1 : decode cX10_drawn 1 = .ok (.iconst 1, 1) := by decide +kernel
theorem dX10_drawn_2 : decode cX10_drawn 2 = .ok (.sipush 500, 3) := by decide +kernel
theorem dX10_drawn_5 : decode cX10_drawn 5 = .ok (.invokestatic 43, 3) := by decide +kernel
theorem dX10_drawn_8 : decode cX10_drawn 8 = .ok (.ifCond .eq 29, 3) := by decide +kernel
theorem dX10_drawn_11 : decode cX10_drawn 11 = .ok (.iload_n 2, 1) := by decide +kernel
theorem dX10_drawn_12 : decode cX10_drawn 12 = .ok (.iconst 0, 1) := by decide +kernel
theorem dX10_drawn_13 : decode cX10_drawn 13 = .ok (.iload_n 1, 1) := by decide +kernel
theorem dX10_drawn_14 : decode cX10_drawn 14 = .ok (.bipush 40, 2) := by decide +kernel
theorem dX10_drawn_16 : decode cX10_drawn 16 = .ok (.invokestatic 222, 3) := by decide +kernel
theorem dX10_drawn_19 : decode cX10_drawn 19 = .ok (.invokestatic 43, 3) := by decide +kernel
theorem dX10_drawn_22 : decode cX10_drawn 22 = .ok (.ifCond .eq 15, 3) := by decide +kernel
theorem dX10_drawn_25 : decode cX10_drawn 25 = .ok (.iload 5, 2) := by decide +kernel
theorem dX10_drawn_27 : decode cX10_drawn 27 = .ok (.iconst 0, 1) := by decide +kernel
theorem dX10_drawn_28 : decode cX10_drawn 28 = .ok (.iload_n 2, 1) := by decide +kernel
theorem dX10_drawn_29 : decode cX10_drawn 29 = .ok (.iconst 1, 1) := by decide +kernel
theorem dX10_drawn_30 : decode cX10_drawn 30 = .ok (.isub, 1) := by decide +kernel
theorem dX10_drawn_31 : decode cX10_drawn 31 = .ok (.invokestatic 43, 3) := by decide +kernel
theorem dX10_drawn_34 : decode cX10_drawn 34 = .ok (.ifCond .ne 5, 3) := by decide +kernel
theorem dX10_drawn_37 : decode cX10_drawn 37 = .ok (.iconst (-1), 1) := by decide +kernel
theorem dX10_drawn_38 : decode cX10_drawn 38 = .ok (.ireturn, 1) := by decide +kernel
theorem dX10_drawn_39 : decode cX10_drawn 39 = .ok (.iconst 0, 1) := by decide +kernel
theorem dX10_drawn_40 : decode cX10_drawn 40 = .ok (.istore 6, 2) := by decide +kernel
theorem dX10_drawn_42 : decode cX10_drawn 42 = .ok (.iload 6, 2) := by decide +kernel
theorem dX10_drawn_44 : decode cX10_drawn 44 = .ok (.iload_n 1, 1) := by decide +kernel
theorem dX10_drawn_45 : decode cX10_drawn 45 = .ok (.if_icmp .ge 18, 3) := by decide +kernel
theorem dX10_drawn_48 : decode cX10_drawn 48 = .ok (.aload_n 0, 1) := by decide +kernel
theorem dX10_drawn_49 : decode cX10_drawn 49 = .ok (.getfield 39, 3) := by decide +kernel
theorem dX10_drawn_52 : decode cX10_drawn 52 = .ok (.iload 6, 2) := by decide +kernel
theorem dX10_drawn_54 : decode cX10_drawn 54 = .ok (.iload 6, 2) := by decide +kernel
theorem dX10_drawn_56 : decode cX10_drawn 56 = .ok (.iastore, 1) := by decide +kernel
theorem dX10_drawn_57 : decode cX10_drawn 57 = .ok (.iinc 6 1, 3) := by decide +kernel
theorem dX10_drawn_60 : decode cX10_drawn 60 = .ok (.goto (-18), 3) := by decide +kernel
theorem dX10_drawn_63 : decode cX10_drawn 63 = .ok (.lload_n 3, 1) := by decide +kernel
theorem dX10_drawn_64 : decode cX10_drawn 64 = .ok (.lstore 6, 2) := by decide +kernel
theorem dX10_drawn_66 : decode cX10_drawn 66 = .ok (.iconst 0, 1) := by decide +kernel
theorem dX10_drawn_67 : decode cX10_drawn 67 = .ok (.istore 8, 2) := by decide +kernel
theorem dX10_drawn_69 : decode cX10_drawn 69 = .ok (.iload 8, 2) := by decide +kernel
theorem dX10_drawn_71 : decode cX10_drawn 71 = .ok (.iload 5, 2) := by decide +kernel
theorem dX10_drawn_73 : decode cX10_drawn 73 = .ok (.if_icmp .gt 70, 3) := by decide +kernel
theorem dX10_drawn_76 : decode cX10_drawn 76 = .ok (.lload 6, 2) := by decide +kernel
theorem dX10_drawn_78 : decode cX10_drawn 78 = .ok (.ldc2_w 227, 3) := by decide +kernel
theorem dX10_drawn_81 : decode cX10_drawn 81 = .ok (.lmul, 1) := by decide +kernel
theorem dX10_drawn_82 : decode cX10_drawn 82 = .ok (.ldc2_w 229, 3) := by decide +kernel
theorem dX10_drawn_85 : decode cX10_drawn 85 = .ok (.ladd, 1) := by decide +kernel
theorem dX10_drawn_86 : decode cX10_drawn 86 = .ok (.lstore 6, 2) := by decide +kernel
theorem dX10_drawn_88 : decode cX10_drawn 88 = .ok (.iload 8, 2) := by decide +kernel
theorem dX10_drawn_90 : decode cX10_drawn 90 = .ok (.lload 6, 2) := by decide +kernel
theorem dX10_drawn_92 : decode cX10_drawn 92 = .ok (.bipush 33, 2) := by decide +kernel
theorem dX10_drawn_94 : decode cX10_drawn 94 = .ok (.lushr, 1) := by decide +kernel
theorem dX10_drawn_95 : decode cX10_drawn 95 = .ok (.iload_n 1, 1) := by decide +kernel
theorem dX10_drawn_96 : decode cX10_drawn 96 = .ok (.iload 8, 2) := by decide +kernel
theorem dX10_drawn_98 : decode cX10_drawn 98 = .ok (.isub, 1) := by decide +kernel
theorem dX10_drawn_99 : decode cX10_drawn 99 = .ok (.i2l, 1) := by decide +kernel
theorem dX10_drawn_100 : decode cX10_drawn 100 = .ok (.lrem, 1) := by decide +kernel
theorem dX10_drawn_101 : decode cX10_drawn 101 = .ok (.l2i, 1) := by decide +kernel
theorem dX10_drawn_102 : decode cX10_drawn 102 = .ok (.iadd, 1) := by decide +kernel
theorem dX10_drawn_103 : decode cX10_drawn 103 = .ok (.istore 9, 2) := by decide +kernel
theorem dX10_drawn_105 : decode cX10_drawn 105 = .ok (.aload_n 0, 1) := by decide +kernel
theorem dX10_drawn_106 : decode cX10_drawn 106 = .ok (.getfield 39, 3) := by decide +kernel
theorem dX10_drawn_109 : decode cX10_drawn 109 = .ok (.iload 8, 2) := by decide +kernel
theorem dX10_drawn_111 : decode cX10_drawn 111 = .ok (.iaload, 1) := by decide +kernel
theorem dX10_drawn_112 : decode cX10_drawn 112 = .ok (.istore 10, 2) := by decide +kernel
theorem dX10_drawn_114 : decode cX10_drawn 114 = .ok (.aload_n 0, 1) := by decide +kernel
theorem dX10_drawn_115 : decode cX10_drawn 115 = .ok (.getfield 39, 3) := by decide +kernel
theorem dX10_drawn_118 : decode cX10_drawn 118 = .ok (.iload 8, 2) := by decide +kernel
theorem dX10_drawn_120 : decode cX10_drawn 120 = .ok (.aload_n 0, 1) := by decide +kernel
theorem dX10_drawn_121 : decode cX10_drawn 121 = .ok (.getfield 39, 3) := by decide +kernel
theorem dX10_drawn_124 : decode cX10_drawn 124 = .ok (.iload 9, 2) := by decide +kernel
theorem dX10_drawn_126 : decode cX10_drawn 126 = .ok (.iaload, 1) := by decide +kernel
theorem dX10_drawn_127 : decode cX10_drawn 127 = .ok (.iastore, 1) := by decide +kernel
theorem dX10_drawn_128 : decode cX10_drawn 128 = .ok (.aload_n 0, 1) := by decide +kernel
theorem dX10_drawn_129 : decode cX10_drawn 129 = .ok (.getfield 39, 3) := by decide +kernel
theorem dX10_drawn_132 : decode cX10_drawn 132 = .ok (.iload 9, 2) := by decide +kernel
theorem dX10_drawn_134 : decode cX10_drawn 134 = .ok (.iload 10, 2) := by decide +kernel
theorem dX10_drawn_136 : decode cX10_drawn 136 = .ok (.iastore, 1) := by decide +kernel
theorem dX10_drawn_137 : decode cX10_drawn 137 = .ok (.iinc 8 1, 3) := by decide +kernel
theorem dX10_drawn_140 : decode cX10_drawn 140 = .ok (.goto (-71), 3) := by decide +kernel
theorem dX10_drawn_143 : decode cX10_drawn 143 = .ok (.aload_n 0, 1) := by decide +kernel
theorem dX10_drawn_144 : decode cX10_drawn 144 = .ok (.getfield 39, 3) := by decide +kernel
theorem dX10_drawn_147 : decode cX10_drawn 147 = .ok (.iload 5, 2) := by decide +kernel
theorem dX10_drawn_149 : decode cX10_drawn 149 = .ok (.iaload, 1) := by decide +kernel
theorem dX10_drawn_150 : decode cX10_drawn 150 = .ok (.ireturn, 1) := by decide +kernel
theorem dX10_prove_0 : decode cX10_prove 0 = .ok (.aload_n 0, 1) := by decide +kernel
theorem dX10_prove_1 : decode cX10_prove 1 = .ok (.getfield 10, 3) := by decide +kernel
theorem dX10_prove_4 : decode cX10_prove 4 = .ok (.iload_n 1, 1) := by decide +kernel
theorem dX10_prove_5 : decode cX10_prove 5 = .ok (.invokevirtual 107, 3) := by decide +kernel
theorem dX10_prove_8 : decode cX10_prove 8 = .ok (.astore_n 2, 1) := by decide +kernel
theorem dX10_prove_9 : decode cX10_prove 9 = .ok (.aload_n 2, 1) := by decide +kernel
theorem dX10_prove_10 : decode cX10_prove 10 = .ok (.ifnull 11, 3) := by decide +kernel
theorem dX10_prove_13 : decode cX10_prove 13 = .ok (.aload_n 2, 1) := by decide +kernel
theorem dX10_prove_14 : decode cX10_prove 14 = .ok (.getfield 231, 3) := by decide +kernel
theorem dX10_prove_17 : decode cX10_prove 17 = .ok (.iconst (-1), 1) := by decide +kernel
theorem dX10_prove_18 : decode cX10_prove 18 = .ok (.if_icmp .eq 5, 3) := by decide +kernel
theorem dX10_prove_21 : decode cX10_prove 21 = .ok (.iconst 0, 1) := by decide +kernel
theorem dX10_prove_22 : decode cX10_prove 22 = .ok (.ireturn, 1) := by decide +kernel
theorem dX10_prove_23 : decode cX10_prove 23 = .ok (.aload_n 2, 1) := by decide +kernel
theorem dX10_prove_24 : decode cX10_prove 24 = .ok (.aload_n 0, 1) := by decide +kernel
theorem dX10_prove_25 : decode cX10_prove 25 = .ok (.getfield 10, 3) := by decide +kernel
theorem dX10_prove_28 : decode cX10_prove 28 = .ok (.getfield 67, 3) := by decide +kernel
theorem dX10_prove_31 : decode cX10_prove 31 = .ok (.putfield 231, 3) := by decide +kernel
theorem dX10_prove_34 : decode cX10_prove 34 = .ok (.iconst 1, 1) := by decide +kernel
theorem dX10_prove_35 : decode cX10_prove 35 = .ok (.ireturn, 1) := by decide +kernel
theorem dX10_year_0 : decode cX10_year 0 = .ok (.aload_n 0, 1) := by decide +kernel
theorem dX10_year_1 : decode cX10_year 1 = .ok (.getfield 10, 3) := by decide +kernel
theorem dX10_year_4 : decode cX10_year 4 = .ok (.getfield 67, 3) := by decide +kernel
theorem dX10_year_7 : decode cX10_year 7 = .ok (.bipush 40, 2) := by decide +kernel
theorem dX10_year_9 : decode cX10_year 9 = .ok (.if_icmp .lt 5, 3) := by decide +kernel
theorem dX10_year_12 : decode cX10_year 12 = .ok (.iconst (-1), 1) := by decide +kernel
theorem dX10_year_13 : decode cX10_year 13 = .ok (.ireturn, 1) := by decide +kernel
theorem dX10_year_14 : decode cX10_year 14 = .ok (.aload_n 0, 1) := by decide +kernel
theorem dX10_year_15 : decode cX10_year 15 = .ok (.getfield 10, 3) := by decide +kernel
theorem dX10_year_18 : decode cX10_year 18 = .ok (.dup, 1) := by decide +kernel
theorem dX10_year_19 : decode cX10_year 19 = .ok (.getfield 67, 3) := by decide +kernel
theorem dX10_year_22 : decode cX10_year 22 = .ok (.iconst 1, 1) := by decide +kernel
theorem dX10_year_23 : decode cX10_year 23 = .ok (.iadd, 1) := by decide +kernel
theorem dX10_year_24 : decode cX10_year 24 = .ok (.putfield 67, 3) := by decide +kernel
theorem dX10_year_27 : decode cX10_year 27 = .ok (.aload_n 0, 1) := by decide +kernel
theorem dX10_year_28 : decode cX10_year 28 = .ok (.getfield 10, 3) := by decide +kernel
theorem dX10_year_31 : decode cX10_year 31 = .ok (.getfield 67, 3) := by decide +kernel
theorem dX10_year_34 : decode cX10_year 34 = .ok (.ireturn, 1) := by decide +kernel
theorem dX10_judge_0 : decode cX10_judge 0 = .ok (.aload_n 0, 1) := by decide +kernel
theorem dX10_judge_1 : decode cX10_judge 1 = .ok (.iload_n 1, 1) := by decide +kernel
theorem dX10_judge_2 : decode cX10_judge 2 = .ok (.iload_n 2, 1) := by decide +kernel
theorem dX10_judge_3 : decode cX10_judge 3 = .ok (.invokevirtual 234, 3) := by decide +kernel
theorem dX10_judge_6 : decode cX10_judge 6 = .ok (.astore_n 3, 1) := by decide +kernel
theorem dX10_judge_7 : decode cX10_judge 7 = .ok (.aload_n 3, 1) := by decide +kernel
theorem dX10_judge_8 : decode cX10_judge 8 = .ok (.ifnonnull 5, 3) := by decide +kernel
theorem dX10_judge_11 : decode cX10_judge 11 = .ok (.iconst (-1), 1) := by decide +kernel
theorem dX10_judge_12 : decode cX10_judge 12 = .ok (.ireturn, 1) := by decide +kernel
theorem dX10_judge_13 : decode cX10_judge 13 = .ok (.aload_n 0, 1) := by decide +kernel
theorem dX10_judge_14 : decode cX10_judge 14 = .ok (.getfield 21, 3) := by decide +kernel
theorem dX10_judge_17 : decode cX10_judge 17 = .ok (.aload_n 3, 1) := by decide +kernel
theorem dX10_judge_18 : decode cX10_judge 18 = .ok (.getfield 158, 3) := by decide +kernel
theorem dX10_judge_21 : decode cX10_judge 21 = .ok (.iload_n 2, 1) := by decide +kernel
theorem dX10_judge_22 : decode cX10_judge 22 = .ok (.invokevirtual 161, 3) := by decide +kernel
theorem dX10_judge_25 : decode cX10_judge 25 = .ok (.aload_n 3, 1) := by decide +kernel
theorem dX10_judge_26 : decode cX10_judge 26 = .ok (.getfield 165, 3) := by decide +kernel
theorem dX10_judge_29 : decode cX10_judge 29 = .ok (.ireturn, 1) := by decide +kernel
theorem dX10_why_0 : decode cX10_why 0 = .ok (.aload_n 0, 1) := by decide +kernel
theorem dX10_why_1 : decode cX10_why 1 = .ok (.iload_n 1, 1) := by decide +kernel
theorem dX10_why_2 : decode cX10_why 2 = .ok (.iload_n 2, 1) := by decide +kernel
theorem dX10_why_3 : decode cX10_why 3 = .ok (.invokevirtual 234, 3) := by decide +kernel
theorem dX10_why_6 : decode cX10_why 6 = .ok (.astore_n 3, 1) := by decide +kernel
theorem dX10_why_7 : decode cX10_why 7 = .ok (.aload_n 3, 1) := by decide +kernel
theorem dX10_why_8 : decode cX10_why 8 = .ok (.ifnonnull 5, 3) := by decide +kernel
theorem dX10_why_11 : decode cX10_why 11 = .ok (.iconst (-1), 1) := by decide +kernel
theorem dX10_why_12 : decode cX10_why 12 = .ok (.ireturn, 1) := by decide +kernel
theorem dX10_why_13 : decode cX10_why 13 = .ok (.aload_n 0, 1) := by decide +kernel
theorem dX10_why_14 : decode cX10_why 14 = .ok (.getfield 21, 3) := by decide +kernel
theorem dX10_why_17 : decode cX10_why 17 = .ok (.aload_n 3, 1) := by decide +kernel
theorem dX10_why_18 : decode cX10_why 18 = .ok (.getfield 158, 3) := by decide +kernel
theorem dX10_why_21 : decode cX10_why 21 = .ok (.iload_n 2, 1) := by decide +kernel
theorem dX10_why_22 : decode cX10_why 22 = .ok (.invokevirtual 161, 3) := by decide +kernel
theorem dX10_why_25 : decode cX10_why 25 = .ok (.aload_n 3, 1) := by decide +kernel
theorem dX10_why_26 : decode cX10_why 26 = .ok (.getfield 238, 3) := by decide +kernel
theorem dX10_why_29 : decode cX10_why 29 = .ok (.ireturn, 1) := by decide +kernel
theorem dX10_ways_0 : decode cX10_ways 0 = .ok (.aload_n 0, 1) := by decide +kernel
theorem dX10_ways_1 : decode cX10_ways 1 = .ok (.getfield 10, 3) := by decide +kernel
theorem dX10_ways_4 : decode cX10_ways 4 = .ok (.iload_n 1, 1) := by decide +kernel
theorem dX10_ways_5 : decode cX10_ways 5 = .ok (.invokevirtual 107, 3) := by decide +kernel
theorem dX10_ways_8 : decode cX10_ways 8 = .ok (.astore_n 3, 1) := by decide +kernel
theorem dX10_ways_9 : decode cX10_ways 9 = .ok (.aload_n 0, 1) := by decide +kernel
theorem dX10_ways_10 : decode cX10_ways 10 = .ok (.getfield 10, 3) := by decide +kernel
theorem dX10_ways_13 : decode cX10_ways 13 = .ok (.iload_n 2, 1) := by decide +kernel
theorem dX10_ways_14 : decode cX10_ways 14 = .ok (.invokevirtual 107, 3) := by decide +kernel
theorem dX10_ways_17 : decode cX10_ways 17 = .ok (.astore 4, 2) := by decide +kernel
theorem dX10_ways_19 : decode cX10_ways 19 = .ok (.aload_n 3, 1) := by decide +kernel
theorem dX10_ways_20 : decode cX10_ways 20 = .ok (.ifnull 8, 3) := by decide +kernel
theorem dX10_ways_23 : decode cX10_ways 23 = .ok (.aload 4, 2) := by decide +kernel
theorem dX10_ways_25 : decode cX10_ways 25 = .ok (.ifnonnull 5, 3) := by decide +kernel
theorem dX10_ways_28 : decode cX10_ways 28 = .ok (.iconst 0, 1) := by decide +kernel
theorem dX10_ways_29 : decode cX10_ways 29 = .ok (.ireturn, 1) := by decide +kernel
theorem dX10_ways_30 : decode cX10_ways 30 = .ok (.aload_n 0, 1) := by decide +kernel
theorem dX10_ways_31 : decode cX10_ways 31 = .ok (.getfield 28, 3) := by decide +kernel
theorem dX10_ways_34 : decode cX10_ways 34 = .ok (.aload 4, 2) := by decide +kernel
theorem dX10_ways_36 : decode cX10_ways 36 = .ok (.invokevirtual 241, 3) := by decide +kernel
theorem dX10_ways_39 : decode cX10_ways 39 = .ok (.aload_n 3, 1) := by decide +kernel
theorem dX10_ways_40 : decode cX10_ways 40 = .ok (.getfield 244, 3) := by decide +kernel
theorem dX10_ways_43 : decode cX10_ways 43 = .ok (.ireturn, 1) := by decide +kernel
theorem dX10_touched_0 : decode cX10_touched 0 = .ok (.aload_n 0, 1) := by decide +kernel
theorem dX10_touched_1 : decode cX10_touched 1 = .ok (.getfield 10, 3) := by decide +kernel
theorem dX10_touched_4 : decode cX10_touched 4 = .ok (.iload_n 1, 1) := by decide +kernel
theorem dX10_touched_5 : decode cX10_touched 5 = .ok (.invokevirtual 107, 3) := by decide +kernel
theorem dX10_touched_8 : decode cX10_touched 8 = .ok (.astore 4, 2) := by decide +kernel
theorem dX10_touched_10 : decode cX10_touched 10 = .ok (.aload 4, 2) := by decide +kernel
theorem dX10_touched_12 : decode cX10_touched 12 = .ok (.ifnull 16, 3) := by decide +kernel
theorem dX10_touched_15 : decode cX10_touched 15 = .ok (.iload_n 2, 1) := by decide +kernel
theorem dX10_touched_16 : decode cX10_touched 16 = .ok (.iconst 0, 1) := by decide +kernel
theorem dX10_touched_17 : decode cX10_touched 17 = .ok (.iconst 2, 1) := by decide +kernel
theorem dX10_touched_18 : decode cX10_touched 18 = .ok (.invokestatic 43, 3) := by decide +kernel
theorem dX10_touched_21 : decode cX10_touched 21 = .ok (.ifCond .eq 7, 3) := by decide +kernel
theorem dX10_touched_24 : decode cX10_touched 24 = .ok (.iload_n 3, 1) := by decide +kernel
theorem dX10_touched_25 : decode cX10_touched 25 = .ok (.ifCond .ge 5, 3) := by decide +kernel
theorem dX10_touched_28 : decode cX10_touched 28 = .ok (.iconst (-1), 1) := by decide +kernel
theorem dX10_touched_29 : decode cX10_touched 29 = .ok (.ireturn, 1) := by decide +kernel
theorem dX10_touched_30 : decode cX10_touched 30 = .ok (.aload_n 0, 1) := by decide +kernel
theorem dX10_touched_31 : decode cX10_touched 31 = .ok (.getfield 28, 3) := by decide +kernel
theorem dX10_touched_34 : decode cX10_touched 34 = .ok (.aload 4, 2) := by decide +kernel
theorem dX10_touched_36 : decode cX10_touched 36 = .ok (.iload_n 2, 1) := by decide +kernel
theorem dX10_touched_37 : decode cX10_touched 37 = .ok (.iload_n 3, 1) := by decide +kernel
theorem dX10_touched_38 : decode cX10_touched 38 = .ok (.invokevirtual 247, 3) := by decide +kernel
theorem dX10_touched_41 : decode cX10_touched 41 = .ok (.ireturn, 1) := by decide +kernel
theorem dX10_buyers_0 : decode cX10_buyers 0 = .ok (.aload_n 0, 1) := by decide +kernel
theorem dX10_buyers_1 : decode cX10_buyers 1 = .ok (.getfield 10, 3) := by decide +kernel
theorem dX10_buyers_4 : decode cX10_buyers 4 = .ok (.iload_n 1, 1) := by decide +kernel
theorem dX10_buyers_5 : decode cX10_buyers 5 = .ok (.invokevirtual 107, 3) := by decide +kernel
theorem dX10_buyers_8 : decode cX10_buyers 8 = .ok (.astore_n 2, 1) := by decide +kernel
theorem dX10_buyers_9 : decode cX10_buyers 9 = .ok (.aload_n 2, 1) := by decide +kernel
theorem dX10_buyers_10 : decode cX10_buyers 10 = .ok (.ifnonnull 7, 3) := by decide +kernel
theorem dX10_buyers_13 : decode cX10_buyers 13 = .ok (.iconst 0, 1) := by decide +kernel
theorem dX10_buyers_14 : decode cX10_buyers 14 = .ok (.goto 11, 3) := by decide +kernel
theorem dX10_buyers_17 : decode cX10_buyers 17 = .ok (.aload_n 0, 1) := by decide +kernel
theorem dX10_buyers_18 : decode cX10_buyers 18 = .ok (.getfield 28, 3) := by decide +kernel
theorem dX10_buyers_21 : decode cX10_buyers 21 = .ok (.aload_n 2, 1) := by decide +kernel
theorem dX10_buyers_22 : decode cX10_buyers 22 = .ok (.invokevirtual 251, 3) := by decide +kernel
theorem dX10_buyers_25 : decode cX10_buyers 25 = .ok (.ireturn, 1) := by decide +kernel
theorem dX10_want_0 : decode cX10_want 0 = .ok (.iload_n 1, 1) := by decide +kernel
theorem dX10_want_1 : decode cX10_want 1 = .ok (.iconst (-1), 1) := by decide +kernel
theorem dX10_want_2 : decode cX10_want 2 = .ok (.if_icmp .ne 12, 3) := by decide +kernel
theorem dX10_want_5 : decode cX10_want 5 = .ok (.aload_n 0, 1) := by decide +kernel
theorem dX10_want_6 : decode cX10_want 6 = .ok (.getfield 35, 3) := by decide +kernel
theorem dX10_want_9 : decode cX10_want 9 = .ok (.invokevirtual 254, 3) := by decide +kernel
theorem dX10_want_12 : decode cX10_want 12 = .ok (.iconst 0, 1) := by decide +kernel
theorem dX10_want_13 : decode cX10_want 13 = .ok (.ireturn, 1) := by decide +kernel
theorem dX10_want_14 : decode cX10_want 14 = .ok (.aload_n 0, 1) := by decide +kernel
theorem dX10_want_15 : decode cX10_want 15 = .ok (.getfield 10, 3) := by decide +kernel
theorem dX10_want_18 : decode cX10_want 18 = .ok (.iload_n 1, 1) := by decide +kernel
theorem dX10_want_19 : decode cX10_want 19 = .ok (.invokevirtual 107, 3) := by decide +kernel
theorem dX10_want_22 : decode cX10_want 22 = .ok (.astore_n 2, 1) := by decide +kernel
theorem dX10_want_23 : decode cX10_want 23 = .ok (.aload_n 2, 1) := by decide +kernel
theorem dX10_want_24 : decode cX10_want 24 = .ok (.ifnonnull 7, 3) := by decide +kernel
theorem dX10_want_27 : decode cX10_want 27 = .ok (.iconst (-1), 1) := by decide +kernel
theorem dX10_want_28 : decode cX10_want 28 = .ok (.goto 11, 3) := by decide +kernel
theorem dX10_want_31 : decode cX10_want 31 = .ok (.aload_n 0, 1) := by decide +kernel
theorem dX10_want_32 : decode cX10_want 32 = .ok (.getfield 35, 3) := by decide +kernel
theorem dX10_want_35 : decode cX10_want 35 = .ok (.aload_n 2, 1) := by decide +kernel
theorem dX10_want_36 : decode cX10_want 36 = .ok (.invokevirtual 257, 3) := by decide +kernel
theorem dX10_want_39 : decode cX10_want 39 = .ok (.ireturn, 1) := by decide +kernel
theorem dX10_plan_0 : decode cX10_plan 0 = .ok (.iload_n 1, 1) := by decide +kernel
theorem dX10_plan_1 : decode cX10_plan 1 = .ok (.iconst 0, 1) := by decide +kernel
theorem dX10_plan_2 : decode cX10_plan 2 = .ok (.aload_n 0, 1) := by decide +kernel
theorem dX10_plan_3 : decode cX10_plan 3 = .ok (.getfield 35, 3) := by decide +kernel
theorem dX10_plan_6 : decode cX10_plan 6 = .ok (.getfield 260, 3) := by decide +kernel
theorem dX10_plan_9 : decode cX10_plan 9 = .ok (.iconst 1, 1) := by decide +kernel
theorem dX10_plan_10 : decode cX10_plan 10 = .ok (.isub, 1) := by decide +kernel
theorem dX10_plan_11 : decode cX10_plan 11 = .ok (.invokestatic 43, 3) := by decide +kernel
theorem dX10_plan_14 : decode cX10_plan 14 = .ok (.ifCond .eq 14, 3) := by decide +kernel
theorem dX10_plan_17 : decode cX10_plan 17 = .ok (.aload_n 0, 1) := by decide +kernel
theorem dX10_plan_18 : decode cX10_plan 18 = .ok (.getfield 35, 3) := by decide +kernel
theorem dX10_plan_21 : decode cX10_plan 21 = .ok (.iload_n 1, 1) := by decide +kernel
theorem dX10_plan_22 : decode cX10_plan 22 = .ok (.invokevirtual 263, 3) := by decide +kernel
theorem dX10_plan_25 : decode cX10_plan 25 = .ok (.goto 4, 3) := by decide +kernel
theorem dX10_plan_28 : decode cX10_plan 28 = .ok (.iconst (-1), 1) := by decide +kernel
theorem dX10_plan_29 : decode cX10_plan 29 = .ok (.ireturn, 1) := by decide +kernel
theorem dX10_told_0 : decode cX10_told 0 = .ok (.aload_n 0, 1) := by decide +kernel
theorem dX10_told_1 : decode cX10_told 1 = .ok (.getfield 10, 3) := by decide +kernel
theorem dX10_told_4 : decode cX10_told 4 = .ok (.iload_n 1, 1) := by decide +kernel
theorem dX10_told_5 : decode cX10_told 5 = .ok (.invokevirtual 107, 3) := by decide +kernel
theorem dX10_told_8 : decode cX10_told 8 = .ok (.astore_n 3, 1) := by decide +kernel
theorem dX10_told_9 : decode cX10_told 9 = .ok (.aload_n 3, 1) := by decide +kernel
theorem dX10_told_10 : decode cX10_told 10 = .ok (.ifnonnull 7, 3) := by decide +kernel
theorem dX10_told_13 : decode cX10_told 13 = .ok (.iconst (-1), 1) := by decide +kernel
theorem dX10_told_14 : decode cX10_told 14 = .ok (.goto 8, 3) := by decide +kernel
theorem dX10_told_17 : decode cX10_told 17 = .ok (.aload_n 3, 1) := by decide +kernel
theorem dX10_told_18 : decode cX10_told 18 = .ok (.iload_n 2, 1) := by decide +kernel
theorem dX10_told_19 : decode cX10_told 19 = .ok (.invokevirtual 267, 3) := by decide +kernel
theorem dX10_told_22 : decode cX10_told 22 = .ok (.ireturn, 1) := by decide +kernel
theorem dX10_sack_0 : decode cX10_sack 0 = .ok (.aload_n 0, 1) := by decide +kernel
theorem dX10_sack_1 : decode cX10_sack 1 = .ok (.getfield 10, 3) := by decide +kernel
theorem dX10_sack_4 : decode cX10_sack 4 = .ok (.iload_n 1, 1) := by decide +kernel
theorem dX10_sack_5 : decode cX10_sack 5 = .ok (.invokevirtual 184, 3) := by decide +kernel
theorem dX10_sack_8 : decode cX10_sack 8 = .ok (.astore_n 3, 1) := by decide +kernel
theorem dX10_sack_9 : decode cX10_sack 9 = .ok (.aload_n 3, 1) := by decide +kernel
theorem dX10_sack_10 : decode cX10_sack 10 = .ok (.ifnonnull 7, 3) := by decide +kernel
theorem dX10_sack_13 : decode cX10_sack 13 = .ok (.iconst (-1), 1) := by decide +kernel
theorem dX10_sack_14 : decode cX10_sack 14 = .ok (.goto 8, 3) := by decide +kernel
theorem dX10_sack_17 : decode cX10_sack 17 = .ok (.aload_n 3, 1) := by decide +kernel
theorem dX10_sack_18 : decode cX10_sack 18 = .ok (.iload_n 2, 1) := by decide +kernel
theorem dX10_sack_19 : decode cX10_sack 19 = .ok (.invokevirtual 270, 3) := by decide +kernel
theorem dX10_sack_22 : decode cX10_sack 22 = .ok (.ireturn, 1) := by decide +kernel
theorem dX10_count_0 : decode cX10_count 0 = .ok (.iload_n 1, 1) := by decide +kernel
theorem dX10_count_1 : decode cX10_count 1 = .ok (.tableswitch 130 0 8 #[51, 59, 67, 75, 83, 91, 99, 107, 122], 51) := by decide +kernel
theorem dX10_count_52 : decode cX10_count 52 = .ok (.aload_n 0, 1) := by decide +kernel
theorem dX10_count_53 : decode cX10_count 53 = .ok (.getfield 10, 3) := by decide +kernel
theorem dX10_count_56 : decode cX10_count 56 = .ok (.getfield 67, 3) := by decide +kernel
theorem dX10_count_59 : decode cX10_count 59 = .ok (.ireturn, 1) := by decide +kernel
theorem dX10_count_60 : decode cX10_count 60 = .ok (.aload_n 0, 1) := by decide +kernel
theorem dX10_count_61 : decode cX10_count 61 = .ok (.getfield 10, 3) := by decide +kernel
theorem dX10_count_64 : decode cX10_count 64 = .ok (.getfield 47, 3) := by decide +kernel
theorem dX10_count_67 : decode cX10_count 67 = .ok (.ireturn, 1) := by decide +kernel
theorem dX10_count_68 : decode cX10_count 68 = .ok (.aload_n 0, 1) := by decide +kernel
theorem dX10_count_69 : decode cX10_count 69 = .ok (.getfield 10, 3) := by decide +kernel
theorem dX10_count_72 : decode cX10_count 72 = .ok (.getfield 91, 3) := by decide +kernel
theorem dX10_count_75 : decode cX10_count 75 = .ok (.ireturn, 1) := by decide +kernel
theorem dX10_count_76 : decode cX10_count 76 = .ok (.aload_n 0, 1) := by decide +kernel
theorem dX10_count_77 : decode cX10_count 77 = .ok (.getfield 10, 3) := by decide +kernel
theorem dX10_count_80 : decode cX10_count 80 = .ok (.getfield 155, 3) := by decide +kernel
theorem dX10_count_83 : decode cX10_count 83 = .ok (.ireturn, 1) := by decide +kernel
theorem dX10_count_84 : decode cX10_count 84 = .ok (.aload_n 0, 1) := by decide +kernel
theorem dX10_count_85 : decode cX10_count 85 = .ok (.getfield 10, 3) := by decide +kernel
theorem dX10_count_88 : decode cX10_count 88 = .ok (.getfield 271, 3) := by decide +kernel
theorem dX10_count_91 : decode cX10_count 91 = .ok (.ireturn, 1) := by decide +kernel
theorem dX10_count_92 : decode cX10_count 92 = .ok (.aload_n 0, 1) := by decide +kernel
theorem dX10_count_93 : decode cX10_count 93 = .ok (.getfield 10, 3) := by decide +kernel
theorem dX10_count_96 : decode cX10_count 96 = .ok (.getfield 274, 3) := by decide +kernel
theorem dX10_count_99 : decode cX10_count 99 = .ok (.ireturn, 1) := by decide +kernel
theorem dX10_count_100 : decode cX10_count 100 = .ok (.aload_n 0, 1) := by decide +kernel
theorem dX10_count_101 : decode cX10_count 101 = .ok (.getfield 10, 3) := by decide +kernel
theorem dX10_count_104 : decode cX10_count 104 = .ok (.getfield 207, 3) := by decide +kernel
theorem dX10_count_107 : decode cX10_count 107 = .ok (.ireturn, 1) := by decide +kernel
theorem dX10_count_108 : decode cX10_count 108 = .ok (.aload_n 0, 1) := by decide +kernel
theorem dX10_count_109 : decode cX10_count 109 = .ok (.getfield 21, 3) := by decide +kernel
theorem dX10_count_112 : decode cX10_count 112 = .ok (.aload_n 0, 1) := by decide +kernel
theorem dX10_count_113 : decode cX10_count 113 = .ok (.getfield 10, 3) := by decide +kernel
theorem dX10_count_116 : decode cX10_count 116 = .ok (.getfield 67, 3) := by decide +kernel
theorem dX10_count_119 : decode cX10_count 119 = .ok (.invokevirtual 277, 3) := by decide +kernel
theorem dX10_count_122 : decode cX10_count 122 = .ok (.ireturn, 1) := by decide +kernel
theorem dX10_count_123 : decode cX10_count 123 = .ok (.aload_n 0, 1) := by decide +kernel
theorem dX10_count_124 : decode cX10_count 124 = .ok (.getfield 35, 3) := by decide +kernel
theorem dX10_count_127 : decode cX10_count 127 = .ok (.getfield 260, 3) := by decide +kernel
theorem dX10_count_130 : decode cX10_count 130 = .ok (.ireturn, 1) := by decide +kernel
theorem dX10_count_131 : decode cX10_count 131 = .ok (.iconst (-1), 1) := by decide +kernel
theorem dX10_count_132 : decode cX10_count 132 = .ok (.ireturn, 1) := by decide +kernel
theorem dX10_within_0 : decode cX10_within 0 = .ok (.iload_n 0, 1) := by decide +kernel
theorem dX10_within_1 : decode cX10_within 1 = .ok (.iload_n 1, 1) := by decide +kernel
theorem dX10_within_2 : decode cX10_within 2 = .ok (.if_icmp .lt 12, 3) := by decide +kernel
theorem dX10_within_5 : decode cX10_within 5 = .ok (.iload_n 0, 1) := by decide +kernel
theorem dX10_within_6 : decode cX10_within 6 = .ok (.iload_n 2, 1) := by decide +kernel
theorem dX10_within_7 : decode cX10_within 7 = .ok (.if_icmp .gt 7, 3) := by decide +kernel
theorem dX10_within_10 : decode cX10_within 10 = .ok (.iconst 1, 1) := by decide +kernel
theorem dX10_within_11 : decode cX10_within 11 = .ok (.goto 4, 3) := by decide +kernel
theorem dX10_within_14 : decode cX10_within 14 = .ok (.iconst 0, 1) := by decide +kernel
theorem dX10_within_15 : decode cX10_within 15 = .ok (.ireturn, 1) := by decide +kernel
theorem dX10_lotKnownIn_0 : decode cX10_lotKnownIn 0 = .ok (.aload_n 0, 1) := by decide +kernel
theorem dX10_lotKnownIn_1 : decode cX10_lotKnownIn 1 = .ok (.getfield 10, 3) := by decide +kernel
theorem dX10_lotKnownIn_4 : decode cX10_lotKnownIn 4 = .ok (.iload_n 1, 1) := by decide +kernel
theorem dX10_lotKnownIn_5 : decode cX10_lotKnownIn 5 = .ok (.invokevirtual 107, 3) := by decide +kernel
theorem dX10_lotKnownIn_8 : decode cX10_lotKnownIn 8 = .ok (.astore_n 3, 1) := by decide +kernel
theorem dX10_lotKnownIn_9 : decode cX10_lotKnownIn 9 = .ok (.aload_n 3, 1) := by decide +kernel
theorem dX10_lotKnownIn_10 : decode cX10_lotKnownIn 10 = .ok (.ifnull 25, 3) := by decide +kernel
theorem dX10_lotKnownIn_13 : decode cX10_lotKnownIn 13 = .ok (.iload_n 2, 1) := by decide +kernel
theorem dX10_lotKnownIn_14 : decode cX10_lotKnownIn 14 = .ok (.aload_n 3, 1) := by decide +kernel
theorem dX10_lotKnownIn_15 : decode cX10_lotKnownIn 15 = .ok (.getfield 118, 3) := by decide +kernel
theorem dX10_lotKnownIn_18 : decode cX10_lotKnownIn 18 = .ok (.aload_n 0, 1) := by decide +kernel
theorem dX10_lotKnownIn_19 : decode cX10_lotKnownIn 19 = .ok (.getfield 10, 3) := by decide +kernel
theorem dX10_lotKnownIn_22 : decode cX10_lotKnownIn 22 = .ok (.getfield 67, 3) := by decide +kernel
theorem dX10_lotKnownIn_25 : decode cX10_lotKnownIn 25 = .ok (.invokestatic 43, 3) := by decide +kernel
theorem dX10_lotKnownIn_28 : decode cX10_lotKnownIn 28 = .ok (.ifCond .eq 7, 3) := by decide +kernel
theorem dX10_lotKnownIn_31 : decode cX10_lotKnownIn 31 = .ok (.aload_n 3, 1) := by decide +kernel
theorem dX10_lotKnownIn_32 : decode cX10_lotKnownIn 32 = .ok (.goto 4, 3) := by decide +kernel
theorem dX10_lotKnownIn_35 : decode cX10_lotKnownIn 35 = .ok (.aconst_null, 1) := by decide +kernel
theorem dX10_lotKnownIn_36 : decode cX10_lotKnownIn 36 = .ok (.areturn, 1) := by decide +kernel
