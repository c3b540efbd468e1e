theorem dX11_toss_0 : decode cX11_toss 0 = .ok (.aload_n 0, 1) := by decide +kernel
theorem dX11_toss_1 : decode cX11_toss 1 = .ok (.iload_n 1, 1) := by decide +kernel
theorem dX11_toss_2 : decode cX11_toss 2 = .ok (.invokevirtual 186, 3) := by decide +kernel
theorem dX11_toss_5 : decode cX11_toss 5 = .ok (.ifCond .eq 18, 3) := by decide +kernel
theorem dX11_toss_8 : decode cX11_toss 8 = .ok (.iload_n 2, 1) := by decide +kernel
theorem dX11_toss_9 : decode cX11_toss 9 = .ok (.iconst 1, 1) := by decide +kernel
theorem dX11_toss_10 : decode cX11_toss 10 = .ok (.if_icmp .lt 13, 3) := by decide +kernel
theorem dX11_toss_13 : decode cX11_toss 13 = .ok (.iload_n 2, 1) := by decide +kernel
theorem dX11_toss_14 : decode cX11_toss 14 = .ok (.aload_n 0, 1) := by decide +kernel
theorem dX11_toss_15 : decode cX11_toss 15 = .ok (.getfield 52, 3) := by decide +kernel
theorem dX11_toss_18 : decode cX11_toss 18 = .ok (.iload_n 1, 1) := by decide +kernel
theorem dX11_toss_19 : decode cX11_toss 19 = .ok (.iaload, 1) := by decide +kernel
theorem dX11_toss_20 : decode cX11_toss 20 = .ok (.if_icmp .le 5, 3) := by decide +kernel
theorem dX11_toss_23 : decode cX11_toss 23 = .ok (.iconst 0, 1) := by decide +kernel
theorem dX11_toss_24 : decode cX11_toss 24 = .ok (.ireturn, 1) := by decide +kernel
theorem dX11_toss_25 : decode cX11_toss 25 = .ok (.aload_n 0, 1) := by decide +kernel
theorem dX11_toss_26 : decode cX11_toss 26 = .ok (.getfield 52, 3) := by decide +kernel
theorem dX11_toss_29 : decode cX11_toss 29 = .ok (.iload_n 1, 1) := by decide +kernel
theorem dX11_toss_30 : decode cX11_toss 30 = .ok (.dup2, 1) := by decide +kernel
theorem dX11_toss_31 : decode cX11_toss 31 = .ok (.iaload, 1) := by decide +kernel
theorem dX11_toss_32 : decode cX11_toss 32 = .ok (.iload_n 2, 1) := by decide +kernel
theorem dX11_toss_33 : decode cX11_toss 33 = .ok (.isub, 1) := by decide +kernel
theorem dX11_toss_34 : decode cX11_toss 34 = .ok (.iastore, 1) := by decide +kernel
theorem dX11_toss_35 : decode cX11_toss 35 = .ok (.aload_n 0, 1) := by decide +kernel
theorem dX11_toss_36 : decode cX11_toss 36 = .ok (.getfield 79, 3) := by decide +kernel
theorem dX11_toss_39 : decode cX11_toss 39 = .ok (.iload_n 1, 1) := by decide +kernel
theorem dX11_toss_40 : decode cX11_toss 40 = .ok (.dup2, 1) := by decide +kernel
theorem dX11_toss_41 : decode cX11_toss 41 = .ok (.iaload, 1) := by decide +kernel
theorem dX11_toss_42 : decode cX11_toss 42 = .ok (.iload_n 2, 1) := by decide +kernel
theorem dX11_toss_43 : decode cX11_toss 43 = .ok (.iadd, 1) := by decide +kernel
theorem dX11_toss_44 : decode cX11_toss 44 = .ok (.iastore, 1) := by decide +kernel
theorem dX11_toss_45 : decode cX11_toss 45 = .ok (.iconst 1, 1) := by decide +kernel
theorem dX11_toss_46 : decode cX11_toss 46 = .ok (.ireturn, 1) := by decide +kernel
theorem dX11_looksOf_0 : decode cX11_looksOf 0 = .ok (.iconst 0, 1) := by decide +kernel
theorem dX11_looksOf_1 : decode cX11_looksOf 1 = .ok (.istore_n 3, 1) := by decide +kernel
theorem dX11_looksOf_2 : decode cX11_looksOf 2 = .ok (.iconst 0, 1) := by decide +kernel
theorem dX11_looksOf_3 : decode cX11_looksOf 3 = .ok (.istore 4, 2) := by decide +kernel
theorem dX11_looksOf_5 : decode cX11_looksOf 5 = .ok (.iload 4, 2) := by decide +kernel
theorem dX11_looksOf_7 : decode cX11_looksOf 7 = .ok (.aload_n 0, 1) := by decide +kernel
theorem dX11_looksOf_8 : decode cX11_looksOf 8 = .ok (.getfield 202, 3) := by decide +kernel
theorem dX11_looksOf_11 : decode cX11_looksOf 11 = .ok (.if_icmp .ge 39, 3) := by decide +kernel
theorem dX11_looksOf_14 : decode cX11_looksOf 14 = .ok (.iload_n 3, 1) := by decide +kernel
theorem dX11_looksOf_15 : decode cX11_looksOf 15 = .ok (.aload_n 0, 1) := by decide +kernel
theorem dX11_looksOf_16 : decode cX11_looksOf 16 = .ok (.getfield 85, 3) := by decide +kernel
theorem dX11_looksOf_19 : decode cX11_looksOf 19 = .ok (.iload 4, 2) := by decide +kernel
theorem dX11_looksOf_21 : decode cX11_looksOf 21 = .ok (.iaload, 1) := by decide +kernel
theorem dX11_looksOf_22 : decode cX11_looksOf 22 = .ok (.iload_n 1, 1) := by decide +kernel
theorem dX11_looksOf_23 : decode cX11_looksOf 23 = .ok (.if_icmp .ne 18, 3) := by decide +kernel
theorem dX11_looksOf_26 : decode cX11_looksOf 26 = .ok (.aload_n 0, 1) := by decide +kernel
theorem dX11_looksOf_27 : decode cX11_looksOf 27 = .ok (.getfield 94, 3) := by decide +kernel
theorem dX11_looksOf_30 : decode cX11_looksOf 30 = .ok (.iload 4, 2) := by decide +kernel
theorem dX11_looksOf_32 : decode cX11_looksOf 32 = .ok (.iaload, 1) := by decide +kernel
theorem dX11_looksOf_33 : decode cX11_looksOf 33 = .ok (.iload_n 2, 1) := by decide +kernel
theorem dX11_looksOf_34 : decode cX11_looksOf 34 = .ok (.if_icmp .gt 7, 3) := by decide +kernel
theorem dX11_looksOf_37 : decode cX11_looksOf 37 = .ok (.iconst 1, 1) := by decide +kernel
theorem dX11_looksOf_38 : decode cX11_looksOf 38 = .ok (.goto 4, 3) := by decide +kernel
theorem dX11_looksOf_41 : decode cX11_looksOf 41 = .ok (.iconst 0, 1) := by decide +kernel
theorem dX11_looksOf_42 : decode cX11_looksOf 42 = .ok (.iadd, 1) := by decide +kernel
theorem dX11_looksOf_43 : decode cX11_looksOf 43 = .ok (.istore_n 3, 1) := by decide +kernel
theorem dX11_looksOf_44 : decode cX11_looksOf 44 = .ok (.iinc 4 1, 3) := by decide +kernel
theorem dX11_looksOf_47 : decode cX11_looksOf 47 = .ok (.goto (-42), 3) := by decide +kernel
theorem dX11_looksOf_50 : decode cX11_looksOf 50 = .ok (.iload_n 3, 1) := by decide +kernel
theorem dX11_looksOf_51 : decode cX11_looksOf 51 = .ok (.ireturn, 1) := by decide +kernel
theorem dX11_look_0 : decode cX11_look 0 = .ok (.aload_n 0, 1) := by decide +kernel
theorem dX11_look_1 : decode cX11_look 1 = .ok (.iload_n 1, 1) := by decide +kernel
theorem dX11_look_2 : decode cX11_look 2 = .ok (.invokevirtual 186, 3) := by decide +kernel
theorem dX11_look_5 : decode cX11_look 5 = .ok (.ifCond .eq 43, 3) := by decide +kernel
theorem dX11_look_8 : decode cX11_look 8 = .ok (.aload_n 0, 1) := by decide +kernel
theorem dX11_look_9 : decode cX11_look 9 = .ok (.getfield 46, 3) := by decide +kernel
theorem dX11_look_12 : decode cX11_look 12 = .ok (.iload_n 1, 1) := by decide +kernel
theorem dX11_look_13 : decode cX11_look 13 = .ok (.iaload, 1) := by decide +kernel
theorem dX11_look_14 : decode cX11_look 14 = .ok (.iconst 1, 1) := by decide +kernel
theorem dX11_look_15 : decode cX11_look 15 = .ok (.if_icmp .ne 33, 3) := by decide +kernel
theorem dX11_look_18 : decode cX11_look 18 = .ok (.iload_n 2, 1) := by decide +kernel
theorem dX11_look_19 : decode cX11_look 19 = .ok (.iconst 1, 1) := by decide +kernel
theorem dX11_look_20 : decode cX11_look 20 = .ok (.sipush 10000, 3) := by decide +kernel
theorem dX11_look_23 : decode cX11_look 23 = .ok (.invokestatic 134, 3) := by decide +kernel
theorem dX11_look_26 : decode cX11_look 26 = .ok (.ifCond .eq 22, 3) := by decide +kernel
theorem dX11_look_29 : decode cX11_look 29 = .ok (.iload_n 3, 1) := by decide +kernel
theorem dX11_look_30 : decode cX11_look 30 = .ok (.iconst 0, 1) := by decide +kernel
theorem dX11_look_31 : decode cX11_look 31 = .ok (.iload_n 2, 1) := by decide +kernel
theorem dX11_look_32 : decode cX11_look 32 = .ok (.invokestatic 134, 3) := by decide +kernel
theorem dX11_look_35 : decode cX11_look 35 = .ok (.ifCond .eq 13, 3) := by decide +kernel
theorem dX11_look_38 : decode cX11_look 38 = .ok (.aload_n 0, 1) := by decide +kernel
theorem dX11_look_39 : decode cX11_look 39 = .ok (.getfield 202, 3) := by decide +kernel
theorem dX11_look_42 : decode cX11_look 42 = .ok (.sipush 300, 3) := by decide +kernel
theorem dX11_look_45 : decode cX11_look 45 = .ok (.if_icmp .ne 5, 3) := by decide +kernel
theorem dX11_look_48 : decode cX11_look 48 = .ok (.iconst (-1), 1) := by decide +kernel
theorem dX11_look_49 : decode cX11_look 49 = .ok (.ireturn, 1) := by decide +kernel
theorem dX11_look_50 : decode cX11_look 50 = .ok (.aload_n 0, 1) := by decide +kernel
theorem dX11_look_51 : decode cX11_look 51 = .ok (.getfield 85, 3) := by decide +kernel
theorem dX11_look_54 : decode cX11_look 54 = .ok (.aload_n 0, 1) := by decide +kernel
theorem dX11_look_55 : decode cX11_look 55 = .ok (.getfield 202, 3) := by decide +kernel
theorem dX11_look_58 : decode cX11_look 58 = .ok (.iload_n 1, 1) := by decide +kernel
theorem dX11_look_59 : decode cX11_look 59 = .ok (.iastore, 1) := by decide +kernel
theorem dX11_look_60 : decode cX11_look 60 = .ok (.aload_n 0, 1) := by decide +kernel
theorem dX11_look_61 : decode cX11_look 61 = .ok (.getfield 88, 3) := by decide +kernel
theorem dX11_look_64 : decode cX11_look 64 = .ok (.aload_n 0, 1) := by decide +kernel
theorem dX11_look_65 : decode cX11_look 65 = .ok (.getfield 202, 3) := by decide +kernel
theorem dX11_look_68 : decode cX11_look 68 = .ok (.iload_n 2, 1) := by decide +kernel
theorem dX11_look_69 : decode cX11_look 69 = .ok (.iastore, 1) := by decide +kernel
theorem dX11_look_70 : decode cX11_look 70 = .ok (.aload_n 0, 1) := by decide +kernel
theorem dX11_look_71 : decode cX11_look 71 = .ok (.getfield 91, 3) := by decide +kernel
theorem dX11_look_74 : decode cX11_look 74 = .ok (.aload_n 0, 1) := by decide +kernel
theorem dX11_look_75 : decode cX11_look 75 = .ok (.getfield 202, 3) := by decide +kernel
theorem dX11_look_78 : decode cX11_look 78 = .ok (.iload_n 3, 1) := by decide +kernel
theorem dX11_look_79 : decode cX11_look 79 = .ok (.iastore, 1) := by decide +kernel
theorem dX11_look_80 : decode cX11_look 80 = .ok (.aload_n 0, 1) := by decide +kernel
theorem dX11_look_81 : decode cX11_look 81 = .ok (.getfield 94, 3) := by decide +kernel
theorem dX11_look_84 : decode cX11_look 84 = .ok (.aload_n 0, 1) := by decide +kernel
theorem dX11_look_85 : decode cX11_look 85 = .ok (.getfield 202, 3) := by decide +kernel
theorem dX11_look_88 : decode cX11_look 88 = .ok (.aload_n 0, 1) := by decide +kernel
theorem dX11_look_89 : decode cX11_look 89 = .ok (.getfield 141, 3) := by decide +kernel
theorem dX11_look_92 : decode cX11_look 92 = .ok (.iastore, 1) := by decide +kernel
theorem dX11_look_93 : decode cX11_look 93 = .ok (.aload_n 0, 1) := by decide +kernel
theorem dX11_look_94 : decode cX11_look 94 = .ok (.dup, 1) := by decide +kernel
theorem dX11_look_95 : decode cX11_look 95 = .ok (.getfield 202, 3) := by decide +kernel
theorem dX11_look_98 : decode cX11_look 98 = .ok (.iconst 1, 1) := by decide +kernel
theorem dX11_look_99 : decode cX11_look 99 = .ok (.iadd, 1) := by decide +kernel
theorem dX11_look_100 : decode cX11_look 100 = .ok (.putfield 202, 3) := by decide +kernel
theorem dX11_look_103 : decode cX11_look 103 = .ok (.aload_n 0, 1) := by decide +kernel
theorem dX11_look_104 : decode cX11_look 104 = .ok (.iload_n 1, 1) := by decide +kernel
theorem dX11_look_105 : decode cX11_look 105 = .ok (.aload_n 0, 1) := by decide +kernel
theorem dX11_look_106 : decode cX11_look 106 = .ok (.getfield 141, 3) := by decide +kernel
theorem dX11_look_109 : decode cX11_look 109 = .ok (.invokevirtual 205, 3) := by decide +kernel
theorem dX11_look_112 : decode cX11_look 112 = .ok (.ireturn, 1) := by decide +kernel
theorem dX11_drawn_0 : decode cX11_drawn 0 = .ok (.iload_n 1, 1) := by decide +kernel
theorem dX11_drawn_1 : decode cX11_drawn 1 = .ok (.iconst 1, 1) := by decide +kernel
theorem dX11_drawn_2 : decode cX11_drawn 2 = .ok (.sipush 500, 3) := by decide +kernel
theorem dX11_drawn_5 : decode cX11_drawn 5 = .ok (.invokestatic 134, 3) := by decide +kernel
theorem dX11_drawn_8 : decode cX11_drawn 8 = .ok (.ifCond .eq 29, 3) := by decide +kernel
theorem dX11_drawn_11 : decode cX11_drawn 11 = .ok (.iload_n 2, 1) := by decide +kernel
theorem dX11_drawn_12 : decode cX11_drawn 12 = .ok (.iconst 0, 1) := by decide +kernel
theorem dX11_drawn_13 : decode cX11_drawn 13 = .ok (.iload_n 1, 1) := by decide +kernel
theorem dX11_drawn_14 : decode cX11_drawn 14 = .ok (.bipush 40, 2) := by decide +kernel
theorem dX11_drawn_16 : decode cX11_drawn 16 = .ok (.invokestatic 144, 3) := by decide +kernel
theorem dX11_drawn_19 : decode cX11_drawn 19 = .ok (.invokestatic 134, 3) := by decide +kernel
theorem dX11_drawn_22 : decode cX11_drawn 22 = .ok (.ifCond .eq 15, 3) := by decide +kernel
theorem dX11_drawn_25 : decode cX11_drawn 25 = .ok (.iload 5, 2) := by decide +kernel
theorem dX11_drawn_27 : decode cX11_drawn 27 = .ok (.iconst 0, 1) := by decide +kernel
theorem dX11_drawn_28 : decode cX11_drawn 28 = .ok (.iload_n 2, 1) := by decide +kernel
theorem dX11_drawn_29 : decode cX11_drawn 29 = .ok (.iconst 1, 1) := by decide +kernel
theorem dX11_drawn_30 : decode cX11_drawn 30 = .ok (.isub, 1) := by decide +kernel
theorem dX11_drawn_31 : decode cX11_drawn 31 = .ok (.invokestatic 134, 3) := by decide +kernel
theorem dX11_drawn_34 : decode cX11_drawn 34 = .ok (.ifCond .ne 5, 3) := by decide +kernel
theorem dX11_drawn_37 : decode cX11_drawn 37 = .ok (.iconst (-1), 1) := by decide +kernel
theorem dX11_drawn_38 : decode cX11_drawn 38 = .ok (.ireturn, 1) := by decide +kernel
theorem dX11_drawn_39 : decode cX11_drawn 39 = .ok (.iconst 0, 1) := by decide +kernel
theorem dX11_drawn_40 : decode cX11_drawn 40 = .ok (.istore 6, 2) := by decide +kernel
theorem dX11_drawn_42 : decode cX11_drawn 42 = .ok (.iload 6, 2) := by decide +kernel
theorem dX11_drawn_44 : decode cX11_drawn 44 = .ok (.iload_n 1, 1) := by decide +kernel
theorem dX11_drawn_45 : decode cX11_drawn 45 = .ok (.if_icmp .ge 18, 3) := by decide +kernel
theorem dX11_drawn_48 : decode cX11_drawn 48 = .ok (.aload_n 0, 1) := by decide +kernel
theorem dX11_drawn_49 : decode cX11_drawn 49 = .ok (.getfield 112, 3) := by decide +kernel
theorem dX11_drawn_52 : decode cX11_drawn 52 = .ok (.iload 6, 2) := by decide +kernel
theorem dX11_drawn_54 : decode cX11_drawn 54 = .ok (.iload 6, 2) := by decide +kernel
theorem dX11_drawn_56 : decode cX11_drawn 56 = .ok (.iastore, 1) := by decide +kernel
theorem dX11_drawn_57 : decode cX11_drawn 57 = .ok (.iinc 6 1, 3) := by decide +kernel
theorem dX11_drawn_60 : decode cX11_drawn 60 = .ok (.goto (-18), 3) := by decide +kernel
theorem dX11_drawn_63 : decode cX11_drawn 63 = .ok (.lload_n 3, 1) := by decide +kernel
theorem dX11_drawn_64 : decode cX11_drawn 64 = .ok (.lstore 6, 2) := by decide +kernel
theorem dX11_drawn_66 : decode cX11_drawn 66 = .ok (.iconst 0, 1) := by decide +kernel
theorem dX11_drawn_67 : decode cX11_drawn 67 = .ok (.istore 8, 2) := by decide +kernel
theorem dX11_drawn_69 : decode cX11_drawn 69 = .ok (.iload 8, 2) := by decide +kernel
theorem dX11_drawn_71 : decode cX11_drawn 71 = .ok (.iload_n 2, 1) := by decide +kernel
theorem dX11_drawn_72 : decode cX11_drawn 72 = .ok (.if_icmp .ge 70, 3) := by decide +kernel
theorem dX11_drawn_75 : decode cX11_drawn 75 = .ok (.lload 6, 2) := by decide +kernel
theorem dX11_drawn_77 : decode cX11_drawn 77 = .ok (.ldc2_w 208, 3) := by decide +kernel
theorem dX11_drawn_80 : decode cX11_drawn 80 = .ok (.lmul, 1) := by decide +kernel
theorem dX11_drawn_81 : decode cX11_drawn 81 = .ok (.ldc2_w 210, 3) := by decide +kernel
theorem dX11_drawn_84 : decode cX11_drawn 84 = .ok (.ladd, 1) := by decide +kernel
theorem dX11_drawn_85 : decode cX11_drawn 85 = .ok (.lstore 6, 2) := by decide +kernel
theorem dX11_drawn_87 : decode cX11_drawn 87 = .ok (.iload 8, 2) := by decide +kernel
theorem dX11_drawn_89 : decode cX11_drawn 89 = .ok (.lload 6, 2) := by decide +kernel
theorem dX11_drawn_91 : decode cX11_drawn 91 = .ok (.bipush 33, 2) := by decide +kernel
theorem dX11_drawn_93 : decode cX11_drawn 93 = .ok (.lushr, 1) := by decide +kernel
theorem dX11_drawn_94 : decode cX11_drawn 94 = .ok (.iload_n 1, 1) := by decide +kernel
theorem dX11_drawn_95 : decode cX11_drawn 95 = .ok (.iload 8, 2) := by decide +kernel
theorem dX11_drawn_97 : decode cX11_drawn 97 = .ok (.isub, 1) := by decide +kernel
theorem dX11_drawn_98 : decode cX11_drawn 98 = .ok (.i2l, 1) := by decide +kernel
theorem dX11_drawn_99 : decode cX11_drawn 99 = .ok (.lrem, 1) := by decide +kernel
theorem dX11_drawn_100 : decode cX11_drawn 100 = .ok (.l2i, 1) := by decide +kernel
theorem dX11_drawn_101 : decode cX11_drawn 101 = .ok (.iadd, 1) := by decide +kernel
theorem dX11_drawn_102 : decode cX11_drawn 102 = .ok (.istore 9, 2) := by decide +kernel
theorem dX11_drawn_104 : decode cX11_drawn 104 = .ok (.aload_n 0, 1) := by decide +kernel
theorem dX11_drawn_105 : decode cX11_drawn 105 = .ok (.getfield 112, 3) := by decide +kernel
theorem dX11_drawn_108 : decode cX11_drawn 108 = .ok (.iload 8, 2) := by decide +kernel
theorem dX11_drawn_110 : decode cX11_drawn 110 = .ok (.iaload, 1) := by decide +kernel
theorem dX11_drawn_111 : decode cX11_drawn 111 = .ok (.istore 10, 2) := by decide +kernel
theorem dX11_drawn_113 : decode cX11_drawn 113 = .ok (.aload_n 0, 1) := by decide +kernel
theorem dX11_drawn_114 : decode cX11_drawn 114 = .ok (.getfield 112, 3) := by decide +kernel
theorem dX11_drawn_117 : decode cX11_drawn 117 = .ok (.iload 8, 2) := by decide +kernel
theorem dX11_drawn_119 : decode cX11_drawn 119 = .ok (.aload_n 0, 1) := by decide +kernel
theorem dX11_drawn_120 : decode cX11_drawn 120 = .ok (.getfield 112, 3) := by decide +kernel
theorem dX11_drawn_123 : decode cX11_drawn 123 = .ok (.iload 9, 2) := by decide +kernel
theorem dX11_drawn_125 : decode cX11_drawn 125 = .ok (.iaload, 1) := by decide +kernel
theorem dX11_drawn_126 : decode cX11_drawn 126 = .ok (.iastore, 1) := by decide +kernel
theorem dX11_drawn_127 : decode cX11_drawn 127 = .ok (.aload_n 0, 1) := by decide +kernel
theorem dX11_drawn_128 : decode cX11_drawn 128 = .ok (.getfield 112, 3) := by decide +kernel
theorem dX11_drawn_131 : decode cX11_drawn 131 = .ok (.iload 9, 2) := by decide +kernel
theorem dX11_drawn_133 : decode cX11_drawn 133 = .ok (.iload 10, 2) := by decide +kernel
theorem dX11_drawn_135 : decode cX11_drawn 135 = .ok (.iastore, 1) := by decide +kernel
theorem dX11_drawn_136 : decode cX11_drawn 136 = .ok (.iinc 8 1, 3) := by decide +kernel
theorem dX11_drawn_139 : decode cX11_drawn 139 = .ok (.goto (-70), 3) := by decide +kernel
theorem dX11_drawn_142 : decode cX11_drawn 142 = .ok (.aload_n 0, 1) := by decide +kernel
theorem dX11_drawn_143 : decode cX11_drawn 143 = .ok (.getfield 112, 3) := by decide +kernel
theorem dX11_drawn_146 : decode cX11_drawn 146 = .ok (.iload 5, 2) := by decide +kernel
theorem dX11_drawn_148 : decode cX11_drawn 148 = .ok (.iaload, 1) := by decide +kernel
theorem dX11_drawn_149 : decode cX11_drawn 149 = .ok (.ireturn, 1) := by decide +kernel
theorem dX11_prove_0 : decode cX11_prove 0 = .ok (.aload_n 0, 1) := by decide +kernel
theorem dX11_prove_1 : decode cX11_prove 1 = .ok (.iload_n 1, 1) := by decide +kernel
theorem dX11_prove_2 : decode cX11_prove 2 = .ok (.invokevirtual 186, 3) := by decide +kernel
theorem dX11_prove_5 : decode cX11_prove 5 = .ok (.ifCond .eq 13, 3) := by decide +kernel
theorem dX11_prove_8 : decode cX11_prove 8 = .ok (.aload_n 0, 1) := by decide +kernel
theorem dX11_prove_9 : decode cX11_prove 9 = .ok (.getfield 82, 3) := by decide +kernel
theorem dX11_prove_12 : decode cX11_prove 12 = .ok (.iload_n 1, 1) := by decide +kernel
theorem dX11_prove_13 : decode cX11_prove 13 = .ok (.iaload, 1) := by decide +kernel
theorem dX11_prove_14 : decode cX11_prove 14 = .ok (.iconst (-1), 1) := by decide +kernel
theorem dX11_prove_15 : decode cX11_prove 15 = .ok (.if_icmp .eq 5, 3) := by decide +kernel
theorem dX11_prove_18 : decode cX11_prove 18 = .ok (.iconst 0, 1) := by decide +kernel
theorem dX11_prove_19 : decode cX11_prove 19 = .ok (.ireturn, 1) := by decide +kernel
theorem dX11_prove_20 : decode cX11_prove 20 = .ok (.aload_n 0, 1) := by decide +kernel
theorem dX11_prove_21 : decode cX11_prove 21 = .ok (.getfield 82, 3) := by decide +kernel
theorem dX11_prove_24 : decode cX11_prove 24 = .ok (.iload_n 1, 1) := by decide +kernel
theorem dX11_prove_25 : decode cX11_prove 25 = .ok (.aload_n 0, 1) := by decide +kernel
theorem dX11_prove_26 : decode cX11_prove 26 = .ok (.getfield 141, 3) := by decide +kernel
theorem dX11_prove_29 : decode cX11_prove 29 = .ok (.iastore, 1) := by decide +kernel
theorem dX11_prove_30 : decode cX11_prove 30 = .ok (.iconst 1, 1) := by decide +kernel
theorem dX11_prove_31 : decode cX11_prove 31 = .ok (.ireturn, 1) := by decide +kernel
theorem dX11_year_0 : decode cX11_year 0 = .ok (.aload_n 0, 1) := by decide +kernel
theorem dX11_year_1 : decode cX11_year 1 = .ok (.getfield 141, 3) := by decide +kernel
theorem dX11_year_4 : decode cX11_year 4 = .ok (.bipush 40, 2) := by decide +kernel
theorem dX11_year_6 : decode cX11_year 6 = .ok (.if_icmp .ne 5, 3) := by decide +kernel
theorem dX11_year_9 : decode cX11_year 9 = .ok (.iconst (-1), 1) := by decide +kernel
theorem dX11_year_10 : decode cX11_year 10 = .ok (.ireturn, 1) := by decide +kernel
theorem dX11_year_11 : decode cX11_year 11 = .ok (.aload_n 0, 1) := by decide +kernel
theorem dX11_year_12 : decode cX11_year 12 = .ok (.dup, 1) := by decide +kernel
theorem dX11_year_13 : decode cX11_year 13 = .ok (.getfield 141, 3) := by decide +kernel
theorem dX11_year_16 : decode cX11_year 16 = .ok (.iconst 1, 1) := by decide +kernel
theorem dX11_year_17 : decode cX11_year 17 = .ok (.iadd, 1) := by decide +kernel
theorem dX11_year_18 : decode cX11_year 18 = .ok (.putfield 141, 3) := by decide +kernel
theorem dX11_year_21 : decode cX11_year 21 = .ok (.aload_n 0, 1) := by decide +kernel
theorem dX11_year_22 : decode cX11_year 22 = .ok (.getfield 141, 3) := by decide +kernel
theorem dX11_year_25 : decode cX11_year 25 = .ok (.ireturn, 1) := by decide +kernel
theorem dX11_classOf_0 : decode cX11_classOf 0 = .ok (.iconst 0, 1) := by decide +kernel
theorem dX11_classOf_1 : decode cX11_classOf 1 = .ok (.istore_n 3, 1) := by decide +kernel
theorem dX11_classOf_2 : decode cX11_classOf 2 = .ok (.iload_n 3, 1) := by decide +kernel
theorem dX11_classOf_3 : decode cX11_classOf 3 = .ok (.aload_n 0, 1) := by decide +kernel
theorem dX11_classOf_4 : decode cX11_classOf 4 = .ok (.getfield 138, 3) := by decide +kernel
theorem dX11_classOf_7 : decode cX11_classOf 7 = .ok (.if_icmp .ge 78, 3) := by decide +kernel
theorem dX11_classOf_10 : decode cX11_classOf 10 = .ok (.aload_n 0, 1) := by decide +kernel
theorem dX11_classOf_11 : decode cX11_classOf 11 = .ok (.getfield 46, 3) := by decide +kernel
theorem dX11_classOf_14 : decode cX11_classOf 14 = .ok (.iload_n 3, 1) := by decide +kernel
theorem dX11_classOf_15 : decode cX11_classOf 15 = .ok (.iaload, 1) := by decide +kernel
theorem dX11_classOf_16 : decode cX11_classOf 16 = .ok (.ifCond .ne 63, 3) := by decide +kernel
theorem dX11_classOf_19 : decode cX11_classOf 19 = .ok (.aload_n 0, 1) := by decide +kernel
theorem dX11_classOf_20 : decode cX11_classOf 20 = .ok (.getfield 82, 3) := by decide +kernel
theorem dX11_classOf_23 : decode cX11_classOf 23 = .ok (.iload_n 3, 1) := by decide +kernel
theorem dX11_classOf_24 : decode cX11_classOf 24 = .ok (.iaload, 1) := by decide +kernel
theorem dX11_classOf_25 : decode cX11_classOf 25 = .ok (.iconst (-1), 1) := by decide +kernel
theorem dX11_classOf_26 : decode cX11_classOf 26 = .ok (.if_icmp .eq 17, 3) := by decide +kernel
theorem dX11_classOf_29 : decode cX11_classOf 29 = .ok (.aload_n 0, 1) := by decide +kernel
theorem dX11_classOf_30 : decode cX11_classOf 30 = .ok (.getfield 82, 3) := by decide +kernel
theorem dX11_classOf_33 : decode cX11_classOf 33 = .ok (.iload_n 3, 1) := by decide +kernel
theorem dX11_classOf_34 : decode cX11_classOf 34 = .ok (.iaload, 1) := by decide +kernel
theorem dX11_classOf_35 : decode cX11_classOf 35 = .ok (.iload_n 2, 1) := by decide +kernel
theorem dX11_classOf_36 : decode cX11_classOf 36 = .ok (.if_icmp .gt 7, 3) := by decide +kernel
theorem dX11_classOf_39 : decode cX11_classOf 39 = .ok (.iconst 1, 1) := by decide +kernel
theorem dX11_classOf_40 : decode cX11_classOf 40 = .ok (.goto 4, 3) := by decide +kernel
theorem dX11_classOf_43 : decode cX11_classOf 43 = .ok (.iconst 0, 1) := by decide +kernel
theorem dX11_classOf_44 : decode cX11_classOf 44 = .ok (.istore 4, 2) := by decide +kernel
theorem dX11_classOf_46 : decode cX11_classOf 46 = .ok (.aload_n 0, 1) := by decide +kernel
theorem dX11_classOf_47 : decode cX11_classOf 47 = .ok (.getfield 115, 3) := by decide +kernel
theorem dX11_classOf_50 : decode cX11_classOf 50 = .ok (.iload_n 3, 1) := by decide +kernel
theorem dX11_classOf_51 : decode cX11_classOf 51 = .ok (.iload 4, 2) := by decide +kernel
theorem dX11_classOf_53 : decode cX11_classOf 53 = .ok (.ifCond .eq 8, 3) := by decide +kernel
theorem dX11_classOf_56 : decode cX11_classOf 56 = .ok (.bipush 9, 2) := by decide +kernel
theorem dX11_classOf_58 : decode cX11_classOf 58 = .ok (.goto 4, 3) := by decide +kernel
theorem dX11_classOf_61 : decode cX11_classOf 61 = .ok (.iconst 0, 1) := by decide +kernel
theorem dX11_classOf_62 : decode cX11_classOf 62 = .ok (.iastore, 1) := by decide +kernel
theorem dX11_classOf_63 : decode cX11_classOf 63 = .ok (.aload_n 0, 1) := by decide +kernel
theorem dX11_classOf_64 : decode cX11_classOf 64 = .ok (.getfield 118, 3) := by decide +kernel
theorem dX11_classOf_67 : decode cX11_classOf 67 = .ok (.iload_n 3, 1) := by decide +kernel
theorem dX11_classOf_68 : decode cX11_classOf 68 = .ok (.iload 4, 2) := by decide +kernel
theorem dX11_classOf_70 : decode cX11_classOf 70 = .ok (.ifCond .eq 7, 3) := by decide +kernel
theorem dX11_classOf_73 : decode cX11_classOf 73 = .ok (.iconst 5, 1) := by decide +kernel
theorem dX11_classOf_74 : decode cX11_classOf 74 = .ok (.goto 4, 3) := by decide +kernel
theorem dX11_classOf_77 : decode cX11_classOf 77 = .ok (.iconst 0, 1) := by decide +kernel
theorem dX11_classOf_78 : decode cX11_classOf 78 = .ok (.iastore, 1) := by decide +kernel
theorem dX11_classOf_79 : decode cX11_classOf 79 = .ok (.iinc 3 1, 3) := by decide +kernel
theorem dX11_classOf_82 : decode cX11_classOf 82 = .ok (.goto (-80), 3) := by decide +kernel
theorem dX11_classOf_85 : decode cX11_classOf 85 = .ok (.iconst 0, 1) := by decide +kernel
theorem dX11_classOf_86 : decode cX11_classOf 86 = .ok (.istore_n 3, 1) := by decide +kernel
theorem dX11_classOf_87 : decode cX11_classOf 87 = .ok (.iload_n 3, 1) := by decide +kernel
theorem dX11_classOf_88 : decode cX11_classOf 88 = .ok (.aload_n 0, 1) := by decide +kernel
theorem dX11_classOf_89 : decode cX11_classOf 89 = .ok (.getfield 138, 3) := by decide +kernel
theorem dX11_classOf_92 : decode cX11_classOf 92 = .ok (.if_icmp .ge 34, 3) := by decide +kernel
theorem dX11_classOf_95 : decode cX11_classOf 95 = .ok (.aload_n 0, 1) := by decide +kernel
theorem dX11_classOf_96 : decode cX11_classOf 96 = .ok (.getfield 46, 3) := by decide +kernel
theorem dX11_classOf_99 : decode cX11_classOf 99 = .ok (.iload_n 3, 1) := by decide +kernel
theorem dX11_classOf_100 : decode cX11_classOf 100 = .ok (.iaload, 1) := by decide +kernel
theorem dX11_classOf_101 : decode cX11_classOf 101 = .ok (.ifCond .eq 19, 3) := by decide +kernel
theorem dX11_classOf_104 : decode cX11_classOf 104 = .ok (.aload_n 0, 1) := by decide +kernel
theorem dX11_classOf_105 : decode cX11_classOf 105 = .ok (.getfield 55, 3) := by decide +kernel
theorem dX11_classOf_108 : decode cX11_classOf 108 = .ok (.iload_n 3, 1) := by decide +kernel
theorem dX11_classOf_109 : decode cX11_classOf 109 = .ok (.iaload, 1) := by decide +kernel
theorem dX11_classOf_110 : decode cX11_classOf 110 = .ok (.iload_n 2, 1) := by decide +kernel
theorem dX11_classOf_111 : decode cX11_classOf 111 = .ok (.if_icmp .gt 9, 3) := by decide +kernel
theorem dX11_classOf_114 : decode cX11_classOf 114 = .ok (.aload_n 0, 1) := by decide +kernel
theorem dX11_classOf_115 : decode cX11_classOf 115 = .ok (.iload_n 3, 1) := by decide +kernel
theorem dX11_classOf_116 : decode cX11_classOf 116 = .ok (.iload_n 2, 1) := by decide +kernel
theorem dX11_classOf_117 : decode cX11_classOf 117 = .ok (.invokevirtual 212, 3) := by decide +kernel
theorem dX11_classOf_120 : decode cX11_classOf 120 = .ok (.iinc 3 1, 3) := by decide +kernel
theorem dX11_classOf_123 : decode cX11_classOf 123 = .ok (.goto (-36), 3) := by decide +kernel
theorem dX11_classOf_126 : decode cX11_classOf 126 = .ok (.aload_n 0, 1) := by decide +kernel
theorem dX11_classOf_127 : decode cX11_classOf 127 = .ok (.getfield 115, 3) := by decide +kernel
theorem dX11_classOf_130 : decode cX11_classOf 130 = .ok (.iload_n 1, 1) := by decide +kernel
theorem dX11_classOf_131 : decode cX11_classOf 131 = .ok (.iaload, 1) := by decide +kernel
theorem dX11_classOf_132 : decode cX11_classOf 132 = .ok (.ireturn, 1) := by decide +kernel
theorem dX11_judgeOne_0 : decode cX11_judgeOne 0 = .ok (.aload_n 0, 1) := by decide +kernel
theorem dX11_judgeOne_1 : decode cX11_judgeOne 1 = .ok (.getfield 82, 3) := by decide +kernel
theorem dX11_judgeOne_4 : decode cX11_judgeOne 4 = .ok (.iload_n 1, 1) := by decide +kernel
theorem dX11_judgeOne_5 : decode cX11_judgeOne 5 = .ok (.iaload, 1) := by decide +kernel
theorem dX11_judgeOne_6 : decode cX11_judgeOne 6 = .ok (.iconst (-1), 1) := by decide +kernel
theorem dX11_judgeOne_7 : decode cX11_judgeOne 7 = .ok (.if_icmp .eq 17, 3) := by decide +kernel
theorem dX11_judgeOne_10 : decode cX11_judgeOne 10 = .ok (.aload_n 0, 1) := by decide +kernel
theorem dX11_judgeOne_11 : decode cX11_judgeOne 11 = .ok (.getfield 82, 3) := by decide +kernel
theorem dX11_judgeOne_14 : decode cX11_judgeOne 14 = .ok (.iload_n 1, 1) := by decide +kernel
theorem dX11_judgeOne_15 : decode cX11_judgeOne 15 = .ok (.iaload, 1) := by decide +kernel
theorem dX11_judgeOne_16 : decode cX11_judgeOne 16 = .ok (.iload_n 2, 1) := by decide +kernel
theorem dX11_judgeOne_17 : decode cX11_judgeOne 17 = .ok (.if_icmp .gt 7, 3) := by decide +kernel
theorem dX11_judgeOne_20 : decode cX11_judgeOne 20 = .ok (.iconst 5, 1) := by decide +kernel
theorem dX11_judgeOne_21 : decode cX11_judgeOne 21 = .ok (.goto 4, 3) := by decide +kernel
theorem dX11_judgeOne_24 : decode cX11_judgeOne 24 = .ok (.iconst 0, 1) := by decide +kernel
theorem dX11_judgeOne_25 : decode cX11_judgeOne 25 = .ok (.istore_n 3, 1) := by decide +kernel
theorem dX11_judgeOne_26 : decode cX11_judgeOne 26 = .ok (.aload_n 0, 1) := by decide +kernel
theorem dX11_judgeOne_27 : decode cX11_judgeOne 27 = .ok (.getfield 46, 3) := by decide +kernel
theorem dX11_judgeOne_30 : decode cX11_judgeOne 30 = .ok (.iload_n 1, 1) := by decide +kernel
theorem dX11_judgeOne_31 : decode cX11_judgeOne 31 = .ok (.iaload, 1) := by decide +kernel
theorem dX11_judgeOne_32 : decode cX11_judgeOne 32 = .ok (.iconst 2, 1) := by decide +kernel
theorem dX11_judgeOne_33 : decode cX11_judgeOne 33 = .ok (.if_icmp .ne 31, 3) := by decide +kernel
theorem dX11_judgeOne_36 : decode cX11_judgeOne 36 = .ok (.aload_n 0, 1) := by decide +kernel
theorem dX11_judgeOne_37 : decode cX11_judgeOne 37 = .ok (.getfield 115, 3) := by decide +kernel
theorem dX11_judgeOne_40 : decode cX11_judgeOne 40 = .ok (.aload_n 0, 1) := by decide +kernel
theorem dX11_judgeOne_41 : decode cX11_judgeOne 41 = .ok (.getfield 61, 3) := by decide +kernel
theorem dX11_judgeOne_44 : decode cX11_judgeOne 44 = .ok (.iload_n 1, 1) := by decide +kernel
theorem dX11_judgeOne_45 : decode cX11_judgeOne 45 = .ok (.iaload, 1) := by decide +kernel
theorem dX11_judgeOne_46 : decode cX11_judgeOne 46 = .ok (.iaload, 1) := by decide +kernel
theorem dX11_judgeOne_47 : decode cX11_judgeOne 47 = .ok (.aload_n 0, 1) := by decide +kernel
theorem dX11_judgeOne_48 : decode cX11_judgeOne 48 = .ok (.getfield 115, 3) := by decide +kernel
theorem dX11_judgeOne_51 : decode cX11_judgeOne 51 = .ok (.aload_n 0, 1) := by decide +kernel
theorem dX11_judgeOne_52 : decode cX11_judgeOne 52 = .ok (.getfield 64, 3) := by decide +kernel
theorem dX11_judgeOne_55 : decode cX11_judgeOne 55 = .ok (.iload_n 1, 1) := by decide +kernel
theorem dX11_judgeOne_56 : decode cX11_judgeOne 56 = .ok (.iaload, 1) := by decide +kernel
theorem dX11_judgeOne_57 : decode cX11_judgeOne 57 = .ok (.iaload, 1) := by decide +kernel
theorem dX11_judgeOne_58 : decode cX11_judgeOne 58 = .ok (.invokestatic 150, 3) := by decide +kernel
theorem dX11_judgeOne_61 : decode cX11_judgeOne 61 = .ok (.goto 14, 3) := by decide +kernel
theorem dX11_judgeOne_64 : decode cX11_judgeOne 64 = .ok (.aload_n 0, 1) := by decide +kernel
theorem dX11_judgeOne_65 : decode cX11_judgeOne 65 = .ok (.getfield 115, 3) := by decide +kernel
theorem dX11_judgeOne_68 : decode cX11_judgeOne 68 = .ok (.aload_n 0, 1) := by decide +kernel
theorem dX11_judgeOne_69 : decode cX11_judgeOne 69 = .ok (.getfield 61, 3) := by decide +kernel
theorem dX11_judgeOne_72 : decode cX11_judgeOne 72 = .ok (.iload_n 1, 1) := by decide +kernel
theorem dX11_judgeOne_73 : decode cX11_judgeOne 73 = .ok (.iaload, 1) := by decide +kernel
theorem dX11_judgeOne_74 : decode cX11_judgeOne 74 = .ok (.iaload, 1) := by decide +kernel
theorem dX11_judgeOne_75 : decode cX11_judgeOne 75 = .ok (.istore 4, 2) := by decide +kernel
theorem dX11_judgeOne_77 : decode cX11_judgeOne 77 = .ok (.iload_n 3, 1) := by decide +kernel
theorem dX11_judgeOne_78 : decode cX11_judgeOne 78 = .ok (.ifCond .ne 13, 3) := by decide +kernel
theorem dX11_judgeOne_81 : decode cX11_judgeOne 81 = .ok (.iload 4, 2) := by decide +kernel
theorem dX11_judgeOne_83 : decode cX11_judgeOne 83 = .ok (.bipush 9, 2) := by decide +kernel
theorem dX11_judgeOne_85 : decode cX11_judgeOne 85 = .ok (.if_icmp .ne 6, 3) := by decide +kernel
theorem dX11_judgeOne_88 : decode cX11_judgeOne 88 = .ok (.bipush 7, 2) := by decide +kernel
theorem dX11_judgeOne_90 : decode cX11_judgeOne 90 = .ok (.istore_n 3, 1) := by decide +kernel
theorem dX11_judgeOne_91 : decode cX11_judgeOne 91 = .ok (.iload_n 3, 1) := by decide +kernel
theorem dX11_judgeOne_92 : decode cX11_judgeOne 92 = .ok (.ifCond .ne 20, 3) := by decide +kernel
theorem dX11_judgeOne_95 : decode cX11_judgeOne 95 = .ok (.aload_n 0, 1) := by decide +kernel
theorem dX11_judgeOne_96 : decode cX11_judgeOne 96 = .ok (.getfield 46, 3) := by decide +kernel
theorem dX11_judgeOne_99 : decode cX11_judgeOne 99 = .ok (.iload_n 1, 1) := by decide +kernel
theorem dX11_judgeOne_100 : decode cX11_judgeOne 100 = .ok (.iaload, 1) := by decide +kernel
theorem dX11_judgeOne_101 : decode cX11_judgeOne 101 = .ok (.iconst 1, 1) := by decide +kernel
theorem dX11_judgeOne_102 : decode cX11_judgeOne 102 = .ok (.if_icmp .ne 10, 3) := by decide +kernel
theorem dX11_judgeOne_105 : decode cX11_judgeOne 105 = .ok (.aload_n 0, 1) := by decide +kernel
theorem dX11_judgeOne_106 : decode cX11_judgeOne 106 = .ok (.iload_n 1, 1) := by decide +kernel
theorem dX11_judgeOne_107 : decode cX11_judgeOne 107 = .ok (.iload_n 2, 1) := by decide +kernel
theorem dX11_judgeOne_108 : decode cX11_judgeOne 108 = .ok (.invokevirtual 216, 3) := by decide +kernel
theorem dX11_judgeOne_111 : decode cX11_judgeOne 111 = .ok (.istore_n 3, 1) := by decide +kernel
theorem dX11_judgeOne_112 : decode cX11_judgeOne 112 = .ok (.aload_n 0, 1) := by decide +kernel
theorem dX11_judgeOne_113 : decode cX11_judgeOne 113 = .ok (.getfield 118, 3) := by decide +kernel
theorem dX11_judgeOne_116 : decode cX11_judgeOne 116 = .ok (.iload_n 1, 1) := by decide +kernel
theorem dX11_judgeOne_117 : decode cX11_judgeOne 117 = .ok (.iload_n 3, 1) := by decide +kernel
theorem dX11_judgeOne_118 : decode cX11_judgeOne 118 = .ok (.iastore, 1) := by decide +kernel
theorem dX11_judgeOne_119 : decode cX11_judgeOne 119 = .ok (.aload_n 0, 1) := by decide +kernel
theorem dX11_judgeOne_120 : decode cX11_judgeOne 120 = .ok (.getfield 115, 3) := by decide +kernel
theorem dX11_judgeOne_123 : decode cX11_judgeOne 123 = .ok (.iload_n 1, 1) := by decide +kernel
theorem dX11_judgeOne_124 : decode cX11_judgeOne 124 = .ok (.iload_n 3, 1) := by decide +kernel
theorem dX11_judgeOne_125 : decode cX11_judgeOne 125 = .ok (.ifCond .le 8, 3) := by decide +kernel
theorem dX11_judgeOne_128 : decode cX11_judgeOne 128 = .ok (.bipush 9, 2) := by decide +kernel
theorem dX11_judgeOne_130 : decode cX11_judgeOne 130 = .ok (.goto 22, 3) := by decide +kernel
theorem dX11_judgeOne_133 : decode cX11_judgeOne 133 = .ok (.aload_n 0, 1) := by decide +kernel
theorem dX11_judgeOne_134 : decode cX11_judgeOne 134 = .ok (.getfield 46, 3) := by decide +kernel
theorem dX11_judgeOne_137 : decode cX11_judgeOne 137 = .ok (.iload_n 1, 1) := by decide +kernel
theorem dX11_judgeOne_138 : decode cX11_judgeOne 138 = .ok (.iaload, 1) := by decide +kernel
theorem dX11_judgeOne_139 : decode cX11_judgeOne 139 = .ok (.iconst 2, 1) := by decide +kernel
theorem dX11_judgeOne_140 : decode cX11_judgeOne 140 = .ok (.if_icmp .ne 8, 3) := by decide +kernel
theorem dX11_judgeOne_143 : decode cX11_judgeOne 143 = .ok (.iload 4, 2) := by decide +kernel
theorem dX11_judgeOne_145 : decode cX11_judgeOne 145 = .ok (.goto 7, 3) := by decide +kernel
theorem dX11_judgeOne_148 : decode cX11_judgeOne 148 = .ok (.iload 4, 2) := by decide +kernel
theorem dX11_judgeOne_150 : decode cX11_judgeOne 150 = .ok (.iconst 1, 1) := by decide +kernel
theorem dX11_judgeOne_151 : decode cX11_judgeOne 151 = .ok (.iadd, 1) := by decide +kernel
theorem dX11_judgeOne_152 : decode cX11_judgeOne 152 = .ok (.iastore, 1) := by decide +kernel
theorem dX11_judgeOne_153 : decode cX11_judgeOne 153 = .ok (.return_, 1) := by decide +kernel
theorem dX11_wrongField_0 : decode cX11_wrongField 0 = .ok (.aload_n 0, 1) := by decide +kernel
theorem dX11_wrongField_1 : decode cX11_wrongField 1 = .ok (.getfield 55, 3) := by decide +kernel
theorem dX11_wrongField_4 : decode cX11_wrongField 4 = .ok (.iload_n 1, 1) := by decide +kernel
theorem dX11_wrongField_5 : decode cX11_wrongField 5 = .ok (.iaload, 1) := by decide +kernel
theorem dX11_wrongField_6 : decode cX11_wrongField 6 = .ok (.istore_n 3, 1) := by decide +kernel
theorem dX11_wrongField_7 : decode cX11_wrongField 7 = .ok (.aload_n 0, 1) := by decide +kernel
theorem dX11_wrongField_8 : decode cX11_wrongField 8 = .ok (.iconst 0, 1) := by decide +kernel
theorem dX11_wrongField_9 : decode cX11_wrongField 9 = .ok (.iload_n 3, 1) := by decide +kernel
theorem dX11_wrongField_10 : decode cX11_wrongField 10 = .ok (.iload_n 2, 1) := by decide +kernel
theorem dX11_wrongField_11 : decode cX11_wrongField 11 = .ok (.invokevirtual 180, 3) := by decide +kernel
theorem dX11_wrongField_14 : decode cX11_wrongField 14 = .ok (.istore 4, 2) := by decide +kernel
theorem dX11_wrongField_16 : decode cX11_wrongField 16 = .ok (.iconst 0, 1) := by decide +kernel
theorem dX11_wrongField_17 : decode cX11_wrongField 17 = .ok (.istore 5, 2) := by decide +kernel
theorem dX11_wrongField_19 : decode cX11_wrongField 19 = .ok (.iload 5, 2) := by decide +kernel
theorem dX11_wrongField_21 : decode cX11_wrongField 21 = .ok (.aload_n 0, 1) := by decide +kernel
theorem dX11_wrongField_22 : decode cX11_wrongField 22 = .ok (.getfield 130, 3) := by decide +kernel
theorem dX11_wrongField_25 : decode cX11_wrongField 25 = .ok (.if_icmp .ge 100, 3) := by decide +kernel
theorem dX11_wrongField_28 : decode cX11_wrongField 28 = .ok (.iload 5, 2) := by decide +kernel
theorem dX11_wrongField_30 : decode cX11_wrongField 30 = .ok (.aload_n 0, 1) := by decide +kernel
theorem dX11_wrongField_31 : decode cX11_wrongField 31 = .ok (.getfield 58, 3) := by decide +kernel
theorem dX11_wrongField_34 : decode cX11_wrongField 34 = .ok (.iload_n 1, 1) := by decide +kernel
theorem dX11_wrongField_35 : decode cX11_wrongField 35 = .ok (.iaload, 1) := by decide +kernel
theorem dX11_wrongField_36 : decode cX11_wrongField 36 = .ok (.if_icmp .eq 83, 3) := by decide +kernel
theorem dX11_wrongField_39 : decode cX11_wrongField 39 = .ok (.aload_n 0, 1) := by decide +kernel
theorem dX11_wrongField_40 : decode cX11_wrongField 40 = .ok (.iload 5, 2) := by decide +kernel
theorem dX11_wrongField_42 : decode cX11_wrongField 42 = .ok (.iload_n 3, 1) := by decide +kernel
theorem dX11_wrongField_43 : decode cX11_wrongField 43 = .ok (.iload_n 2, 1) := by decide +kernel
theorem dX11_wrongField_44 : decode cX11_wrongField 44 = .ok (.invokevirtual 169, 3) := by decide +kernel
theorem dX11_wrongField_47 : decode cX11_wrongField 47 = .ok (.aload_n 0, 1) := by decide +kernel
theorem dX11_wrongField_48 : decode cX11_wrongField 48 = .ok (.getfield 49, 3) := by decide +kernel
theorem dX11_wrongField_51 : decode cX11_wrongField 51 = .ok (.iload_n 1, 1) := by decide +kernel
theorem dX11_wrongField_52 : decode cX11_wrongField 52 = .ok (.iaload, 1) := by decide +kernel
theorem dX11_wrongField_53 : decode cX11_wrongField 53 = .ok (.if_icmp .ne 66, 3) := by decide +kernel
theorem dX11_wrongField_56 : decode cX11_wrongField 56 = .ok (.aload_n 0, 1) := by decide +kernel
theorem dX11_wrongField_57 : decode cX11_wrongField 57 = .ok (.iload 5, 2) := by decide +kernel
theorem dX11_wrongField_59 : decode cX11_wrongField 59 = .ok (.aload_n 0, 1) := by decide +kernel
theorem dX11_wrongField_60 : decode cX11_wrongField 60 = .ok (.getfield 58, 3) := by decide +kernel
theorem dX11_wrongField_63 : decode cX11_wrongField 63 = .ok (.iload_n 1, 1) := by decide +kernel
theorem dX11_wrongField_64 : decode cX11_wrongField 64 = .ok (.iaload, 1) := by decide +kernel
theorem dX11_wrongField_65 : decode cX11_wrongField 65 = .ok (.invokevirtual 157, 3) := by decide +kernel
theorem dX11_wrongField_68 : decode cX11_wrongField 68 = .ok (.iload 4, 2) := by decide +kernel
theorem dX11_wrongField_70 : decode cX11_wrongField 70 = .ok (.iload 4, 2) := by decide +kernel
theorem dX11_wrongField_72 : decode cX11_wrongField 72 = .ok (.imul, 1) := by decide +kernel
theorem dX11_wrongField_73 : decode cX11_wrongField 73 = .ok (.if_icmp .ge 46, 3) := by decide +kernel
theorem dX11_wrongField_76 : decode cX11_wrongField 76 = .ok (.aload_n 0, 1) := by decide +kernel
theorem dX11_wrongField_77 : decode cX11_wrongField 77 = .ok (.iload 5, 2) := by decide +kernel
theorem dX11_wrongField_79 : decode cX11_wrongField 79 = .ok (.iload_n 3, 1) := by decide +kernel
theorem dX11_wrongField_80 : decode cX11_wrongField 80 = .ok (.invokevirtual 166, 3) := by decide +kernel
theorem dX11_wrongField_83 : decode cX11_wrongField 83 = .ok (.istore 6, 2) := by decide +kernel
theorem dX11_wrongField_85 : decode cX11_wrongField 85 = .ok (.iload 6, 2) := by decide +kernel
theorem dX11_wrongField_87 : decode cX11_wrongField 87 = .ok (.iconst (-1), 1) := by decide +kernel
theorem dX11_wrongField_88 : decode cX11_wrongField 88 = .ok (.if_icmp .eq 29, 3) := by decide +kernel
theorem dX11_wrongField_91 : decode cX11_wrongField 91 = .ok (.aload_n 0, 1) := by decide +kernel
theorem dX11_wrongField_92 : decode cX11_wrongField 92 = .ok (.getfield 115, 3) := by decide +kernel
theorem dX11_wrongField_95 : decode cX11_wrongField 95 = .ok (.aload_n 0, 1) := by decide +kernel
theorem dX11_wrongField_96 : decode cX11_wrongField 96 = .ok (.getfield 61, 3) := by decide +kernel
theorem dX11_wrongField_99 : decode cX11_wrongField 99 = .ok (.iload 6, 2) := by decide +kernel
theorem dX11_wrongField_101 : decode cX11_wrongField 101 = .ok (.iaload, 1) := by decide +kernel
theorem dX11_wrongField_102 : decode cX11_wrongField 102 = .ok (.iaload, 1) := by decide +kernel
theorem dX11_wrongField_103 : decode cX11_wrongField 103 = .ok (.aload_n 0, 1) := by decide +kernel
theorem dX11_wrongField_104 : decode cX11_wrongField 104 = .ok (.getfield 115, 3) := by decide +kernel
theorem dX11_wrongField_107 : decode cX11_wrongField 107 = .ok (.aload_n 0, 1) := by decide +kernel
theorem dX11_wrongField_108 : decode cX11_wrongField 108 = .ok (.getfield 61, 3) := by decide +kernel
theorem dX11_wrongField_111 : decode cX11_wrongField 111 = .ok (.iload_n 1, 1) := by decide +kernel
theorem dX11_wrongField_112 : decode cX11_wrongField 112 = .ok (.iaload, 1) := by decide +kernel
theorem dX11_wrongField_113 : decode cX11_wrongField 113 = .ok (.iaload, 1) := by decide +kernel
theorem dX11_wrongField_114 : decode cX11_wrongField 114 = .ok (.if_icmp .le 5, 3) := by decide +kernel
theorem dX11_wrongField_117 : decode cX11_wrongField 117 = .ok (.iconst 1, 1) := by decide +kernel
theorem dX11_wrongField_118 : decode cX11_wrongField 118 = .ok (.ireturn, 1) := by decide +kernel
theorem dX11_wrongField_119 : decode cX11_wrongField 119 = .ok (.iinc 5 1, 3) := by decide +kernel
theorem dX11_wrongField_122 : decode cX11_wrongField 122 = .ok (.goto (-103), 3) := by decide +kernel
theorem dX11_wrongField_125 : decode cX11_wrongField 125 = .ok (.aload_n 0, 1) := by decide +kernel
theorem dX11_wrongField_126 : decode cX11_wrongField 126 = .ok (.iconst 1, 1) := by decide +kernel
theorem dX11_wrongField_127 : decode cX11_wrongField 127 = .ok (.iload_n 3, 1) := by decide +kernel
theorem dX11_wrongField_128 : decode cX11_wrongField 128 = .ok (.iload_n 2, 1) := by decide +kernel
theorem dX11_wrongField_129 : decode cX11_wrongField 129 = .ok (.invokevirtual 180, 3) := by decide +kernel
theorem dX11_wrongField_132 : decode cX11_wrongField 132 = .ok (.istore 5, 2) := by decide +kernel
theorem dX11_wrongField_134 : decode cX11_wrongField 134 = .ok (.iconst 1, 1) := by decide +kernel
theorem dX11_wrongField_135 : decode cX11_wrongField 135 = .ok (.istore 6, 2) := by decide +kernel
theorem dX11_wrongField_137 : decode cX11_wrongField 137 = .ok (.iload 6, 2) := by decide +kernel
theorem dX11_wrongField_139 : decode cX11_wrongField 139 = .ok (.iload 5, 2) := by decide +kernel
theorem dX11_wrongField_141 : decode cX11_wrongField 141 = .ok (.if_icmp .gt 41, 3) := by decide +kernel
theorem dX11_wrongField_144 : decode cX11_wrongField 144 = .ok (.iload 6, 2) := by decide +kernel
theorem dX11_wrongField_146 : decode cX11_wrongField 146 = .ok (.iload_n 3, 1) := by decide +kernel
theorem dX11_wrongField_147 : decode cX11_wrongField 147 = .ok (.if_icmp .gt 35, 3) := by decide +kernel
theorem dX11_wrongField_150 : decode cX11_wrongField 150 = .ok (.aload_n 0, 1) := by decide +kernel
theorem dX11_wrongField_151 : decode cX11_wrongField 151 = .ok (.aload_n 0, 1) := by decide +kernel
theorem dX11_wrongField_152 : decode cX11_wrongField 152 = .ok (.getfield 58, 3) := by decide +kernel
theorem dX11_wrongField_155 : decode cX11_wrongField 155 = .ok (.iload_n 1, 1) := by decide +kernel
theorem dX11_wrongField_156 : decode cX11_wrongField 156 = .ok (.iaload, 1) := by decide +kernel
theorem dX11_wrongField_157 : decode cX11_wrongField 157 = .ok (.iload_n 3, 1) := by decide +kernel
theorem dX11_wrongField_158 : decode cX11_wrongField 158 = .ok (.iload 6, 2) := by decide +kernel
theorem dX11_wrongField_160 : decode cX11_wrongField 160 = .ok (.isub, 1) := by decide +kernel
theorem dX11_wrongField_161 : decode cX11_wrongField 161 = .ok (.iload_n 2, 1) := by decide +kernel
theorem dX11_wrongField_162 : decode cX11_wrongField 162 = .ok (.invokevirtual 169, 3) := by decide +kernel
theorem dX11_wrongField_165 : decode cX11_wrongField 165 = .ok (.aload_n 0, 1) := by decide +kernel
theorem dX11_wrongField_166 : decode cX11_wrongField 166 = .ok (.getfield 49, 3) := by decide +kernel
theorem dX11_wrongField_169 : decode cX11_wrongField 169 = .ok (.iload_n 1, 1) := by decide +kernel
theorem dX11_wrongField_170 : decode cX11_wrongField 170 = .ok (.iaload, 1) := by decide +kernel
theorem dX11_wrongField_171 : decode cX11_wrongField 171 = .ok (.if_icmp .ne 5, 3) := by decide +kernel
theorem dX11_wrongField_174 : decode cX11_wrongField 174 = .ok (.iconst 2, 1) := by decide +kernel
theorem dX11_wrongField_175 : decode cX11_wrongField 175 = .ok (.ireturn, 1) := by decide +kernel
theorem dX11_wrongField_176 : decode cX11_wrongField 176 = .ok (.iinc 6 1, 3) := by decide +kernel
theorem dX11_wrongField_179 : decode cX11_wrongField 179 = .ok (.goto (-42), 3) := by decide +kernel
theorem dX11_wrongField_182 : decode cX11_wrongField 182 = .ok (.aload_n 0, 1) := by decide +kernel
theorem dX11_wrongField_183 : decode cX11_wrongField 183 = .ok (.iload_n 1, 1) := by decide +kernel
theorem dX11_wrongField_184 : decode cX11_wrongField 184 = .ok (.iload_n 2, 1) := by decide +kernel
theorem dX11_wrongField_185 : decode cX11_wrongField 185 = .ok (.invokevirtual 205, 3) := by decide +kernel
theorem dX11_wrongField_188 : decode cX11_wrongField 188 = .ok (.aload_n 0, 1) := by decide +kernel
theorem dX11_wrongField_189 : decode cX11_wrongField 189 = .ok (.iconst 2, 1) := by decide +kernel
theorem dX11_wrongField_190 : decode cX11_wrongField 190 = .ok (.iload_n 3, 1) := by decide +kernel
theorem dX11_wrongField_191 : decode cX11_wrongField 191 = .ok (.iload_n 2, 1) := by decide +kernel
theorem dX11_wrongField_192 : decode cX11_wrongField 192 = .ok (.invokevirtual 180, 3) := by decide +kernel
theorem dX11_wrongField_195 : decode cX11_wrongField 195 = .ok (.if_icmp .ge 5, 3) := by decide +kernel
theorem dX11_wrongField_198 : decode cX11_wrongField 198 = .ok (.iconst 3, 1) := by decide +kernel
theorem dX11_wrongField_199 : decode cX11_wrongField 199 = .ok (.ireturn, 1) := by decide +kernel
theorem dX11_wrongField_200 : decode cX11_wrongField 200 = .ok (.lconst 0, 1) := by decide +kernel
theorem dX11_wrongField_201 : decode cX11_wrongField 201 = .ok (.lstore 6, 2) := by decide +kernel
theorem dX11_wrongField_203 : decode cX11_wrongField 203 = .ok (.lconst 0, 1) := by decide +kernel
theorem dX11_wrongField_204 : decode cX11_wrongField 204 = .ok (.lstore 8, 2) := by decide +kernel
theorem dX11_wrongField_206 : decode cX11_wrongField 206 = .ok (.iconst 0, 1) := by decide +kernel
theorem dX11_wrongField_207 : decode cX11_wrongField 207 = .ok (.istore 10, 2) := by decide +kernel
theorem dX11_wrongField_209 : decode cX11_wrongField 209 = .ok (.iload 10, 2) := by decide +kernel
theorem dX11_wrongField_211 : decode cX11_wrongField 211 = .ok (.aload_n 0, 1) := by decide +kernel
theorem dX11_wrongField_212 : decode cX11_wrongField 212 = .ok (.getfield 202, 3) := by decide +kernel
theorem dX11_wrongField_215 : decode cX11_wrongField 215 = .ok (.if_icmp .ge 57, 3) := by decide +kernel
theorem dX11_wrongField_218 : decode cX11_wrongField 218 = .ok (.aload_n 0, 1) := by decide +kernel
theorem dX11_wrongField_219 : decode cX11_wrongField 219 = .ok (.getfield 85, 3) := by decide +kernel
theorem dX11_wrongField_222 : decode cX11_wrongField 222 = .ok (.iload 10, 2) := by decide +kernel
theorem dX11_wrongField_224 : decode cX11_wrongField 224 = .ok (.iaload, 1) := by decide +kernel
theorem dX11_wrongField_225 : decode cX11_wrongField 225 = .ok (.iload_n 1, 1) := by decide +kernel
theorem dX11_wrongField_226 : decode cX11_wrongField 226 = .ok (.if_icmp .ne 40, 3) := by decide +kernel
theorem dX11_wrongField_229 : decode cX11_wrongField 229 = .ok (.aload_n 0, 1) := by decide +kernel
theorem dX11_wrongField_230 : decode cX11_wrongField 230 = .ok (.getfield 94, 3) := by decide +kernel
theorem dX11_wrongField_233 : decode cX11_wrongField 233 = .ok (.iload 10, 2) := by decide +kernel
theorem dX11_wrongField_235 : decode cX11_wrongField 235 = .ok (.iaload, 1) := by decide +kernel
theorem dX11_wrongField_236 : decode cX11_wrongField 236 = .ok (.iload_n 2, 1) := by decide +kernel
theorem dX11_wrongField_237 : decode cX11_wrongField 237 = .ok (.if_icmp .gt 29, 3) := by decide +kernel
theorem dX11_wrongField_240 : decode cX11_wrongField 240 = .ok (.lload 6, 2) := by decide +kernel
theorem dX11_wrongField_242 : decode cX11_wrongField 242 = .ok (.aload_n 0, 1) := by decide +kernel
theorem dX11_wrongField_243 : decode cX11_wrongField 243 = .ok (.getfield 88, 3) := by decide +kernel
theorem dX11_wrongField_246 : decode cX11_wrongField 246 = .ok (.iload 10, 2) := by decide +kernel
theorem dX11_wrongField_248 : decode cX11_wrongField 248 = .ok (.iaload, 1) := by decide +kernel
theorem dX11_wrongField_249 : decode cX11_wrongField 249 = .ok (.i2l, 1) := by decide +kernel
theorem dX11_wrongField_250 : decode cX11_wrongField 250 = .ok (.ladd, 1) := by decide +kernel
theorem dX11_wrongField_251 : decode cX11_wrongField 251 = .ok (.lstore 6, 2) := by decide +kernel
theorem dX11_wrongField_253 : decode cX11_wrongField 253 = .ok (.lload 8, 2) := by decide +kernel
theorem dX11_wrongField_255 : decode cX11_wrongField 255 = .ok (.aload_n 0, 1) := by decide +kernel
theorem dX11_wrongField_256 : decode cX11_wrongField 256 = .ok (.getfield 91, 3) := by decide +kernel
theorem dX11_wrongField_259 : decode cX11_wrongField 259 = .ok (.iload 10, 2) := by decide +kernel
theorem dX11_wrongField_261 : decode cX11_wrongField 261 = .ok (.iaload, 1) := by decide +kernel
theorem dX11_wrongField_262 : decode cX11_wrongField 262 = .ok (.i2l, 1) := by decide +kernel
theorem dX11_wrongField_263 : decode cX11_wrongField 263 = .ok (.ladd, 1) := by decide +kernel
theorem dX11_wrongField_264 : decode cX11_wrongField 264 = .ok (.lstore 8, 2) := by decide +kernel
theorem dX11_wrongField_266 : decode cX11_wrongField 266 = .ok (.iinc 10 1, 3) := by decide +kernel
theorem dX11_wrongField_269 : decode cX11_wrongField 269 = .ok (.goto (-60), 3) := by decide +kernel
theorem dX11_wrongField_272 : decode cX11_wrongField 272 = .ok (.ldc2_w 219, 3) := by decide +kernel
theorem dX11_wrongField_275 : decode cX11_wrongField 275 = .ok (.lload 8, 2) := by decide +kernel
theorem dX11_wrongField_277 : decode cX11_wrongField 277 = .ok (.lmul, 1) := by decide +kernel
theorem dX11_wrongField_278 : decode cX11_wrongField 278 = .ok (.aload_n 0, 1) := by decide +kernel
theorem dX11_wrongField_279 : decode cX11_wrongField 279 = .ok (.iconst 3, 1) := by decide +kernel
theorem dX11_wrongField_280 : decode cX11_wrongField 280 = .ok (.iload_n 3, 1) := by decide +kernel
theorem dX11_wrongField_281 : decode cX11_wrongField 281 = .ok (.iload_n 2, 1) := by decide +kernel
theorem dX11_wrongField_282 : decode cX11_wrongField 282 = .ok (.invokevirtual 180, 3) := by decide +kernel
theorem dX11_wrongField_285 : decode cX11_wrongField 285 = .ok (.i2l, 1) := by decide +kernel
theorem dX11_wrongField_286 : decode cX11_wrongField 286 = .ok (.lload 6, 2) := by decide +kernel
theorem dX11_wrongField_288 : decode cX11_wrongField 288 = .ok (.lmul, 1) := by decide +kernel
theorem dX11_wrongField_289 : decode cX11_wrongField 289 = .ok (.lcmp, 1) := by decide +kernel
theorem dX11_wrongField_290 : decode cX11_wrongField 290 = .ok (.ifCond .le 5, 3) := by decide +kernel
theorem dX11_wrongField_293 : decode cX11_wrongField 293 = .ok (.iconst 4, 1) := by decide +kernel
theorem dX11_wrongField_294 : decode cX11_wrongField 294 = .ok (.ireturn, 1) := by decide +kernel
theorem dX11_wrongField_295 : decode cX11_wrongField 295 = .ok (.aload_n 0, 1) := by decide +kernel
theorem dX11_wrongField_296 : decode cX11_wrongField 296 = .ok (.getfield 115, 3) := by decide +kernel
theorem dX11_wrongField_299 : decode cX11_wrongField 299 = .ok (.aload_n 0, 1) := by decide +kernel
theorem dX11_wrongField_300 : decode cX11_wrongField 300 = .ok (.getfield 61, 3) := by decide +kernel
theorem dX11_wrongField_303 : decode cX11_wrongField 303 = .ok (.iload_n 1, 1) := by decide +kernel
theorem dX11_wrongField_304 : decode cX11_wrongField 304 = .ok (.iaload, 1) := by decide +kernel
theorem dX11_wrongField_305 : decode cX11_wrongField 305 = .ok (.iaload, 1) := by decide +kernel
theorem dX11_wrongField_306 : decode cX11_wrongField 306 = .ok (.iconst 1, 1) := by decide +kernel
theorem dX11_wrongField_307 : decode cX11_wrongField 307 = .ok (.iadd, 1) := by decide +kernel
theorem dX11_wrongField_308 : decode cX11_wrongField 308 = .ok (.aload_n 0, 1) := by decide +kernel
theorem dX11_wrongField_309 : decode cX11_wrongField 309 = .ok (.iconst 4, 1) := by decide +kernel
theorem dX11_wrongField_310 : decode cX11_wrongField 310 = .ok (.iload_n 3, 1) := by decide +kernel
theorem dX11_wrongField_311 : decode cX11_wrongField 311 = .ok (.iload_n 2, 1) := by decide +kernel
theorem dX11_wrongField_312 : decode cX11_wrongField 312 = .ok (.invokevirtual 180, 3) := by decide +kernel
theorem dX11_wrongField_315 : decode cX11_wrongField 315 = .ok (.if_icmp .le 8, 3) := by decide +kernel
theorem dX11_wrongField_318 : decode cX11_wrongField 318 = .ok (.bipush 6, 2) := by decide +kernel
theorem dX11_wrongField_320 : decode cX11_wrongField 320 = .ok (.goto 4, 3) := by decide +kernel
theorem dX11_wrongField_323 : decode cX11_wrongField 323 = .ok (.iconst 0, 1) := by decide +kernel
theorem dX11_wrongField_324 : decode cX11_wrongField 324 = .ok (.ireturn, 1) := by decide +kernel
theorem dX11_isJudged_0 : decode cX11_isJudged 0 = .ok (.aload_n 0, 1) := by decide +kernel
theorem dX11_isJudged_1 : decode cX11_isJudged 1 = .ok (.iload_n 1, 1) := by decide +kernel
theorem dX11_isJudged_2 : decode cX11_isJudged 2 = .ok (.invokevirtual 186, 3) := by decide +kernel
theorem dX11_isJudged_5 : decode cX11_isJudged 5 = .ok (.ifCond .eq 24, 3) := by decide +kernel
theorem dX11_isJudged_8 : decode cX11_isJudged 8 = .ok (.iload_n 2, 1) := by decide +kernel
theorem dX11_isJudged_9 : decode cX11_isJudged 9 = .ok (.aload_n 0, 1) := by decide +kernel
theorem dX11_isJudged_10 : decode cX11_isJudged 10 = .ok (.getfield 55, 3) := by decide +kernel
theorem dX11_isJudged_13 : decode cX11_isJudged 13 = .ok (.iload_n 1, 1) := by decide +kernel
theorem dX11_isJudged_14 : decode cX11_isJudged 14 = .ok (.iaload, 1) := by decide +kernel
theorem dX11_isJudged_15 : decode cX11_isJudged 15 = .ok (.aload_n 0, 1) := by decide +kernel
theorem dX11_isJudged_16 : decode cX11_isJudged 16 = .ok (.getfield 141, 3) := by decide +kernel
theorem dX11_isJudged_19 : decode cX11_isJudged 19 = .ok (.invokestatic 134, 3) := by decide +kernel
theorem dX11_isJudged_22 : decode cX11_isJudged 22 = .ok (.ifCond .eq 7, 3) := by decide +kernel
theorem dX11_isJudged_25 : decode cX11_isJudged 25 = .ok (.iconst 1, 1) := by decide +kernel
theorem dX11_isJudged_26 : decode cX11_isJudged 26 = .ok (.goto 4, 3) := by decide +kernel
theorem dX11_isJudged_29 : decode cX11_isJudged 29 = .ok (.iconst 0, 1) := by decide +kernel
theorem dX11_isJudged_30 : decode cX11_isJudged 30 = .ok (.ireturn, 1) := by decide +kernel
theorem dX11_judge_0 : decode cX11_judge 0 = .ok (.aload_n 0, 1) := by decide +kernel
theorem dX11_judge_1 : decode cX11_judge 1 = .ok (.iload_n 1, 1) := by decide +kernel
theorem dX11_judge_2 : decode cX11_judge 2 = .ok (.iload_n 2, 1) := by decide +kernel
theorem dX11_judge_3 : decode cX11_judge 3 = .ok (.invokevirtual 221, 3) := by decide +kernel
theorem dX11_judge_6 : decode cX11_judge 6 = .ok (.ifCond .eq 12, 3) := by decide +kernel
theorem dX11_judge_9 : decode cX11_judge 9 = .ok (.aload_n 0, 1) := by decide +kernel
theorem dX11_judge_10 : decode cX11_judge 10 = .ok (.iload_n 1, 1) := by decide +kernel
theorem dX11_judge_11 : decode cX11_judge 11 = .ok (.iload_n 2, 1) := by decide +kernel
theorem dX11_judge_12 : decode cX11_judge 12 = .ok (.invokevirtual 193, 3) := by decide +kernel
theorem dX11_judge_15 : decode cX11_judge 15 = .ok (.goto 4, 3) := by decide +kernel
theorem dX11_judge_18 : decode cX11_judge 18 = .ok (.iconst (-1), 1) := by decide +kernel
theorem dX11_judge_19 : decode cX11_judge 19 = .ok (.ireturn, 1) := by decide +kernel
theorem dX11_why_0 : decode cX11_why 0 = .ok (.aload_n 0, 1) := by decide +kernel
theorem dX11_why_1 : decode cX11_why 1 = .ok (.iload_n 1, 1) := by decide +kernel
theorem dX11_why_2 : decode cX11_why 2 = .ok (.iload_n 2, 1) := by decide +kernel
theorem dX11_why_3 : decode cX11_why 3 = .ok (.invokevirtual 221, 3) := by decide +kernel
theorem dX11_why_6 : decode cX11_why 6 = .ok (.ifCond .ne 5, 3) := by decide +kernel
theorem dX11_why_9 : decode cX11_why 9 = .ok (.iconst (-1), 1) := by decide +kernel
theorem dX11_why_10 : decode cX11_why 10 = .ok (.ireturn, 1) := by decide +kernel
theorem dX11_why_11 : decode cX11_why 11 = .ok (.aload_n 0, 1) := by decide +kernel
theorem dX11_why_12 : decode cX11_why 12 = .ok (.iload_n 1, 1) := by decide +kernel
theorem dX11_why_13 : decode cX11_why 13 = .ok (.iload_n 2, 1) := by decide +kernel
theorem dX11_why_14 : decode cX11_why 14 = .ok (.invokevirtual 193, 3) := by decide +kernel
theorem dX11_why_17 : decode cX11_why 17 = .ok (.pop, 1) := by decide +kernel
theorem dX11_why_18 : decode cX11_why 18 = .ok (.aload_n 0, 1) := by decide +kernel
theorem dX11_why_19 : decode cX11_why 19 = .ok (.getfield 118, 3) := by decide +kernel
theorem dX11_why_22 : decode cX11_why 22 = .ok (.iload_n 1, 1) := by decide +kernel
theorem dX11_why_23 : decode cX11_why 23 = .ok (.iaload, 1) := by decide +kernel
theorem dX11_why_24 : decode cX11_why 24 = .ok (.ireturn, 1) := by decide +kernel
theorem dX11_rowsTo_0 : decode cX11_rowsTo 0 = .ok (.iconst 0, 1) := by decide +kernel
theorem dX11_rowsTo_1 : decode cX11_rowsTo 1 = .ok (.istore_n 2, 1) := by decide +kernel
theorem dX11_rowsTo_2 : decode cX11_rowsTo 2 = .ok (.iload_n 2, 1) := by decide +kernel
theorem dX11_rowsTo_3 : decode cX11_rowsTo 3 = .ok (.aload_n 0, 1) := by decide +kernel
theorem dX11_rowsTo_4 : decode cX11_rowsTo 4 = .ok (.getfield 138, 3) := by decide +kernel
theorem dX11_rowsTo_7 : decode cX11_rowsTo 7 = .ok (.if_icmp .ge 90, 3) := by decide +kernel
theorem dX11_rowsTo_10 : decode cX11_rowsTo 10 = .ok (.iload_n 2, 1) := by decide +kernel
theorem dX11_rowsTo_11 : decode cX11_rowsTo 11 = .ok (.iload_n 1, 1) := by decide +kernel
theorem dX11_rowsTo_12 : decode cX11_rowsTo 12 = .ok (.if_icmp .ne 7, 3) := by decide +kernel
theorem dX11_rowsTo_15 : decode cX11_rowsTo 15 = .ok (.iconst 1, 1) := by decide +kernel
theorem dX11_rowsTo_16 : decode cX11_rowsTo 16 = .ok (.goto 4, 3) := by decide +kernel
theorem dX11_rowsTo_19 : decode cX11_rowsTo 19 = .ok (.iconst 0, 1) := by decide +kernel
theorem dX11_rowsTo_20 : decode cX11_rowsTo 20 = .ok (.istore_n 3, 1) := by decide +kernel
theorem dX11_rowsTo_21 : decode cX11_rowsTo 21 = .ok (.iload_n 2, 1) := by decide +kernel
theorem dX11_rowsTo_22 : decode cX11_rowsTo 22 = .ok (.iload_n 1, 1) := by decide +kernel
theorem dX11_rowsTo_23 : decode cX11_rowsTo 23 = .ok (.if_icmp .eq 27, 3) := by decide +kernel
theorem dX11_rowsTo_26 : decode cX11_rowsTo 26 = .ok (.aload_n 0, 1) := by decide +kernel
theorem dX11_rowsTo_27 : decode cX11_rowsTo 27 = .ok (.getfield 61, 3) := by decide +kernel
theorem dX11_rowsTo_30 : decode cX11_rowsTo 30 = .ok (.iload_n 2, 1) := by decide +kernel
theorem dX11_rowsTo_31 : decode cX11_rowsTo 31 = .ok (.iaload, 1) := by decide +kernel
theorem dX11_rowsTo_32 : decode cX11_rowsTo 32 = .ok (.iconst (-1), 1) := by decide +kernel
theorem dX11_rowsTo_33 : decode cX11_rowsTo 33 = .ok (.if_icmp .eq 17, 3) := by decide +kernel
theorem dX11_rowsTo_36 : decode cX11_rowsTo 36 = .ok (.iload_n 3, 1) := by decide +kernel
theorem dX11_rowsTo_37 : decode cX11_rowsTo 37 = .ok (.aload_n 0, 1) := by decide +kernel
theorem dX11_rowsTo_38 : decode cX11_rowsTo 38 = .ok (.getfield 121, 3) := by decide +kernel
theorem dX11_rowsTo_41 : decode cX11_rowsTo 41 = .ok (.aload_n 0, 1) := by decide +kernel
theorem dX11_rowsTo_42 : decode cX11_rowsTo 42 = .ok (.getfield 61, 3) := by decide +kernel
theorem dX11_rowsTo_45 : decode cX11_rowsTo 45 = .ok (.iload_n 2, 1) := by decide +kernel
theorem dX11_rowsTo_46 : decode cX11_rowsTo 46 = .ok (.iaload, 1) := by decide +kernel
theorem dX11_rowsTo_47 : decode cX11_rowsTo 47 = .ok (.iaload, 1) := by decide +kernel
theorem dX11_rowsTo_48 : decode cX11_rowsTo 48 = .ok (.iadd, 1) := by decide +kernel
theorem dX11_rowsTo_49 : decode cX11_rowsTo 49 = .ok (.istore_n 3, 1) := by decide +kernel
theorem dX11_rowsTo_50 : decode cX11_rowsTo 50 = .ok (.iload_n 2, 1) := by decide +kernel
theorem dX11_rowsTo_51 : decode cX11_rowsTo 51 = .ok (.iload_n 1, 1) := by decide +kernel
theorem dX11_rowsTo_52 : decode cX11_rowsTo 52 = .ok (.if_icmp .eq 27, 3) := by decide +kernel
theorem dX11_rowsTo_55 : decode cX11_rowsTo 55 = .ok (.aload_n 0, 1) := by decide +kernel
theorem dX11_rowsTo_56 : decode cX11_rowsTo 56 = .ok (.getfield 64, 3) := by decide +kernel
theorem dX11_rowsTo_59 : decode cX11_rowsTo 59 = .ok (.iload_n 2, 1) := by decide +kernel
theorem dX11_rowsTo_60 : decode cX11_rowsTo 60 = .ok (.iaload, 1) := by decide +kernel
theorem dX11_rowsTo_61 : decode cX11_rowsTo 61 = .ok (.iconst (-1), 1) := by decide +kernel
theorem dX11_rowsTo_62 : decode cX11_rowsTo 62 = .ok (.if_icmp .eq 17, 3) := by decide +kernel
theorem dX11_rowsTo_65 : decode cX11_rowsTo 65 = .ok (.iload_n 3, 1) := by decide +kernel
theorem dX11_rowsTo_66 : decode cX11_rowsTo 66 = .ok (.aload_n 0, 1) := by decide +kernel
theorem dX11_rowsTo_67 : decode cX11_rowsTo 67 = .ok (.getfield 121, 3) := by decide +kernel
theorem dX11_rowsTo_70 : decode cX11_rowsTo 70 = .ok (.aload_n 0, 1) := by decide +kernel
theorem dX11_rowsTo_71 : decode cX11_rowsTo 71 = .ok (.getfield 64, 3) := by decide +kernel
theorem dX11_rowsTo_74 : decode cX11_rowsTo 74 = .ok (.iload_n 2, 1) := by decide +kernel
theorem dX11_rowsTo_75 : decode cX11_rowsTo 75 = .ok (.iaload, 1) := by decide +kernel
theorem dX11_rowsTo_76 : decode cX11_rowsTo 76 = .ok (.iaload, 1) := by decide +kernel
theorem dX11_rowsTo_77 : decode cX11_rowsTo 77 = .ok (.iadd, 1) := by decide +kernel
theorem dX11_rowsTo_78 : decode cX11_rowsTo 78 = .ok (.istore_n 3, 1) := by decide +kernel
theorem dX11_rowsTo_79 : decode cX11_rowsTo 79 = .ok (.aload_n 0, 1) := by decide +kernel
theorem dX11_rowsTo_80 : decode cX11_rowsTo 80 = .ok (.getfield 121, 3) := by decide +kernel
theorem dX11_rowsTo_83 : decode cX11_rowsTo 83 = .ok (.iload_n 2, 1) := by decide +kernel
theorem dX11_rowsTo_84 : decode cX11_rowsTo 84 = .ok (.iload_n 3, 1) := by decide +kernel
theorem dX11_rowsTo_85 : decode cX11_rowsTo 85 = .ok (.ldc 224, 2) := by decide +kernel
theorem dX11_rowsTo_87 : decode cX11_rowsTo 87 = .ok (.invokestatic 144, 3) := by decide +kernel
theorem dX11_rowsTo_90 : decode cX11_rowsTo 90 = .ok (.iastore, 1) := by decide +kernel
theorem dX11_rowsTo_91 : decode cX11_rowsTo 91 = .ok (.iinc 2 1, 3) := by decide +kernel
theorem dX11_rowsTo_94 : decode cX11_rowsTo 94 = .ok (.goto (-92), 3) := by decide +kernel
theorem dX11_rowsTo_97 : decode cX11_rowsTo 97 = .ok (.return_, 1) := by decide +kernel
theorem dX11_ways_0 : decode cX11_ways 0 = .ok (.aload_n 0, 1) := by decide +kernel
theorem dX11_ways_1 : decode cX11_ways 1 = .ok (.iload_n 1, 1) := by decide +kernel
theorem dX11_ways_2 : decode cX11_ways 2 = .ok (.invokevirtual 186, 3) := by decide +kernel
theorem dX11_ways_5 : decode cX11_ways 5 = .ok (.ifCond .eq 11, 3) := by decide +kernel
theorem dX11_ways_8 : decode cX11_ways 8 = .ok (.aload_n 0, 1) := by decide +kernel
theorem dX11_ways_9 : decode cX11_ways 9 = .ok (.iload_n 2, 1) := by decide +kernel
theorem dX11_ways_10 : decode cX11_ways 10 = .ok (.invokevirtual 186, 3) := by decide +kernel
theorem dX11_ways_13 : decode cX11_ways 13 = .ok (.ifCond .ne 5, 3) := by decide +kernel
theorem dX11_ways_16 : decode cX11_ways 16 = .ok (.iconst 0, 1) := by decide +kernel
theorem dX11_ways_17 : decode cX11_ways 17 = .ok (.ireturn, 1) := by decide +kernel
theorem dX11_ways_18 : decode cX11_ways 18 = .ok (.aload_n 0, 1) := by decide +kernel
theorem dX11_ways_19 : decode cX11_ways 19 = .ok (.iload_n 2, 1) := by decide +kernel
theorem dX11_ways_20 : decode cX11_ways 20 = .ok (.invokevirtual 225, 3) := by decide +kernel
theorem dX11_ways_23 : decode cX11_ways 23 = .ok (.aload_n 0, 1) := by decide +kernel
theorem dX11_ways_24 : decode cX11_ways 24 = .ok (.getfield 121, 3) := by decide +kernel
theorem dX11_ways_27 : decode cX11_ways 27 = .ok (.iload_n 1, 1) := by decide +kernel
theorem dX11_ways_28 : decode cX11_ways 28 = .ok (.iaload, 1) := by decide +kernel
theorem dX11_ways_29 : decode cX11_ways 29 = .ok (.ireturn, 1) := by decide +kernel
theorem dX11_isOf_0 : decode cX11_isOf 0 = .ok (.aload_n 0, 1) := by decide +kernel
theorem dX11_isOf_1 : decode cX11_isOf 1 = .ok (.iload_n 2, 1) := by decide +kernel
theorem dX11_isOf_2 : decode cX11_isOf 2 = .ok (.invokevirtual 225, 3) := by decide +kernel
theorem dX11_isOf_5 : decode cX11_isOf 5 = .ok (.aload_n 0, 1) := by decide +kernel
theorem dX11_isOf_6 : decode cX11_isOf 6 = .ok (.getfield 121, 3) := by decide +kernel
theorem dX11_isOf_9 : decode cX11_isOf 9 = .ok (.iload_n 1, 1) := by decide +kernel
theorem dX11_isOf_10 : decode cX11_isOf 10 = .ok (.iaload, 1) := by decide +kernel
theorem dX11_isOf_11 : decode cX11_isOf 11 = .ok (.ifCond .le 7, 3) := by decide +kernel
theorem dX11_isOf_14 : decode cX11_isOf 14 = .ok (.iconst 1, 1) := by decide +kernel
theorem dX11_isOf_15 : decode cX11_isOf 15 = .ok (.goto 4, 3) := by decide +kernel
theorem dX11_isOf_18 : decode cX11_isOf 18 = .ok (.iconst 0, 1) := by decide +kernel
theorem dX11_isOf_19 : decode cX11_isOf 19 = .ok (.ireturn, 1) := by decide +kernel
theorem dX11_isIn_0 : decode cX11_isIn 0 = .ok (.iload_n 1, 1) := by decide +kernel
theorem dX11_isIn_1 : decode cX11_isIn 1 = .ok (.ifCond .ne 10, 3) := by decide +kernel
theorem dX11_isIn_4 : decode cX11_isIn 4 = .ok (.aload_n 0, 1) := by decide +kernel
theorem dX11_isIn_5 : decode cX11_isIn 5 = .ok (.iload_n 2, 1) := by decide +kernel
theorem dX11_isIn_6 : decode cX11_isIn 6 = .ok (.iload_n 3, 1) := by decide +kernel
theorem dX11_isIn_7 : decode cX11_isIn 7 = .ok (.invokevirtual 229, 3) := by decide +kernel
theorem dX11_isIn_10 : decode cX11_isIn 10 = .ok (.ireturn, 1) := by decide +kernel
theorem dX11_isIn_11 : decode cX11_isIn 11 = .ok (.iload_n 1, 1) := by decide +kernel
theorem dX11_isIn_12 : decode cX11_isIn 12 = .ok (.iconst 1, 1) := by decide +kernel
theorem dX11_isIn_13 : decode cX11_isIn 13 = .ok (.if_icmp .ne 23, 3) := by decide +kernel
theorem dX11_isIn_16 : decode cX11_isIn 16 = .ok (.iload_n 2, 1) := by decide +kernel
theorem dX11_isIn_17 : decode cX11_isIn 17 = .ok (.iload_n 3, 1) := by decide +kernel
theorem dX11_isIn_18 : decode cX11_isIn 18 = .ok (.if_icmp .eq 16, 3) := by decide +kernel
theorem dX11_isIn_21 : decode cX11_isIn 21 = .ok (.aload_n 0, 1) := by decide +kernel
theorem dX11_isIn_22 : decode cX11_isIn 22 = .ok (.iload_n 3, 1) := by decide +kernel
theorem dX11_isIn_23 : decode cX11_isIn 23 = .ok (.iload_n 2, 1) := by decide +kernel
theorem dX11_isIn_24 : decode cX11_isIn 24 = .ok (.invokevirtual 229, 3) := by decide +kernel
theorem dX11_isIn_27 : decode cX11_isIn 27 = .ok (.ifCond .eq 7, 3) := by decide +kernel
theorem dX11_isIn_30 : decode cX11_isIn 30 = .ok (.iconst 1, 1) := by decide +kernel
theorem dX11_isIn_31 : decode cX11_isIn 31 = .ok (.goto 4, 3) := by decide +kernel
theorem dX11_isIn_34 : decode cX11_isIn 34 = .ok (.iconst 0, 1) := by decide +kernel
theorem dX11_isIn_35 : decode cX11_isIn 35 = .ok (.ireturn, 1) := by decide +kernel
theorem dX11_isIn_36 : decode cX11_isIn 36 = .ok (.aload_n 0, 1) := by decide +kernel
theorem dX11_isIn_37 : decode cX11_isIn 37 = .ok (.getfield 61, 3) := by decide +kernel
theorem dX11_isIn_40 : decode cX11_isIn 40 = .ok (.iload_n 3, 1) := by decide +kernel
theorem dX11_isIn_41 : decode cX11_isIn 41 = .ok (.iaload, 1) := by decide +kernel
theorem dX11_isIn_42 : decode cX11_isIn 42 = .ok (.iconst (-1), 1) := by decide +kernel
theorem dX11_isIn_43 : decode cX11_isIn 43 = .ok (.if_icmp .eq 17, 3) := by decide +kernel
theorem dX11_isIn_46 : decode cX11_isIn 46 = .ok (.aload_n 0, 1) := by decide +kernel
theorem dX11_isIn_47 : decode cX11_isIn 47 = .ok (.iload_n 2, 1) := by decide +kernel
theorem dX11_isIn_48 : decode cX11_isIn 48 = .ok (.aload_n 0, 1) := by decide +kernel
theorem dX11_isIn_49 : decode cX11_isIn 49 = .ok (.getfield 61, 3) := by decide +kernel
theorem dX11_isIn_52 : decode cX11_isIn 52 = .ok (.iload_n 3, 1) := by decide +kernel
theorem dX11_isIn_53 : decode cX11_isIn 53 = .ok (.iaload, 1) := by decide +kernel
theorem dX11_isIn_54 : decode cX11_isIn 54 = .ok (.invokevirtual 229, 3) := by decide +kernel
theorem dX11_isIn_57 : decode cX11_isIn 57 = .ok (.ifCond .ne 27, 3) := by decide +kernel
theorem dX11_isIn_60 : decode cX11_isIn 60 = .ok (.aload_n 0, 1) := by decide +kernel
theorem dX11_isIn_61 : decode cX11_isIn 61 = .ok (.getfield 64, 3) := by decide +kernel
theorem dX11_isIn_64 : decode cX11_isIn 64 = .ok (.iload_n 3, 1) := by decide +kernel
theorem dX11_isIn_65 : decode cX11_isIn 65 = .ok (.iaload, 1) := by decide +kernel
theorem dX11_isIn_66 : decode cX11_isIn 66 = .ok (.iconst (-1), 1) := by decide +kernel
theorem dX11_isIn_67 : decode cX11_isIn 67 = .ok (.if_icmp .eq 21, 3) := by decide +kernel
theorem dX11_isIn_70 : decode cX11_isIn 70 = .ok (.aload_n 0, 1) := by decide +kernel
theorem dX11_isIn_71 : decode cX11_isIn 71 = .ok (.iload_n 2, 1) := by decide +kernel
theorem dX11_isIn_72 : decode cX11_isIn 72 = .ok (.aload_n 0, 1) := by decide +kernel
theorem dX11_isIn_73 : decode cX11_isIn 73 = .ok (.getfield 64, 3) := by decide +kernel
theorem dX11_isIn_76 : decode cX11_isIn 76 = .ok (.iload_n 3, 1) := by decide +kernel
theorem dX11_isIn_77 : decode cX11_isIn 77 = .ok (.iaload, 1) := by decide +kernel
theorem dX11_isIn_78 : decode cX11_isIn 78 = .ok (.invokevirtual 229, 3) := by decide +kernel
theorem dX11_isIn_81 : decode cX11_isIn 81 = .ok (.ifCond .eq 7, 3) := by decide +kernel
theorem dX11_isIn_84 : decode cX11_isIn 84 = .ok (.iconst 1, 1) := by decide +kernel
theorem dX11_isIn_85 : decode cX11_isIn 85 = .ok (.goto 4, 3) := by decide +kernel
theorem dX11_isIn_88 : decode cX11_isIn 88 = .ok (.iconst 0, 1) := by decide +kernel
theorem dX11_isIn_89 : decode cX11_isIn 89 = .ok (.istore 4, 2) := by decide +kernel
theorem dX11_isIn_91 : decode cX11_isIn 91 = .ok (.iload 4, 2) := by decide +kernel
theorem dX11_isIn_93 : decode cX11_isIn 93 = .ok (.ifCond .eq 27, 3) := by decide +kernel
theorem dX11_isIn_96 : decode cX11_isIn 96 = .ok (.aload_n 0, 1) := by decide +kernel
theorem dX11_isIn_97 : decode cX11_isIn 97 = .ok (.iconst 0, 1) := by decide +kernel
theorem dX11_isIn_98 : decode cX11_isIn 98 = .ok (.iload_n 2, 1) := by decide +kernel
theorem dX11_isIn_99 : decode cX11_isIn 99 = .ok (.iload_n 3, 1) := by decide +kernel
theorem dX11_isIn_100 : decode cX11_isIn 100 = .ok (.invokevirtual 232, 3) := by decide +kernel
theorem dX11_isIn_103 : decode cX11_isIn 103 = .ok (.ifCond .ne 17, 3) := by decide +kernel
theorem dX11_isIn_106 : decode cX11_isIn 106 = .ok (.aload_n 0, 1) := by decide +kernel
theorem dX11_isIn_107 : decode cX11_isIn 107 = .ok (.iconst 1, 1) := by decide +kernel
theorem dX11_isIn_108 : decode cX11_isIn 108 = .ok (.iload_n 2, 1) := by decide +kernel
theorem dX11_isIn_109 : decode cX11_isIn 109 = .ok (.iload_n 3, 1) := by decide +kernel
theorem dX11_isIn_110 : decode cX11_isIn 110 = .ok (.invokevirtual 232, 3) := by decide +kernel
theorem dX11_isIn_113 : decode cX11_isIn 113 = .ok (.ifCond .ne 7, 3) := by decide +kernel
theorem dX11_isIn_116 : decode cX11_isIn 116 = .ok (.iconst 1, 1) := by decide +kernel
theorem dX11_isIn_117 : decode cX11_isIn 117 = .ok (.goto 4, 3) := by decide +kernel
theorem dX11_isIn_120 : decode cX11_isIn 120 = .ok (.iconst 0, 1) := by decide +kernel
theorem dX11_isIn_121 : decode cX11_isIn 121 = .ok (.ireturn, 1) := by decide +kernel
theorem dX11_touched_0 : decode cX11_touched 0 = .ok (.aload_n 0, 1) := by decide +kernel
theorem dX11_touched_1 : decode cX11_touched 1 = .ok (.iload_n 1, 1) := by decide +kernel
theorem dX11_touched_2 : decode cX11_touched 2 = .ok (.invokevirtual 186, 3) := by decide +kernel
theorem dX11_touched_5 : decode cX11_touched 5 = .ok (.ifCond .eq 16, 3) := by decide +kernel
theorem dX11_touched_8 : decode cX11_touched 8 = .ok (.iload_n 2, 1) := by decide +kernel
theorem dX11_touched_9 : decode cX11_touched 9 = .ok (.iconst 0, 1) := by decide +kernel
theorem dX11_touched_10 : decode cX11_touched 10 = .ok (.iconst 2, 1) := by decide +kernel
theorem dX11_touched_11 : decode cX11_touched 11 = .ok (.invokestatic 134, 3) := by decide +kernel
theorem dX11_touched_14 : decode cX11_touched 14 = .ok (.ifCond .eq 7, 3) := by decide +kernel
theorem dX11_touched_17 : decode cX11_touched 17 = .ok (.iload_n 3, 1) := by decide +kernel
theorem dX11_touched_18 : decode cX11_touched 18 = .ok (.ifCond .ge 5, 3) := by decide +kernel
theorem dX11_touched_21 : decode cX11_touched 21 = .ok (.iconst (-1), 1) := by decide +kernel
theorem dX11_touched_22 : decode cX11_touched 22 = .ok (.ireturn, 1) := by decide +kernel
theorem dX11_touched_23 : decode cX11_touched 23 = .ok (.iconst 0, 1) := by decide +kernel
theorem dX11_touched_24 : decode cX11_touched 24 = .ok (.istore 4, 2) := by decide +kernel
theorem dX11_touched_26 : decode cX11_touched 26 = .ok (.iconst 0, 1) := by decide +kernel
theorem dX11_touched_27 : decode cX11_touched 27 = .ok (.istore 5, 2) := by decide +kernel
theorem dX11_touched_29 : decode cX11_touched 29 = .ok (.iload 5, 2) := by decide +kernel
theorem dX11_touched_31 : decode cX11_touched 31 = .ok (.aload_n 0, 1) := by decide +kernel
theorem dX11_touched_32 : decode cX11_touched 32 = .ok (.getfield 138, 3) := by decide +kernel
theorem dX11_touched_35 : decode cX11_touched 35 = .ok (.if_icmp .ge 32, 3) := by decide +kernel
theorem dX11_touched_38 : decode cX11_touched 38 = .ok (.aload_n 0, 1) := by decide +kernel
theorem dX11_touched_39 : decode cX11_touched 39 = .ok (.iload_n 2, 1) := by decide +kernel
theorem dX11_touched_40 : decode cX11_touched 40 = .ok (.iload 5, 2) := by decide +kernel
theorem dX11_touched_42 : decode cX11_touched 42 = .ok (.iload_n 1, 1) := by decide +kernel
theorem dX11_touched_43 : decode cX11_touched 43 = .ok (.invokevirtual 232, 3) := by decide +kernel
theorem dX11_touched_46 : decode cX11_touched 46 = .ok (.ifCond .eq 15, 3) := by decide +kernel
theorem dX11_touched_49 : decode cX11_touched 49 = .ok (.iload 4, 2) := by decide +kernel
theorem dX11_touched_51 : decode cX11_touched 51 = .ok (.iload_n 3, 1) := by decide +kernel
theorem dX11_touched_52 : decode cX11_touched 52 = .ok (.if_icmp .ne 6, 3) := by decide +kernel
theorem dX11_touched_55 : decode cX11_touched 55 = .ok (.iload 5, 2) := by decide +kernel
theorem dX11_touched_57 : decode cX11_touched 57 = .ok (.ireturn, 1) := by decide +kernel
theorem dX11_touched_58 : decode cX11_touched 58 = .ok (.iinc 4 1, 3) := by decide +kernel
theorem dX11_touched_61 : decode cX11_touched 61 = .ok (.iinc 5 1, 3) := by decide +kernel
theorem dX11_touched_64 : decode cX11_touched 64 = .ok (.goto (-35), 3) := by decide +kernel
theorem dX11_touched_67 : decode cX11_touched 67 = .ok (.iconst (-1), 1) := by decide +kernel
theorem dX11_touched_68 : decode cX11_touched 68 = .ok (.ireturn, 1) := by decide +kernel
theorem dX11_buyers_0 : decode cX11_buyers 0 = .ok (.aload_n 0, 1) := by decide +kernel
theorem dX11_buyers_1 : decode cX11_buyers 1 = .ok (.iload_n 1, 1) := by decide +kernel
theorem dX11_buyers_2 : decode cX11_buyers 2 = .ok (.invokevirtual 186, 3) := by decide +kernel
theorem dX11_buyers_5 : decode cX11_buyers 5 = .ok (.ifCond .ne 5, 3) := by decide +kernel
theorem dX11_buyers_8 : decode cX11_buyers 8 = .ok (.iconst 0, 1) := by decide +kernel
theorem dX11_buyers_9 : decode cX11_buyers 9 = .ok (.ireturn, 1) := by decide +kernel
theorem dX11_buyers_10 : decode cX11_buyers 10 = .ok (.aload_n 0, 1) := by decide +kernel
theorem dX11_buyers_11 : decode cX11_buyers 11 = .ok (.iload_n 1, 1) := by decide +kernel
theorem dX11_buyers_12 : decode cX11_buyers 12 = .ok (.invokevirtual 225, 3) := by decide +kernel
theorem dX11_buyers_15 : decode cX11_buyers 15 = .ok (.iconst 0, 1) := by decide +kernel
theorem dX11_buyers_16 : decode cX11_buyers 16 = .ok (.istore_n 2, 1) := by decide +kernel
theorem dX11_buyers_17 : decode cX11_buyers 17 = .ok (.iconst 0, 1) := by decide +kernel
theorem dX11_buyers_18 : decode cX11_buyers 18 = .ok (.istore_n 3, 1) := by decide +kernel
theorem dX11_buyers_19 : decode cX11_buyers 19 = .ok (.iload_n 3, 1) := by decide +kernel
theorem dX11_buyers_20 : decode cX11_buyers 20 = .ok (.aload_n 0, 1) := by decide +kernel
theorem dX11_buyers_21 : decode cX11_buyers 21 = .ok (.getfield 190, 3) := by decide +kernel
theorem dX11_buyers_24 : decode cX11_buyers 24 = .ok (.if_icmp .ge 44, 3) := by decide +kernel
theorem dX11_buyers_27 : decode cX11_buyers 27 = .ok (.aload_n 0, 1) := by decide +kernel
theorem dX11_buyers_28 : decode cX11_buyers 28 = .ok (.getfield 106, 3) := by decide +kernel
theorem dX11_buyers_31 : decode cX11_buyers 31 = .ok (.iload_n 3, 1) := by decide +kernel
theorem dX11_buyers_32 : decode cX11_buyers 32 = .ok (.iaload, 1) := by decide +kernel
theorem dX11_buyers_33 : decode cX11_buyers 33 = .ok (.iconst (-1), 1) := by decide +kernel
theorem dX11_buyers_34 : decode cX11_buyers 34 = .ok (.if_icmp .eq 28, 3) := by decide +kernel
theorem dX11_buyers_37 : decode cX11_buyers 37 = .ok (.aload_n 0, 1) := by decide +kernel
theorem dX11_buyers_38 : decode cX11_buyers 38 = .ok (.getfield 121, 3) := by decide +kernel
theorem dX11_buyers_41 : decode cX11_buyers 41 = .ok (.aload_n 0, 1) := by decide +kernel
theorem dX11_buyers_42 : decode cX11_buyers 42 = .ok (.getfield 97, 3) := by decide +kernel
theorem dX11_buyers_45 : decode cX11_buyers 45 = .ok (.iload_n 3, 1) := by decide +kernel
theorem dX11_buyers_46 : decode cX11_buyers 46 = .ok (.iaload, 1) := by decide +kernel
theorem dX11_buyers_47 : decode cX11_buyers 47 = .ok (.iaload, 1) := by decide +kernel
theorem dX11_buyers_48 : decode cX11_buyers 48 = .ok (.ifCond .le 14, 3) := by decide +kernel
theorem dX11_buyers_51 : decode cX11_buyers 51 = .ok (.iload_n 2, 1) := by decide +kernel
theorem dX11_buyers_52 : decode cX11_buyers 52 = .ok (.iconst 1, 1) := by decide +kernel
theorem dX11_buyers_53 : decode cX11_buyers 53 = .ok (.aload_n 0, 1) := by decide +kernel
theorem dX11_buyers_54 : decode cX11_buyers 54 = .ok (.getfield 106, 3) := by decide +kernel
theorem dX11_buyers_57 : decode cX11_buyers 57 = .ok (.iload_n 3, 1) := by decide +kernel
theorem dX11_buyers_58 : decode cX11_buyers 58 = .ok (.iaload, 1) := by decide +kernel
theorem dX11_buyers_59 : decode cX11_buyers 59 = .ok (.ishl, 1) := by decide +kernel
theorem dX11_buyers_60 : decode cX11_buyers 60 = .ok (.ior, 1) := by decide +kernel
theorem dX11_buyers_61 : decode cX11_buyers 61 = .ok (.istore_n 2, 1) := by decide +kernel
theorem dX11_buyers_62 : decode cX11_buyers 62 = .ok (.iinc 3 1, 3) := by decide +kernel
theorem dX11_buyers_65 : decode cX11_buyers 65 = .ok (.goto (-46), 3) := by decide +kernel
theorem dX11_buyers_68 : decode cX11_buyers 68 = .ok (.iload_n 2, 1) := by decide +kernel
theorem dX11_buyers_69 : decode cX11_buyers 69 = .ok (.ireturn, 1) := by decide +kernel
theorem dX11_want_0 : decode cX11_want 0 = .ok (.iload_n 1, 1) := by decide +kernel
theorem dX11_want_1 : decode cX11_want 1 = .ok (.iconst (-1), 1) := by decide +kernel
theorem dX11_want_2 : decode cX11_want 2 = .ok (.if_icmp .ne 10, 3) := by decide +kernel
theorem dX11_want_5 : decode cX11_want 5 = .ok (.aload_n 0, 1) := by decide +kernel
theorem dX11_want_6 : decode cX11_want 6 = .ok (.iconst 0, 1) := by decide +kernel
theorem dX11_want_7 : decode cX11_want 7 = .ok (.putfield 235, 3) := by decide +kernel
theorem dX11_want_10 : decode cX11_want 10 = .ok (.iconst 0, 1) := by decide +kernel
theorem dX11_want_11 : decode cX11_want 11 = .ok (.ireturn, 1) := by decide +kernel
theorem dX11_want_12 : decode cX11_want 12 = .ok (.aload_n 0, 1) := by decide +kernel
theorem dX11_want_13 : decode cX11_want 13 = .ok (.iload_n 1, 1) := by decide +kernel
theorem dX11_want_14 : decode cX11_want 14 = .ok (.invokevirtual 186, 3) := by decide +kernel
theorem dX11_want_17 : decode cX11_want 17 = .ok (.ifCond .eq 11, 3) := by decide +kernel
theorem dX11_want_20 : decode cX11_want 20 = .ok (.aload_n 0, 1) := by decide +kernel
theorem dX11_want_21 : decode cX11_want 21 = .ok (.getfield 235, 3) := by decide +kernel
theorem dX11_want_24 : decode cX11_want 24 = .ok (.iconst 5, 1) := by decide +kernel
theorem dX11_want_25 : decode cX11_want 25 = .ok (.if_icmp .ne 5, 3) := by decide +kernel
theorem dX11_want_28 : decode cX11_want 28 = .ok (.iconst (-1), 1) := by decide +kernel
theorem dX11_want_29 : decode cX11_want 29 = .ok (.ireturn, 1) := by decide +kernel
theorem dX11_want_30 : decode cX11_want 30 = .ok (.iconst 0, 1) := by decide +kernel
theorem dX11_want_31 : decode cX11_want 31 = .ok (.istore_n 2, 1) := by decide +kernel
theorem dX11_want_32 : decode cX11_want 32 = .ok (.iload_n 2, 1) := by decide +kernel
theorem dX11_want_33 : decode cX11_want 33 = .ok (.aload_n 0, 1) := by decide +kernel
theorem dX11_want_34 : decode cX11_want 34 = .ok (.getfield 235, 3) := by decide +kernel
theorem dX11_want_37 : decode cX11_want 37 = .ok (.if_icmp .ge 21, 3) := by decide +kernel
theorem dX11_want_40 : decode cX11_want 40 = .ok (.aload_n 0, 1) := by decide +kernel
theorem dX11_want_41 : decode cX11_want 41 = .ok (.getfield 109, 3) := by decide +kernel
theorem dX11_want_44 : decode cX11_want 44 = .ok (.iload_n 2, 1) := by decide +kernel
theorem dX11_want_45 : decode cX11_want 45 = .ok (.iaload, 1) := by decide +kernel
theorem dX11_want_46 : decode cX11_want 46 = .ok (.iload_n 1, 1) := by decide +kernel
theorem dX11_want_47 : decode cX11_want 47 = .ok (.if_icmp .ne 5, 3) := by decide +kernel
theorem dX11_want_50 : decode cX11_want 50 = .ok (.iconst (-1), 1) := by decide +kernel
theorem dX11_want_51 : decode cX11_want 51 = .ok (.ireturn, 1) := by decide +kernel
theorem dX11_want_52 : decode cX11_want 52 = .ok (.iinc 2 1, 3) := by decide +kernel
theorem dX11_want_55 : decode cX11_want 55 = .ok (.goto (-23), 3) := by decide +kernel
theorem dX11_want_58 : decode cX11_want 58 = .ok (.aload_n 0, 1) := by decide +kernel
theorem dX11_want_59 : decode cX11_want 59 = .ok (.getfield 109, 3) := by decide +kernel
theorem dX11_want_62 : decode cX11_want 62 = .ok (.aload_n 0, 1) := by decide +kernel
theorem dX11_want_63 : decode cX11_want 63 = .ok (.getfield 235, 3) := by decide +kernel
theorem dX11_want_66 : decode cX11_want 66 = .ok (.iload_n 1, 1) := by decide +kernel
theorem dX11_want_67 : decode cX11_want 67 = .ok (.iastore, 1) := by decide +kernel
theorem dX11_want_68 : decode cX11_want 68 = .ok (.aload_n 0, 1) := by decide +kernel
theorem dX11_want_69 : decode cX11_want 69 = .ok (.dup, 1) := by decide +kernel
theorem dX11_want_70 : decode cX11_want 70 = .ok (.getfield 235, 3) := by decide +kernel
theorem dX11_want_73 : decode cX11_want 73 = .ok (.iconst 1, 1) := by decide +kernel
theorem dX11_want_74 : decode cX11_want 74 = .ok (.iadd, 1) := by decide +kernel
theorem dX11_want_75 : decode cX11_want 75 = .ok (.putfield 235, 3) := by decide +kernel
theorem dX11_want_78 : decode cX11_want 78 = .ok (.aload_n 0, 1) := by decide +kernel
theorem dX11_want_79 : decode cX11_want 79 = .ok (.getfield 235, 3) := by decide +kernel
theorem dX11_want_82 : decode cX11_want 82 = .ok (.ireturn, 1) := by decide +kernel
theorem dX11_isFree_0 : decode cX11_isFree 0 = .ok (.aload_n 0, 1) := by decide +kernel
theorem dX11_isFree_1 : decode cX11_isFree 1 = .ok (.iconst 1, 1) := by decide +kernel
theorem dX11_isFree_2 : decode cX11_isFree 2 = .ok (.aload_n 0, 1) := by decide +kernel
theorem dX11_isFree_3 : decode cX11_isFree 3 = .ok (.getfield 141, 3) := by decide +kernel
theorem dX11_isFree_6 : decode cX11_isFree 6 = .ok (.iconst 1, 1) := by decide +kernel
theorem dX11_isFree_7 : decode cX11_isFree 7 = .ok (.iadd, 1) := by decide +kernel
theorem dX11_isFree_8 : decode cX11_isFree 8 = .ok (.aload_n 0, 1) := by decide +kernel
theorem dX11_isFree_9 : decode cX11_isFree 9 = .ok (.getfield 141, 3) := by decide +kernel
theorem dX11_isFree_12 : decode cX11_isFree 12 = .ok (.invokevirtual 180, 3) := by decide +kernel
theorem dX11_isFree_15 : decode cX11_isFree 15 = .ok (.istore_n 3, 1) := by decide +kernel
theorem dX11_isFree_16 : decode cX11_isFree 16 = .ok (.iconst 1, 1) := by decide +kernel
theorem dX11_isFree_17 : decode cX11_isFree 17 = .ok (.istore 4, 2) := by decide +kernel
theorem dX11_isFree_19 : decode cX11_isFree 19 = .ok (.iload 4, 2) := by decide +kernel
theorem dX11_isFree_21 : decode cX11_isFree 21 = .ok (.iload_n 3, 1) := by decide +kernel
theorem dX11_isFree_22 : decode cX11_isFree 22 = .ok (.if_icmp .gt 44, 3) := by decide +kernel
theorem dX11_isFree_25 : decode cX11_isFree 25 = .ok (.iload 4, 2) := by decide +kernel
theorem dX11_isFree_27 : decode cX11_isFree 27 = .ok (.aload_n 0, 1) := by decide +kernel
theorem dX11_isFree_28 : decode cX11_isFree 28 = .ok (.getfield 141, 3) := by decide +kernel
theorem dX11_isFree_31 : decode cX11_isFree 31 = .ok (.iconst 1, 1) := by decide +kernel
theorem dX11_isFree_32 : decode cX11_isFree 32 = .ok (.iadd, 1) := by decide +kernel
theorem dX11_isFree_33 : decode cX11_isFree 33 = .ok (.if_icmp .gt 33, 3) := by decide +kernel
theorem dX11_isFree_36 : decode cX11_isFree 36 = .ok (.aload_n 0, 1) := by decide +kernel
theorem dX11_isFree_37 : decode cX11_isFree 37 = .ok (.iload_n 2, 1) := by decide +kernel
theorem dX11_isFree_38 : decode cX11_isFree 38 = .ok (.aload_n 0, 1) := by decide +kernel
theorem dX11_isFree_39 : decode cX11_isFree 39 = .ok (.getfield 141, 3) := by decide +kernel
theorem dX11_isFree_42 : decode cX11_isFree 42 = .ok (.iconst 1, 1) := by decide +kernel
theorem dX11_isFree_43 : decode cX11_isFree 43 = .ok (.iadd, 1) := by decide +kernel
theorem dX11_isFree_44 : decode cX11_isFree 44 = .ok (.iload 4, 2) := by decide +kernel
theorem dX11_isFree_46 : decode cX11_isFree 46 = .ok (.isub, 1) := by decide +kernel
theorem dX11_isFree_47 : decode cX11_isFree 47 = .ok (.aload_n 0, 1) := by decide +kernel
theorem dX11_isFree_48 : decode cX11_isFree 48 = .ok (.getfield 141, 3) := by decide +kernel
theorem dX11_isFree_51 : decode cX11_isFree 51 = .ok (.invokevirtual 169, 3) := by decide +kernel
theorem dX11_isFree_54 : decode cX11_isFree 54 = .ok (.iload_n 1, 1) := by decide +kernel
theorem dX11_isFree_55 : decode cX11_isFree 55 = .ok (.if_icmp .ne 5, 3) := by decide +kernel
theorem dX11_isFree_58 : decode cX11_isFree 58 = .ok (.iconst 0, 1) := by decide +kernel
theorem dX11_isFree_59 : decode cX11_isFree 59 = .ok (.ireturn, 1) := by decide +kernel
theorem dX11_isFree_60 : decode cX11_isFree 60 = .ok (.iinc 4 1, 3) := by decide +kernel
theorem dX11_isFree_63 : decode cX11_isFree 63 = .ok (.goto (-44), 3) := by decide +kernel
theorem dX11_isFree_66 : decode cX11_isFree 66 = .ok (.iconst 1, 1) := by decide +kernel
theorem dX11_isFree_67 : decode cX11_isFree 67 = .ok (.ireturn, 1) := by decide +kernel
theorem dX11_isGood_0 : decode cX11_isGood 0 = .ok (.aload_n 0, 1) := by decide +kernel
theorem dX11_isGood_1 : decode cX11_isGood 1 = .ok (.iconst 0, 1) := by decide +kernel
theorem dX11_isGood_2 : decode cX11_isGood 2 = .ok (.aload_n 0, 1) := by decide +kernel
theorem dX11_isGood_3 : decode cX11_isGood 3 = .ok (.getfield 141, 3) := by decide +kernel
theorem dX11_isGood_6 : decode cX11_isGood 6 = .ok (.iconst 1, 1) := by decide +kernel
theorem dX11_isGood_7 : decode cX11_isGood 7 = .ok (.iadd, 1) := by decide +kernel
theorem dX11_isGood_8 : decode cX11_isGood 8 = .ok (.aload_n 0, 1) := by decide +kernel
theorem dX11_isGood_9 : decode cX11_isGood 9 = .ok (.getfield 141, 3) := by decide +kernel
theorem dX11_isGood_12 : decode cX11_isGood 12 = .ok (.invokevirtual 180, 3) := by decide +kernel
theorem dX11_isGood_15 : decode cX11_isGood 15 = .ok (.istore_n 2, 1) := by decide +kernel
theorem dX11_isGood_16 : decode cX11_isGood 16 = .ok (.iconst 0, 1) := by decide +kernel
theorem dX11_isGood_17 : decode cX11_isGood 17 = .ok (.istore_n 3, 1) := by decide +kernel
theorem dX11_isGood_18 : decode cX11_isGood 18 = .ok (.iload_n 3, 1) := by decide +kernel
theorem dX11_isGood_19 : decode cX11_isGood 19 = .ok (.aload_n 0, 1) := by decide +kernel
theorem dX11_isGood_20 : decode cX11_isGood 20 = .ok (.getfield 235, 3) := by decide +kernel
theorem dX11_isGood_23 : decode cX11_isGood 23 = .ok (.if_icmp .ge 153, 3) := by decide +kernel
theorem dX11_isGood_26 : decode cX11_isGood 26 = .ok (.aload_n 0, 1) := by decide +kernel
theorem dX11_isGood_27 : decode cX11_isGood 27 = .ok (.getfield 124, 3) := by decide +kernel
theorem dX11_isGood_30 : decode cX11_isGood 30 = .ok (.iload_n 3, 1) := by decide +kernel
theorem dX11_isGood_31 : decode cX11_isGood 31 = .ok (.iaload, 1) := by decide +kernel
theorem dX11_isGood_32 : decode cX11_isGood 32 = .ok (.iload_n 1, 1) := by decide +kernel
theorem dX11_isGood_33 : decode cX11_isGood 33 = .ok (.if_icmp .ne 6, 3) := by decide +kernel
theorem dX11_isGood_36 : decode cX11_isGood 36 = .ok (.goto 134, 3) := by decide +kernel
theorem dX11_isGood_39 : decode cX11_isGood 39 = .ok (.aload_n 0, 1) := by decide +kernel
theorem dX11_isGood_40 : decode cX11_isGood 40 = .ok (.aload_n 0, 1) := by decide +kernel
theorem dX11_isGood_41 : decode cX11_isGood 41 = .ok (.getfield 49, 3) := by decide +kernel
theorem dX11_isGood_44 : decode cX11_isGood 44 = .ok (.aload_n 0, 1) := by decide +kernel
theorem dX11_isGood_45 : decode cX11_isGood 45 = .ok (.getfield 109, 3) := by decide +kernel
theorem dX11_isGood_48 : decode cX11_isGood 48 = .ok (.iload_n 3, 1) := by decide +kernel
theorem dX11_isGood_49 : decode cX11_isGood 49 = .ok (.iaload, 1) := by decide +kernel
theorem dX11_isGood_50 : decode cX11_isGood 50 = .ok (.iaload, 1) := by decide +kernel
theorem dX11_isGood_51 : decode cX11_isGood 51 = .ok (.aload_n 0, 1) := by decide +kernel
theorem dX11_isGood_52 : decode cX11_isGood 52 = .ok (.getfield 124, 3) := by decide +kernel
theorem dX11_isGood_55 : decode cX11_isGood 55 = .ok (.iload_n 3, 1) := by decide +kernel
theorem dX11_isGood_56 : decode cX11_isGood 56 = .ok (.iaload, 1) := by decide +kernel
theorem dX11_isGood_57 : decode cX11_isGood 57 = .ok (.invokevirtual 238, 3) := by decide +kernel
theorem dX11_isGood_60 : decode cX11_isGood 60 = .ok (.ifCond .ne 5, 3) := by decide +kernel
theorem dX11_isGood_63 : decode cX11_isGood 63 = .ok (.iconst 0, 1) := by decide +kernel
theorem dX11_isGood_64 : decode cX11_isGood 64 = .ok (.ireturn, 1) := by decide +kernel
theorem dX11_isGood_65 : decode cX11_isGood 65 = .ok (.iconst 0, 1) := by decide +kernel
theorem dX11_isGood_66 : decode cX11_isGood 66 = .ok (.istore 4, 2) := by decide +kernel
theorem dX11_isGood_68 : decode cX11_isGood 68 = .ok (.iload 4, 2) := by decide +kernel
theorem dX11_isGood_70 : decode cX11_isGood 70 = .ok (.iload_n 3, 1) := by decide +kernel
theorem dX11_isGood_71 : decode cX11_isGood 71 = .ok (.if_icmp .ge 99, 3) := by decide +kernel
theorem dX11_isGood_74 : decode cX11_isGood 74 = .ok (.aload_n 0, 1) := by decide +kernel
theorem dX11_isGood_75 : decode cX11_isGood 75 = .ok (.getfield 124, 3) := by decide +kernel
theorem dX11_isGood_78 : decode cX11_isGood 78 = .ok (.iload 4, 2) := by decide +kernel
theorem dX11_isGood_80 : decode cX11_isGood 80 = .ok (.iaload, 1) := by decide +kernel
theorem dX11_isGood_81 : decode cX11_isGood 81 = .ok (.iload_n 1, 1) := by decide +kernel
theorem dX11_isGood_82 : decode cX11_isGood 82 = .ok (.if_icmp .ge 7, 3) := by decide +kernel
theorem dX11_isGood_85 : decode cX11_isGood 85 = .ok (.iconst 1, 1) := by decide +kernel
theorem dX11_isGood_86 : decode cX11_isGood 86 = .ok (.goto 4, 3) := by decide +kernel
theorem dX11_isGood_89 : decode cX11_isGood 89 = .ok (.iconst 0, 1) := by decide +kernel
theorem dX11_isGood_90 : decode cX11_isGood 90 = .ok (.istore 5, 2) := by decide +kernel
theorem dX11_isGood_92 : decode cX11_isGood 92 = .ok (.iload 5, 2) := by decide +kernel
theorem dX11_isGood_94 : decode cX11_isGood 94 = .ok (.ifCond .eq 70, 3) := by decide +kernel
theorem dX11_isGood_97 : decode cX11_isGood 97 = .ok (.aload_n 0, 1) := by decide +kernel
theorem dX11_isGood_98 : decode cX11_isGood 98 = .ok (.getfield 124, 3) := by decide +kernel
theorem dX11_isGood_101 : decode cX11_isGood 101 = .ok (.iload 4, 2) := by decide +kernel
theorem dX11_isGood_103 : decode cX11_isGood 103 = .ok (.iaload, 1) := by decide +kernel
theorem dX11_isGood_104 : decode cX11_isGood 104 = .ok (.aload_n 0, 1) := by decide +kernel
theorem dX11_isGood_105 : decode cX11_isGood 105 = .ok (.getfield 124, 3) := by decide +kernel
theorem dX11_isGood_108 : decode cX11_isGood 108 = .ok (.iload_n 3, 1) := by decide +kernel
theorem dX11_isGood_109 : decode cX11_isGood 109 = .ok (.iaload, 1) := by decide +kernel
theorem dX11_isGood_110 : decode cX11_isGood 110 = .ok (.if_icmp .eq 52, 3) := by decide +kernel
theorem dX11_isGood_113 : decode cX11_isGood 113 = .ok (.aload_n 0, 1) := by decide +kernel
theorem dX11_isGood_114 : decode cX11_isGood 114 = .ok (.getfield 49, 3) := by decide +kernel
theorem dX11_isGood_117 : decode cX11_isGood 117 = .ok (.aload_n 0, 1) := by decide +kernel
theorem dX11_isGood_118 : decode cX11_isGood 118 = .ok (.getfield 109, 3) := by decide +kernel
theorem dX11_isGood_121 : decode cX11_isGood 121 = .ok (.iload 4, 2) := by decide +kernel
theorem dX11_isGood_123 : decode cX11_isGood 123 = .ok (.iaload, 1) := by decide +kernel
theorem dX11_isGood_124 : decode cX11_isGood 124 = .ok (.iaload, 1) := by decide +kernel
theorem dX11_isGood_125 : decode cX11_isGood 125 = .ok (.aload_n 0, 1) := by decide +kernel
theorem dX11_isGood_126 : decode cX11_isGood 126 = .ok (.getfield 49, 3) := by decide +kernel
theorem dX11_isGood_129 : decode cX11_isGood 129 = .ok (.aload_n 0, 1) := by decide +kernel
theorem dX11_isGood_130 : decode cX11_isGood 130 = .ok (.getfield 109, 3) := by decide +kernel
theorem dX11_isGood_133 : decode cX11_isGood 133 = .ok (.iload_n 3, 1) := by decide +kernel
theorem dX11_isGood_134 : decode cX11_isGood 134 = .ok (.iaload, 1) := by decide +kernel
theorem dX11_isGood_135 : decode cX11_isGood 135 = .ok (.iaload, 1) := by decide +kernel
theorem dX11_isGood_136 : decode cX11_isGood 136 = .ok (.if_icmp .ne 28, 3) := by decide +kernel
theorem dX11_isGood_139 : decode cX11_isGood 139 = .ok (.aload_n 0, 1) := by decide +kernel
theorem dX11_isGood_140 : decode cX11_isGood 140 = .ok (.aload_n 0, 1) := by decide +kernel
theorem dX11_isGood_141 : decode cX11_isGood 141 = .ok (.getfield 124, 3) := by decide +kernel
theorem dX11_isGood_144 : decode cX11_isGood 144 = .ok (.iload 4, 2) := by decide +kernel
theorem dX11_isGood_146 : decode cX11_isGood 146 = .ok (.iaload, 1) := by decide +kernel
theorem dX11_isGood_147 : decode cX11_isGood 147 = .ok (.aload_n 0, 1) := by decide +kernel
theorem dX11_isGood_148 : decode cX11_isGood 148 = .ok (.getfield 124, 3) := by decide +kernel
theorem dX11_isGood_151 : decode cX11_isGood 151 = .ok (.iload_n 3, 1) := by decide +kernel
theorem dX11_isGood_152 : decode cX11_isGood 152 = .ok (.iaload, 1) := by decide +kernel
theorem dX11_isGood_153 : decode cX11_isGood 153 = .ok (.invokevirtual 157, 3) := by decide +kernel
theorem dX11_isGood_156 : decode cX11_isGood 156 = .ok (.iload_n 2, 1) := by decide +kernel
theorem dX11_isGood_157 : decode cX11_isGood 157 = .ok (.iload_n 2, 1) := by decide +kernel
theorem dX11_isGood_158 : decode cX11_isGood 158 = .ok (.imul, 1) := by decide +kernel
theorem dX11_isGood_159 : decode cX11_isGood 159 = .ok (.if_icmp .ge 5, 3) := by decide +kernel
theorem dX11_isGood_162 : decode cX11_isGood 162 = .ok (.iconst 0, 1) := by decide +kernel
theorem dX11_isGood_163 : decode cX11_isGood 163 = .ok (.ireturn, 1) := by decide +kernel
theorem dX11_isGood_164 : decode cX11_isGood 164 = .ok (.iinc 4 1, 3) := by decide +kernel
theorem dX11_isGood_167 : decode cX11_isGood 167 = .ok (.goto (-99), 3) := by decide +kernel
theorem dX11_isGood_170 : decode cX11_isGood 170 = .ok (.iinc 3 1, 3) := by decide +kernel
theorem dX11_isGood_173 : decode cX11_isGood 173 = .ok (.goto (-155), 3) := by decide +kernel
theorem dX11_isGood_176 : decode cX11_isGood 176 = .ok (.iconst 1, 1) := by decide +kernel
theorem dX11_isGood_177 : decode cX11_isGood 177 = .ok (.ireturn, 1) := by decide +kernel
theorem dX11_findPlan_0 : decode cX11_findPlan 0 = .ok (.bipush 6, 2) := by decide +kernel
theorem dX11_findPlan_2 : decode cX11_findPlan 2 = .ok (.aload_n 0, 1) := by decide +kernel
theorem dX11_findPlan_3 : decode cX11_findPlan 3 = .ok (.getfield 130, 3) := by decide +kernel
theorem dX11_findPlan_6 : decode cX11_findPlan 6 = .ok (.invokestatic 144, 3) := by decide +kernel
theorem dX11_findPlan_9 : decode cX11_findPlan 9 = .ok (.istore_n 1, 1) := by decide +kernel
theorem dX11_findPlan_10 : decode cX11_findPlan 10 = .ok (.iconst (-1), 1) := by decide +kernel
theorem dX11_findPlan_11 : decode cX11_findPlan 11 = .ok (.istore_n 2, 1) := by decide +kernel
theorem dX11_findPlan_12 : decode cX11_findPlan 12 = .ok (.iconst 1, 1) := by decide +kernel
theorem dX11_findPlan_13 : decode cX11_findPlan 13 = .ok (.istore_n 3, 1) := by decide +kernel
theorem dX11_findPlan_14 : decode cX11_findPlan 14 = .ok (.iconst 0, 1) := by decide +kernel
theorem dX11_findPlan_15 : decode cX11_findPlan 15 = .ok (.istore 4, 2) := by decide +kernel
theorem dX11_findPlan_17 : decode cX11_findPlan 17 = .ok (.iload 4, 2) := by decide +kernel
theorem dX11_findPlan_19 : decode cX11_findPlan 19 = .ok (.aload_n 0, 1) := by decide +kernel
theorem dX11_findPlan_20 : decode cX11_findPlan 20 = .ok (.getfield 235, 3) := by decide +kernel
theorem dX11_findPlan_23 : decode cX11_findPlan 23 = .ok (.if_icmp .ge 15, 3) := by decide +kernel
theorem dX11_findPlan_26 : decode cX11_findPlan 26 = .ok (.iload_n 3, 1) := by decide +kernel
theorem dX11_findPlan_27 : decode cX11_findPlan 27 = .ok (.iload_n 1, 1) := by decide +kernel
theorem dX11_findPlan_28 : decode cX11_findPlan 28 = .ok (.iconst 1, 1) := by decide +kernel
theorem dX11_findPlan_29 : decode cX11_findPlan 29 = .ok (.iadd, 1) := by decide +kernel
theorem dX11_findPlan_30 : decode cX11_findPlan 30 = .ok (.imul, 1) := by decide +kernel
theorem dX11_findPlan_31 : decode cX11_findPlan 31 = .ok (.istore_n 3, 1) := by decide +kernel
theorem dX11_findPlan_32 : decode cX11_findPlan 32 = .ok (.iinc 4 1, 3) := by decide +kernel
theorem dX11_findPlan_35 : decode cX11_findPlan 35 = .ok (.goto (-18), 3) := by decide +kernel
theorem dX11_findPlan_38 : decode cX11_findPlan 38 = .ok (.iconst 0, 1) := by decide +kernel
theorem dX11_findPlan_39 : decode cX11_findPlan 39 = .ok (.istore 4, 2) := by decide +kernel
theorem dX11_findPlan_41 : decode cX11_findPlan 41 = .ok (.iload 4, 2) := by decide +kernel
theorem dX11_findPlan_43 : decode cX11_findPlan 43 = .ok (.iload_n 3, 1) := by decide +kernel
theorem dX11_findPlan_44 : decode cX11_findPlan 44 = .ok (.if_icmp .ge 141, 3) := by decide +kernel
theorem dX11_findPlan_47 : decode cX11_findPlan 47 = .ok (.iload 4, 2) := by decide +kernel
theorem dX11_findPlan_49 : decode cX11_findPlan 49 = .ok (.istore 5, 2) := by decide +kernel
theorem dX11_findPlan_51 : decode cX11_findPlan 51 = .ok (.iconst 0, 1) := by decide +kernel
theorem dX11_findPlan_52 : decode cX11_findPlan 52 = .ok (.istore 6, 2) := by decide +kernel
theorem dX11_findPlan_54 : decode cX11_findPlan 54 = .ok (.aload_n 0, 1) := by decide +kernel
theorem dX11_findPlan_55 : decode cX11_findPlan 55 = .ok (.getfield 235, 3) := by decide +kernel
theorem dX11_findPlan_58 : decode cX11_findPlan 58 = .ok (.iconst 1, 1) := by decide +kernel
theorem dX11_findPlan_59 : decode cX11_findPlan 59 = .ok (.isub, 1) := by decide +kernel
theorem dX11_findPlan_60 : decode cX11_findPlan 60 = .ok (.istore 7, 2) := by decide +kernel
theorem dX11_findPlan_62 : decode cX11_findPlan 62 = .ok (.iload 7, 2) := by decide +kernel
theorem dX11_findPlan_64 : decode cX11_findPlan 64 = .ok (.ifCond .lt 51, 3) := by decide +kernel
theorem dX11_findPlan_67 : decode cX11_findPlan 67 = .ok (.aload_n 0, 1) := by decide +kernel
theorem dX11_findPlan_68 : decode cX11_findPlan 68 = .ok (.getfield 124, 3) := by decide +kernel
theorem dX11_findPlan_71 : decode cX11_findPlan 71 = .ok (.iload 7, 2) := by decide +kernel
theorem dX11_findPlan_73 : decode cX11_findPlan 73 = .ok (.iload 5, 2) := by decide +kernel
theorem dX11_findPlan_75 : decode cX11_findPlan 75 = .ok (.iload_n 1, 1) := by decide +kernel
theorem dX11_findPlan_76 : decode cX11_findPlan 76 = .ok (.iconst 1, 1) := by decide +kernel
theorem dX11_findPlan_77 : decode cX11_findPlan 77 = .ok (.iadd, 1) := by decide +kernel
theorem dX11_findPlan_78 : decode cX11_findPlan 78 = .ok (.irem, 1) := by decide +kernel
theorem dX11_findPlan_79 : decode cX11_findPlan 79 = .ok (.iastore, 1) := by decide +kernel
theorem dX11_findPlan_80 : decode cX11_findPlan 80 = .ok (.iload 5, 2) := by decide +kernel
theorem dX11_findPlan_82 : decode cX11_findPlan 82 = .ok (.iload_n 1, 1) := by decide +kernel
theorem dX11_findPlan_83 : decode cX11_findPlan 83 = .ok (.iconst 1, 1) := by decide +kernel
theorem dX11_findPlan_84 : decode cX11_findPlan 84 = .ok (.iadd, 1) := by decide +kernel
theorem dX11_findPlan_85 : decode cX11_findPlan 85 = .ok (.idiv, 1) := by decide +kernel
theorem dX11_findPlan_86 : decode cX11_findPlan 86 = .ok (.istore 5, 2) := by decide +kernel
theorem dX11_findPlan_88 : decode cX11_findPlan 88 = .ok (.iload 6, 2) := by decide +kernel
theorem dX11_findPlan_90 : decode cX11_findPlan 90 = .ok (.aload_n 0, 1) := by decide +kernel
theorem dX11_findPlan_91 : decode cX11_findPlan 91 = .ok (.getfield 124, 3) := by decide +kernel
theorem dX11_findPlan_94 : decode cX11_findPlan 94 = .ok (.iload 7, 2) := by decide +kernel
theorem dX11_findPlan_96 : decode cX11_findPlan 96 = .ok (.iaload, 1) := by decide +kernel
theorem dX11_findPlan_97 : decode cX11_findPlan 97 = .ok (.iload_n 1, 1) := by decide +kernel
theorem dX11_findPlan_98 : decode cX11_findPlan 98 = .ok (.if_icmp .ge 7, 3) := by decide +kernel
theorem dX11_findPlan_101 : decode cX11_findPlan 101 = .ok (.iconst 1, 1) := by decide +kernel
theorem dX11_findPlan_102 : decode cX11_findPlan 102 = .ok (.goto 4, 3) := by decide +kernel
theorem dX11_findPlan_105 : decode cX11_findPlan 105 = .ok (.iconst 0, 1) := by decide +kernel
theorem dX11_findPlan_106 : decode cX11_findPlan 106 = .ok (.iadd, 1) := by decide +kernel
theorem dX11_findPlan_107 : decode cX11_findPlan 107 = .ok (.istore 6, 2) := by decide +kernel
theorem dX11_findPlan_109 : decode cX11_findPlan 109 = .ok (.iinc 7 (-1), 3) := by decide +kernel
theorem dX11_findPlan_112 : decode cX11_findPlan 112 = .ok (.goto (-50), 3) := by decide +kernel
theorem dX11_findPlan_115 : decode cX11_findPlan 115 = .ok (.iload 6, 2) := by decide +kernel
theorem dX11_findPlan_117 : decode cX11_findPlan 117 = .ok (.iload_n 2, 1) := by decide +kernel
theorem dX11_findPlan_118 : decode cX11_findPlan 118 = .ok (.if_icmp .le 61, 3) := by decide +kernel
theorem dX11_findPlan_121 : decode cX11_findPlan 121 = .ok (.aload_n 0, 1) := by decide +kernel
theorem dX11_findPlan_122 : decode cX11_findPlan 122 = .ok (.iload_n 1, 1) := by decide +kernel
theorem dX11_findPlan_123 : decode cX11_findPlan 123 = .ok (.invokevirtual 241, 3) := by decide +kernel
theorem dX11_findPlan_126 : decode cX11_findPlan 126 = .ok (.ifCond .eq 53, 3) := by decide +kernel
theorem dX11_findPlan_129 : decode cX11_findPlan 129 = .ok (.iload 6, 2) := by decide +kernel
theorem dX11_findPlan_131 : decode cX11_findPlan 131 = .ok (.istore_n 2, 1) := by decide +kernel
theorem dX11_findPlan_132 : decode cX11_findPlan 132 = .ok (.iconst 0, 1) := by decide +kernel
theorem dX11_findPlan_133 : decode cX11_findPlan 133 = .ok (.istore 7, 2) := by decide +kernel
theorem dX11_findPlan_135 : decode cX11_findPlan 135 = .ok (.iload 7, 2) := by decide +kernel
theorem dX11_findPlan_137 : decode cX11_findPlan 137 = .ok (.aload_n 0, 1) := by decide +kernel
theorem dX11_findPlan_138 : decode cX11_findPlan 138 = .ok (.getfield 235, 3) := by decide +kernel
theorem dX11_findPlan_141 : decode cX11_findPlan 141 = .ok (.if_icmp .ge 38, 3) := by decide +kernel
theorem dX11_findPlan_144 : decode cX11_findPlan 144 = .ok (.aload_n 0, 1) := by decide +kernel
theorem dX11_findPlan_145 : decode cX11_findPlan 145 = .ok (.getfield 127, 3) := by decide +kernel
theorem dX11_findPlan_148 : decode cX11_findPlan 148 = .ok (.iload 7, 2) := by decide +kernel
theorem dX11_findPlan_150 : decode cX11_findPlan 150 = .ok (.aload_n 0, 1) := by decide +kernel
theorem dX11_findPlan_151 : decode cX11_findPlan 151 = .ok (.getfield 124, 3) := by decide +kernel
theorem dX11_findPlan_154 : decode cX11_findPlan 154 = .ok (.iload 7, 2) := by decide +kernel
theorem dX11_findPlan_156 : decode cX11_findPlan 156 = .ok (.iaload, 1) := by decide +kernel
theorem dX11_findPlan_157 : decode cX11_findPlan 157 = .ok (.iload_n 1, 1) := by decide +kernel
theorem dX11_findPlan_158 : decode cX11_findPlan 158 = .ok (.if_icmp .ge 13, 3) := by decide +kernel
theorem dX11_findPlan_161 : decode cX11_findPlan 161 = .ok (.aload_n 0, 1) := by decide +kernel
theorem dX11_findPlan_162 : decode cX11_findPlan 162 = .ok (.getfield 124, 3) := by decide +kernel
theorem dX11_findPlan_165 : decode cX11_findPlan 165 = .ok (.iload 7, 2) := by decide +kernel
theorem dX11_findPlan_167 : decode cX11_findPlan 167 = .ok (.iaload, 1) := by decide +kernel
theorem dX11_findPlan_168 : decode cX11_findPlan 168 = .ok (.goto 4, 3) := by decide +kernel
theorem dX11_findPlan_171 : decode cX11_findPlan 171 = .ok (.iconst (-1), 1) := by decide +kernel
theorem dX11_findPlan_172 : decode cX11_findPlan 172 = .ok (.iastore, 1) := by decide +kernel
theorem dX11_findPlan_173 : decode cX11_findPlan 173 = .ok (.iinc 7 1, 3) := by decide +kernel
theorem dX11_findPlan_176 : decode cX11_findPlan 176 = .ok (.goto (-41), 3) := by decide +kernel
theorem dX11_findPlan_179 : decode cX11_findPlan 179 = .ok (.iinc 4 1, 3) := by decide +kernel
theorem dX11_findPlan_182 : decode cX11_findPlan 182 = .ok (.goto (-141), 3) := by decide +kernel
theorem dX11_findPlan_185 : decode cX11_findPlan 185 = .ok (.return_, 1) := by decide +kernel
theorem dX11_plan_0 : decode cX11_plan 0 = .ok (.iload_n 1, 1) := by decide +kernel
theorem dX11_plan_1 : decode cX11_plan 1 = .ok (.iconst 0, 1) := by decide +kernel
theorem dX11_plan_2 : decode cX11_plan 2 = .ok (.aload_n 0, 1) := by decide +kernel
theorem dX11_plan_3 : decode cX11_plan 3 = .ok (.getfield 235, 3) := by decide +kernel
theorem dX11_plan_6 : decode cX11_plan 6 = .ok (.iconst 1, 1) := by decide +kernel
theorem dX11_plan_7 : decode cX11_plan 7 = .ok (.isub, 1) := by decide +kernel
theorem dX11_plan_8 : decode cX11_plan 8 = .ok (.invokestatic 134, 3) := by decide +kernel
theorem dX11_plan_11 : decode cX11_plan 11 = .ok (.ifCond .ne 5, 3) := by decide +kernel
theorem dX11_plan_14 : decode cX11_plan 14 = .ok (.iconst (-1), 1) := by decide +kernel
theorem dX11_plan_15 : decode cX11_plan 15 = .ok (.ireturn, 1) := by decide +kernel
theorem dX11_plan_16 : decode cX11_plan 16 = .ok (.aload_n 0, 1) := by decide +kernel
theorem dX11_plan_17 : decode cX11_plan 17 = .ok (.invokevirtual 244, 3) := by decide +kernel
theorem dX11_plan_20 : decode cX11_plan 20 = .ok (.aload_n 0, 1) := by decide +kernel
theorem dX11_plan_21 : decode cX11_plan 21 = .ok (.getfield 127, 3) := by decide +kernel
theorem dX11_plan_24 : decode cX11_plan 24 = .ok (.iload_n 1, 1) := by decide +kernel
theorem dX11_plan_25 : decode cX11_plan 25 = .ok (.iaload, 1) := by decide +kernel
theorem dX11_plan_26 : decode cX11_plan 26 = .ok (.ireturn, 1) := by decide +kernel
theorem dX11_told_0 : decode cX11_told 0 = .ok (.aload_n 0, 1) := by decide +kernel
theorem dX11_told_1 : decode cX11_told 1 = .ok (.iload_n 1, 1) := by decide +kernel
theorem dX11_told_2 : decode cX11_told 2 = .ok (.invokevirtual 186, 3) := by decide +kernel
theorem dX11_told_5 : decode cX11_told 5 = .ok (.ifCond .ne 5, 3) := by decide +kernel
theorem dX11_told_8 : decode cX11_told 8 = .ok (.iconst (-1), 1) := by decide +kernel
theorem dX11_told_9 : decode cX11_told 9 = .ok (.ireturn, 1) := by decide +kernel
theorem dX11_told_10 : decode cX11_told 10 = .ok (.iload_n 2, 1) := by decide +kernel
theorem dX11_told_11 : decode cX11_told 11 = .ok (.tableswitch 170 0 13 #[69, 76, 83, 90, 97, 104, 111, 118, 125, 132, 139, 146, 153, 163], 69) := by decide +kernel
theorem dX11_told_80 : decode cX11_told 80 = .ok (.aload_n 0, 1) := by decide +kernel
theorem dX11_told_81 : decode cX11_told 81 = .ok (.getfield 46, 3) := by decide +kernel
theorem dX11_told_84 : decode cX11_told 84 = .ok (.iload_n 1, 1) := by decide +kernel
theorem dX11_told_85 : decode cX11_told 85 = .ok (.iaload, 1) := by decide +kernel
theorem dX11_told_86 : decode cX11_told 86 = .ok (.ireturn, 1) := by decide +kernel
theorem dX11_told_87 : decode cX11_told 87 = .ok (.aload_n 0, 1) := by decide +kernel
theorem dX11_told_88 : decode cX11_told 88 = .ok (.getfield 49, 3) := by decide +kernel
theorem dX11_told_91 : decode cX11_told 91 = .ok (.iload_n 1, 1) := by decide +kernel
theorem dX11_told_92 : decode cX11_told 92 = .ok (.iaload, 1) := by decide +kernel
theorem dX11_told_93 : decode cX11_told 93 = .ok (.ireturn, 1) := by decide +kernel
theorem dX11_told_94 : decode cX11_told 94 = .ok (.aload_n 0, 1) := by decide +kernel
theorem dX11_told_95 : decode cX11_told 95 = .ok (.getfield 52, 3) := by decide +kernel
theorem dX11_told_98 : decode cX11_told 98 = .ok (.iload_n 1, 1) := by decide +kernel
theorem dX11_told_99 : decode cX11_told 99 = .ok (.iaload, 1) := by decide +kernel
theorem dX11_told_100 : decode cX11_told 100 = .ok (.ireturn, 1) := by decide +kernel
theorem dX11_told_101 : decode cX11_told 101 = .ok (.aload_n 0, 1) := by decide +kernel
theorem dX11_told_102 : decode cX11_told 102 = .ok (.getfield 55, 3) := by decide +kernel
theorem dX11_told_105 : decode cX11_told 105 = .ok (.iload_n 1, 1) := by decide +kernel
theorem dX11_told_106 : decode cX11_told 106 = .ok (.iaload, 1) := by decide +kernel
theorem dX11_told_107 : decode cX11_told 107 = .ok (.ireturn, 1) := by decide +kernel
theorem dX11_told_108 : decode cX11_told 108 = .ok (.aload_n 0, 1) := by decide +kernel
theorem dX11_told_109 : decode cX11_told 109 = .ok (.getfield 58, 3) := by decide +kernel
theorem dX11_told_112 : decode cX11_told 112 = .ok (.iload_n 1, 1) := by decide +kernel
theorem dX11_told_113 : decode cX11_told 113 = .ok (.iaload, 1) := by decide +kernel
theorem dX11_told_114 : decode cX11_told 114 = .ok (.ireturn, 1) := by decide +kernel
theorem dX11_told_115 : decode cX11_told 115 = .ok (.aload_n 0, 1) := by decide +kernel
theorem dX11_told_116 : decode cX11_told 116 = .ok (.getfield 61, 3) := by decide +kernel
theorem dX11_told_119 : decode cX11_told 119 = .ok (.iload_n 1, 1) := by decide +kernel
theorem dX11_told_120 : decode cX11_told 120 = .ok (.iaload, 1) := by decide +kernel
theorem dX11_told_121 : decode cX11_told 121 = .ok (.ireturn, 1) := by decide +kernel
theorem dX11_told_122 : decode cX11_told 122 = .ok (.aload_n 0, 1) := by decide +kernel
theorem dX11_told_123 : decode cX11_told 123 = .ok (.getfield 64, 3) := by decide +kernel
theorem dX11_told_126 : decode cX11_told 126 = .ok (.iload_n 1, 1) := by decide +kernel
theorem dX11_told_127 : decode cX11_told 127 = .ok (.iaload, 1) := by decide +kernel
theorem dX11_told_128 : decode cX11_told 128 = .ok (.ireturn, 1) := by decide +kernel
theorem dX11_told_129 : decode cX11_told 129 = .ok (.aload_n 0, 1) := by decide +kernel
theorem dX11_told_130 : decode cX11_told 130 = .ok (.getfield 67, 3) := by decide +kernel
theorem dX11_told_133 : decode cX11_told 133 = .ok (.iload_n 1, 1) := by decide +kernel
theorem dX11_told_134 : decode cX11_told 134 = .ok (.iaload, 1) := by decide +kernel
theorem dX11_told_135 : decode cX11_told 135 = .ok (.ireturn, 1) := by decide +kernel
theorem dX11_told_136 : decode cX11_told 136 = .ok (.aload_n 0, 1) := by decide +kernel
theorem dX11_told_137 : decode cX11_told 137 = .ok (.getfield 70, 3) := by decide +kernel
theorem dX11_told_140 : decode cX11_told 140 = .ok (.iload_n 1, 1) := by decide +kernel
theorem dX11_told_141 : decode cX11_told 141 = .ok (.iaload, 1) := by decide +kernel
theorem dX11_told_142 : decode cX11_told 142 = .ok (.ireturn, 1) := by decide +kernel
theorem dX11_told_143 : decode cX11_told 143 = .ok (.aload_n 0, 1) := by decide +kernel
theorem dX11_told_144 : decode cX11_told 144 = .ok (.getfield 73, 3) := by decide +kernel
theorem dX11_told_147 : decode cX11_told 147 = .ok (.iload_n 1, 1) := by decide +kernel
theorem dX11_told_148 : decode cX11_told 148 = .ok (.iaload, 1) := by decide +kernel
theorem dX11_told_149 : decode cX11_told 149 = .ok (.ireturn, 1) := by decide +kernel
theorem dX11_told_150 : decode cX11_told 150 = .ok (.aload_n 0, 1) := by decide +kernel
theorem dX11_told_151 : decode cX11_told 151 = .ok (.getfield 76, 3) := by decide +kernel
theorem dX11_told_154 : decode cX11_told 154 = .ok (.iload_n 1, 1) := by decide +kernel
theorem dX11_told_155 : decode cX11_told 155 = .ok (.iaload, 1) := by decide +kernel
theorem dX11_told_156 : decode cX11_told 156 = .ok (.ireturn, 1) := by decide +kernel
theorem dX11_told_157 : decode cX11_told 157 = .ok (.aload_n 0, 1) := by decide +kernel
theorem dX11_told_158 : decode cX11_told 158 = .ok (.getfield 79, 3) := by decide +kernel
theorem dX11_told_161 : decode cX11_told 161 = .ok (.iload_n 1, 1) := by decide +kernel
theorem dX11_told_162 : decode cX11_told 162 = .ok (.iaload, 1) := by decide +kernel
theorem dX11_told_163 : decode cX11_told 163 = .ok (.ireturn, 1) := by decide +kernel
theorem dX11_told_164 : decode cX11_told 164 = .ok (.aload_n 0, 1) := by decide +kernel
theorem dX11_told_165 : decode cX11_told 165 = .ok (.iload_n 1, 1) := by decide +kernel
theorem dX11_told_166 : decode cX11_told 166 = .ok (.aload_n 0, 1) := by decide +kernel
theorem dX11_told_167 : decode cX11_told 167 = .ok (.getfield 141, 3) := by decide +kernel
theorem dX11_told_170 : decode cX11_told 170 = .ok (.invokevirtual 205, 3) := by decide +kernel
theorem dX11_told_173 : decode cX11_told 173 = .ok (.ireturn, 1) := by decide +kernel
theorem dX11_told_174 : decode cX11_told 174 = .ok (.aload_n 0, 1) := by decide +kernel
theorem dX11_told_175 : decode cX11_told 175 = .ok (.getfield 82, 3) := by decide +kernel
theorem dX11_told_178 : decode cX11_told 178 = .ok (.iload_n 1, 1) := by decide +kernel
theorem dX11_told_179 : decode cX11_told 179 = .ok (.iaload, 1) := by decide +kernel
theorem dX11_told_180 : decode cX11_told 180 = .ok (.ireturn, 1) := by decide +kernel
theorem dX11_told_181 : decode cX11_told 181 = .ok (.iconst (-1), 1) := by decide +kernel
theorem dX11_told_182 : decode cX11_told 182 = .ok (.ireturn, 1) := by decide +kernel
theorem dX11_sack_0 : decode cX11_sack 0 = .ok (.aload_n 0, 1) := by decide +kernel
theorem dX11_sack_1 : decode cX11_sack 1 = .ok (.iload_n 1, 1) := by decide +kernel
theorem dX11_sack_2 : decode cX11_sack 2 = .ok (.invokevirtual 199, 3) := by decide +kernel
theorem dX11_sack_5 : decode cX11_sack 5 = .ok (.ifCond .ne 5, 3) := by decide +kernel
theorem dX11_sack_8 : decode cX11_sack 8 = .ok (.iconst (-1), 1) := by decide +kernel
theorem dX11_sack_9 : decode cX11_sack 9 = .ok (.ireturn, 1) := by decide +kernel
theorem dX11_sack_10 : decode cX11_sack 10 = .ok (.iload_n 2, 1) := by decide +kernel
theorem dX11_sack_11 : decode cX11_sack 11 = .ok (.ifCond .ne 12, 3) := by decide +kernel
theorem dX11_sack_14 : decode cX11_sack 14 = .ok (.aload_n 0, 1) := by decide +kernel
theorem dX11_sack_15 : decode cX11_sack 15 = .ok (.getfield 97, 3) := by decide +kernel
theorem dX11_sack_18 : decode cX11_sack 18 = .ok (.iload_n 1, 1) := by decide +kernel
theorem dX11_sack_19 : decode cX11_sack 19 = .ok (.iaload, 1) := by decide +kernel
theorem dX11_sack_20 : decode cX11_sack 20 = .ok (.goto 46, 3) := by decide +kernel
theorem dX11_sack_23 : decode cX11_sack 23 = .ok (.iload_n 2, 1) := by decide +kernel
theorem dX11_sack_24 : decode cX11_sack 24 = .ok (.iconst 1, 1) := by decide +kernel
theorem dX11_sack_25 : decode cX11_sack 25 = .ok (.if_icmp .ne 12, 3) := by decide +kernel
theorem dX11_sack_28 : decode cX11_sack 28 = .ok (.aload_n 0, 1) := by decide +kernel
theorem dX11_sack_29 : decode cX11_sack 29 = .ok (.getfield 100, 3) := by decide +kernel
theorem dX11_sack_32 : decode cX11_sack 32 = .ok (.iload_n 1, 1) := by decide +kernel
theorem dX11_sack_33 : decode cX11_sack 33 = .ok (.iaload, 1) := by decide +kernel
theorem dX11_sack_34 : decode cX11_sack 34 = .ok (.goto 32, 3) := by decide +kernel
theorem dX11_sack_37 : decode cX11_sack 37 = .ok (.iload_n 2, 1) := by decide +kernel
theorem dX11_sack_38 : decode cX11_sack 38 = .ok (.iconst 2, 1) := by decide +kernel
theorem dX11_sack_39 : decode cX11_sack 39 = .ok (.if_icmp .ne 12, 3) := by decide +kernel
theorem dX11_sack_42 : decode cX11_sack 42 = .ok (.aload_n 0, 1) := by decide +kernel
theorem dX11_sack_43 : decode cX11_sack 43 = .ok (.getfield 103, 3) := by decide +kernel
theorem dX11_sack_46 : decode cX11_sack 46 = .ok (.iload_n 1, 1) := by decide +kernel
theorem dX11_sack_47 : decode cX11_sack 47 = .ok (.iaload, 1) := by decide +kernel
theorem dX11_sack_48 : decode cX11_sack 48 = .ok (.goto 18, 3) := by decide +kernel
theorem dX11_sack_51 : decode cX11_sack 51 = .ok (.iload_n 2, 1) := by decide +kernel
theorem dX11_sack_52 : decode cX11_sack 52 = .ok (.iconst 3, 1) := by decide +kernel
theorem dX11_sack_53 : decode cX11_sack 53 = .ok (.if_icmp .ne 12, 3) := by decide +kernel
theorem dX11_sack_56 : decode cX11_sack 56 = .ok (.aload_n 0, 1) := by decide +kernel
theorem dX11_sack_57 : decode cX11_sack 57 = .ok (.getfield 106, 3) := by decide +kernel
theorem dX11_sack_60 : decode cX11_sack 60 = .ok (.iload_n 1, 1) := by decide +kernel
theorem dX11_sack_61 : decode cX11_sack 61 = .ok (.iaload, 1) := by decide +kernel
theorem dX11_sack_62 : decode cX11_sack 62 = .ok (.goto 4, 3) := by decide +kernel
theorem dX11_sack_65 : decode cX11_sack 65 = .ok (.iconst (-1), 1) := by decide +kernel
theorem dX11_sack_66 : decode cX11_sack 66 = .ok (.ireturn, 1) := by decide +kernel
theorem dX11_outs_0 : decode cX11_outs 0 = .ok (.iconst 0, 1) := by decide +kernel
theorem dX11_outs_1 : decode cX11_outs 1 = .ok (.istore_n 1, 1) := by decide +kernel
theorem dX11_outs_2 : decode cX11_outs 2 = .ok (.aload_n 0, 1) := by decide +kernel
theorem dX11_outs_3 : decode cX11_outs 3 = .ok (.iconst 0, 1) := by decide +kernel
theorem dX11_outs_4 : decode cX11_outs 4 = .ok (.aload_n 0, 1) := by decide +kernel
theorem dX11_outs_5 : decode cX11_outs 5 = .ok (.getfield 141, 3) := by decide +kernel
theorem dX11_outs_8 : decode cX11_outs 8 = .ok (.invokevirtual 193, 3) := by decide +kernel
theorem dX11_outs_11 : decode cX11_outs 11 = .ok (.pop, 1) := by decide +kernel
theorem dX11_outs_12 : decode cX11_outs 12 = .ok (.iconst 0, 1) := by decide +kernel
theorem dX11_outs_13 : decode cX11_outs 13 = .ok (.istore_n 2, 1) := by decide +kernel
theorem dX11_outs_14 : decode cX11_outs 14 = .ok (.iload_n 2, 1) := by decide +kernel
theorem dX11_outs_15 : decode cX11_outs 15 = .ok (.aload_n 0, 1) := by decide +kernel
theorem dX11_outs_16 : decode cX11_outs 16 = .ok (.getfield 138, 3) := by decide +kernel
theorem dX11_outs_19 : decode cX11_outs 19 = .ok (.if_icmp .ge 28, 3) := by decide +kernel
theorem dX11_outs_22 : decode cX11_outs 22 = .ok (.iload_n 1, 1) := by decide +kernel
theorem dX11_outs_23 : decode cX11_outs 23 = .ok (.aload_n 0, 1) := by decide +kernel
theorem dX11_outs_24 : decode cX11_outs 24 = .ok (.getfield 115, 3) := by decide +kernel
theorem dX11_outs_27 : decode cX11_outs 27 = .ok (.iload_n 2, 1) := by decide +kernel
theorem dX11_outs_28 : decode cX11_outs 28 = .ok (.iaload, 1) := by decide +kernel
theorem dX11_outs_29 : decode cX11_outs 29 = .ok (.bipush 9, 2) := by decide +kernel
theorem dX11_outs_31 : decode cX11_outs 31 = .ok (.if_icmp .ne 7, 3) := by decide +kernel
theorem dX11_outs_34 : decode cX11_outs 34 = .ok (.iconst 1, 1) := by decide +kernel
theorem dX11_outs_35 : decode cX11_outs 35 = .ok (.goto 4, 3) := by decide +kernel
theorem dX11_outs_38 : decode cX11_outs 38 = .ok (.iconst 0, 1) := by decide +kernel
theorem dX11_outs_39 : decode cX11_outs 39 = .ok (.iadd, 1) := by decide +kernel
theorem dX11_outs_40 : decode cX11_outs 40 = .ok (.istore_n 1, 1) := by decide +kernel
theorem dX11_outs_41 : decode cX11_outs 41 = .ok (.iinc 2 1, 3) := by decide +kernel
theorem dX11_outs_44 : decode cX11_outs 44 = .ok (.goto (-30), 3) := by decide +kernel
theorem dX11_outs_47 : decode cX11_outs 47 = .ok (.iload_n 1, 1) := by decide +kernel
theorem dX11_outs_48 : decode cX11_outs 48 = .ok (.ireturn, 1) := by decide +kernel
theorem dX11_count_0 : decode cX11_count 0 = .ok (.iload_n 1, 1) := by decide +kernel
theorem dX11_count_1 : decode cX11_count 1 = .ok (.tableswitch 96 0 8 #[51, 56, 61, 66, 71, 76, 81, 86, 91], 51) := by decide +kernel
theorem dX11_count_52 : decode cX11_count 52 = .ok (.aload_n 0, 1) := by decide +kernel
theorem dX11_count_53 : decode cX11_count 53 = .ok (.getfield 141, 3) := by decide +kernel
theorem dX11_count_56 : decode cX11_count 56 = .ok (.ireturn, 1) := by decide +kernel
theorem dX11_count_57 : decode cX11_count 57 = .ok (.aload_n 0, 1) := by decide +kernel
theorem dX11_count_58 : decode cX11_count 58 = .ok (.getfield 130, 3) := by decide +kernel
theorem dX11_count_61 : decode cX11_count 61 = .ok (.ireturn, 1) := by decide +kernel
theorem dX11_count_62 : decode cX11_count 62 = .ok (.aload_n 0, 1) := by decide +kernel
theorem dX11_count_63 : decode cX11_count 63 = .ok (.getfield 138, 3) := by decide +kernel
theorem dX11_count_66 : decode cX11_count 66 = .ok (.ireturn, 1) := by decide +kernel
theorem dX11_count_67 : decode cX11_count 67 = .ok (.aload_n 0, 1) := by decide +kernel
theorem dX11_count_68 : decode cX11_count 68 = .ok (.getfield 190, 3) := by decide +kernel
theorem dX11_count_71 : decode cX11_count 71 = .ok (.ireturn, 1) := by decide +kernel
theorem dX11_count_72 : decode cX11_count 72 = .ok (.aload_n 0, 1) := by decide +kernel
theorem dX11_count_73 : decode cX11_count 73 = .ok (.getfield 196, 3) := by decide +kernel
theorem dX11_count_76 : decode cX11_count 76 = .ok (.ireturn, 1) := by decide +kernel
theorem dX11_count_77 : decode cX11_count 77 = .ok (.aload_n 0, 1) := by decide +kernel
theorem dX11_count_78 : decode cX11_count 78 = .ok (.getfield 177, 3) := by decide +kernel
theorem dX11_count_81 : decode cX11_count 81 = .ok (.ireturn, 1) := by decide +kernel
theorem dX11_count_82 : decode cX11_count 82 = .ok (.aload_n 0, 1) := by decide +kernel
theorem dX11_count_83 : decode cX11_count 83 = .ok (.getfield 202, 3) := by decide +kernel
theorem dX11_count_86 : decode cX11_count 86 = .ok (.ireturn, 1) := by decide +kernel
theorem dX11_count_87 : decode cX11_count 87 = .ok (.aload_n 0, 1) := by decide +kernel
theorem dX11_count_88 : decode cX11_count 88 = .ok (.invokevirtual 247, 3) := by decide +kernel
theorem dX11_count_91 : decode cX11_count 91 = .ok (.ireturn, 1) := by decide +kernel
theorem dX11_count_92 : decode cX11_count 92 = .ok (.aload_n 0, 1) := by decide +kernel
theorem dX11_count_93 : decode cX11_count 93 = .ok (.getfield 235, 3) := by decide +kernel
theorem dX11_count_96 : decode cX11_count 96 = .ok (.ireturn, 1) := by decide +kernel
theorem dX11_count_97 : decode cX11_count 97 = .ok (.iconst (-1), 1) := by decide +kernel
theorem dX11_count_98 : decode cX11_count 98 = .ok (.ireturn, 1) := by decide +kernel
