theorem dX3_isEndless_57 : decode cX3_isEndless 57 = .ok (.ireturn, 1) := by decide +kernel
theorem dX3_isEndless_58 : decode cX3_isEndless 58 = .ok (.iconst 0, 1) := by decide +kernel
theorem dX3_isEndless_59 : decode cX3_isEndless 59 = .ok (.ireturn, 1) := by decide +kernel
theorem dX4_opposite_0 : decode cX4_opposite 0 = .ok (.new 8, 3) := by decide +kernel
theorem dX4_opposite_3 : decode cX4_opposite 3 = .ok (.dup, 1) := by decide +kernel
theorem dX4_opposite_4 : decode cX4_opposite 4 = .ok (.aload_n 0, 1) := by decide +kernel
theorem dX4_opposite_5 : decode cX4_opposite 5 = .ok (.getfield 7, 3) := by decide +kernel
theorem dX4_opposite_8 : decode cX4_opposite 8 = .ok (.aload_n 0, 1) := by decide +kernel
theorem dX4_opposite_9 : decode cX4_opposite 9 = .ok (.getfield 13, 3) := by decide +kernel
theorem dX4_opposite_12 : decode cX4_opposite 12 = .ok (.aload_n 0, 1) := by decide +kernel
theorem dX4_opposite_13 : decode cX4_opposite 13 = .ok (.getfield 16, 3) := by decide +kernel
theorem dX4_opposite_16 : decode cX4_opposite 16 = .ok (.lconst 1, 1) := by decide +kernel
theorem dX4_opposite_17 : decode cX4_opposite 17 = .ok (.lxor, 1) := by decide +kernel
theorem dX4_opposite_18 : decode cX4_opposite 18 = .ok (.aload_n 0, 1) := by decide +kernel
theorem dX4_opposite_19 : decode cX4_opposite 19 = .ok (.getfield 20, 3) := by decide +kernel
theorem dX4_opposite_22 : decode cX4_opposite 22 = .ok (.aload_n 0, 1) := by decide +kernel
theorem dX4_opposite_23 : decode cX4_opposite 23 = .ok (.getfield 23, 3) := by decide +kernel
theorem dX4_opposite_26 : decode cX4_opposite 26 = .ok (.invokespecial 26, 3) := by decide +kernel
theorem dX4_opposite_29 : decode cX4_opposite 29 = .ok (.areturn, 1) := by decide +kernel
theorem dX2_product_0 : decode cX2_product 0 = .ok (.aload_n 0, 1) := by decide +kernel
theorem dX2_product_1 : decode cX2_product 1 = .ok (.getfield 9, 3) := by decide +kernel
theorem dX2_product_4 : decode cX2_product 4 = .ok (.ifCond .ne 10, 3) := by decide +kernel
theorem dX2_product_7 : decode cX2_product 7 = .ok (.aload_n 1, 1) := by decide +kernel
theorem dX2_product_8 : decode cX2_product 8 = .ok (.getfield 9, 3) := by decide +kernel
theorem dX2_product_11 : decode cX2_product 11 = .ok (.ifCond .eq 7, 3) := by decide +kernel
theorem dX2_product_14 : decode cX2_product 14 = .ok (.invokestatic 15, 3) := by decide +kernel
theorem dX2_product_17 : decode cX2_product 17 = .ok (.areturn, 1) := by decide +kernel
theorem dX2_product_18 : decode cX2_product 18 = .ok (.aload_n 0, 1) := by decide +kernel
theorem dX2_product_19 : decode cX2_product 19 = .ok (.getfield 22, 3) := by decide +kernel
theorem dX2_product_22 : decode cX2_product 22 = .ok (.aload_n 1, 1) := by decide +kernel
theorem dX2_product_23 : decode cX2_product 23 = .ok (.getfield 22, 3) := by decide +kernel
theorem dX2_product_26 : decode cX2_product 26 = .ok (.lxor, 1) := by decide +kernel
theorem dX2_product_27 : decode cX2_product 27 = .ok (.lstore_n 2, 1) := by decide +kernel
theorem dX2_product_28 : decode cX2_product 28 = .ok (.aload_n 0, 1) := by decide +kernel
theorem dX2_product_29 : decode cX2_product 29 = .ok (.getfield 19, 3) := by decide +kernel
theorem dX2_product_32 : decode cX2_product 32 = .ok (.ifCond .ne 10, 3) := by decide +kernel
theorem dX2_product_35 : decode cX2_product 35 = .ok (.aload_n 1, 1) := by decide +kernel
theorem dX2_product_36 : decode cX2_product 36 = .ok (.getfield 19, 3) := by decide +kernel
theorem dX2_product_39 : decode cX2_product 39 = .ok (.ifCond .eq 28, 3) := by decide +kernel
theorem dX2_product_42 : decode cX2_product 42 = .ok (.aload_n 0, 1) := by decide +kernel
theorem dX2_product_43 : decode cX2_product 43 = .ok (.invokevirtual 75, 3) := by decide +kernel
theorem dX2_product_46 : decode cX2_product 46 = .ok (.ifCond .ne 10, 3) := by decide +kernel
theorem dX2_product_49 : decode cX2_product 49 = .ok (.aload_n 1, 1) := by decide +kernel
theorem dX2_product_50 : decode cX2_product 50 = .ok (.invokevirtual 75, 3) := by decide +kernel
theorem dX2_product_53 : decode cX2_product 53 = .ok (.ifCond .eq 9, 3) := by decide +kernel
theorem dX2_product_56 : decode cX2_product 56 = .ok (.invokestatic 15, 3) := by decide +kernel
theorem dX2_product_59 : decode cX2_product 59 = .ok (.goto 7, 3) := by decide +kernel
theorem dX2_product_62 : decode cX2_product 62 = .ok (.lload_n 2, 1) := by decide +kernel
theorem dX2_product_63 : decode cX2_product 63 = .ok (.invokestatic 79, 3) := by decide +kernel
theorem dX2_product_66 : decode cX2_product 66 = .ok (.areturn, 1) := by decide +kernel
theorem dX2_product_67 : decode cX2_product 67 = .ok (.aload_n 0, 1) := by decide +kernel
theorem dX2_product_68 : decode cX2_product 68 = .ok (.getfield 69, 3) := by decide +kernel
theorem dX2_product_71 : decode cX2_product 71 = .ok (.aload_n 1, 1) := by decide +kernel
theorem dX2_product_72 : decode cX2_product 72 = .ok (.getfield 69, 3) := by decide +kernel
theorem dX2_product_75 : decode cX2_product 75 = .ok (.bipush 11, 2) := by decide +kernel
theorem dX2_product_77 : decode cX2_product 77 = .ok (.invokestatic 85, 3) := by decide +kernel
theorem dX2_product_80 : decode cX2_product 80 = .ok (.lstore 4, 2) := by decide +kernel
theorem dX2_product_82 : decode cX2_product 82 = .ok (.lload_n 2, 1) := by decide +kernel
theorem dX2_product_83 : decode cX2_product 83 = .ok (.aload_n 0, 1) := by decide +kernel
theorem dX2_product_84 : decode cX2_product 84 = .ok (.getfield 26, 3) := by decide +kernel
theorem dX2_product_87 : decode cX2_product 87 = .ok (.aload_n 1, 1) := by decide +kernel
theorem dX2_product_88 : decode cX2_product 88 = .ok (.getfield 26, 3) := by decide +kernel
theorem dX2_product_91 : decode cX2_product 91 = .ok (.invokestatic 45, 3) := by decide +kernel
theorem dX2_product_94 : decode cX2_product 94 = .ok (.lload 4, 2) := by decide +kernel
theorem dX2_product_96 : decode cX2_product 96 = .ok (.invokestatic 56, 3) := by decide +kernel
theorem dX2_product_99 : decode cX2_product 99 = .ok (.areturn, 1) := by decide +kernel
theorem dX1_product_0 : decode cX1_product 0 = .ok (.lconst 0, 1) := by decide +kernel
theorem dX1_product_1 : decode cX1_product 1 = .ok (.lstore 5, 2) := by decide +kernel
theorem dX1_product_3 : decode cX1_product 3 = .ok (.iconst 0, 1) := by decide +kernel
theorem dX1_product_4 : decode cX1_product 4 = .ok (.istore 7, 2) := by decide +kernel
theorem dX1_product_6 : decode cX1_product 6 = .ok (.iload 7, 2) := by decide +kernel
theorem dX1_product_8 : decode cX1_product 8 = .ok (.iload 4, 2) := by decide +kernel
theorem dX1_product_10 : decode cX1_product 10 = .ok (.if_icmp .ge 28, 3) := by decide +kernel
theorem dX1_product_13 : decode cX1_product 13 = .ok (.lload 5, 2) := by decide +kernel
theorem dX1_product_15 : decode cX1_product 15 = .ok (.lload_n 0, 1) := by decide +kernel
theorem dX1_product_16 : decode cX1_product 16 = .ok (.iload 7, 2) := by decide +kernel
theorem dX1_product_18 : decode cX1_product 18 = .ok (.lshl, 1) := by decide +kernel
theorem dX1_product_19 : decode cX1_product 19 = .ok (.lload_n 2, 1) := by decide +kernel
theorem dX1_product_20 : decode cX1_product 20 = .ok (.iload 7, 2) := by decide +kernel
theorem dX1_product_22 : decode cX1_product 22 = .ok (.lushr, 1) := by decide +kernel
theorem dX1_product_23 : decode cX1_product 23 = .ok (.invokestatic 11, 3) := by decide +kernel
theorem dX1_product_26 : decode cX1_product 26 = .ok (.land, 1) := by decide +kernel
theorem dX1_product_27 : decode cX1_product 27 = .ok (.invokestatic 36, 3) := by decide +kernel
theorem dX1_product_30 : decode cX1_product 30 = .ok (.lstore 5, 2) := by decide +kernel
theorem dX1_product_32 : decode cX1_product 32 = .ok (.iinc 7 1, 3) := by decide +kernel
theorem dX1_product_35 : decode cX1_product 35 = .ok (.goto (-29), 3) := by decide +kernel
theorem dX1_product_38 : decode cX1_product 38 = .ok (.lload 5, 2) := by decide +kernel
theorem dX1_product_40 : decode cX1_product 40 = .ok (.lreturn, 1) := by decide +kernel
theorem dX2_quotient_0 : decode cX2_quotient 0 = .ok (.aload_n 0, 1) := by decide +kernel
theorem dX2_quotient_1 : decode cX2_quotient 1 = .ok (.getfield 9, 3) := by decide +kernel
theorem dX2_quotient_4 : decode cX2_quotient 4 = .ok (.ifCond .ne 38, 3) := by decide +kernel
theorem dX2_quotient_7 : decode cX2_quotient 7 = .ok (.aload_n 1, 1) := by decide +kernel
theorem dX2_quotient_8 : decode cX2_quotient 8 = .ok (.getfield 9, 3) := by decide +kernel
theorem dX2_quotient_11 : decode cX2_quotient 11 = .ok (.ifCond .ne 31, 3) := by decide +kernel
theorem dX2_quotient_14 : decode cX2_quotient 14 = .ok (.aload_n 0, 1) := by decide +kernel
theorem dX2_quotient_15 : decode cX2_quotient 15 = .ok (.getfield 19, 3) := by decide +kernel
theorem dX2_quotient_18 : decode cX2_quotient 18 = .ok (.ifCond .eq 10, 3) := by decide +kernel
theorem dX2_quotient_21 : decode cX2_quotient 21 = .ok (.aload_n 1, 1) := by decide +kernel
theorem dX2_quotient_22 : decode cX2_quotient 22 = .ok (.getfield 19, 3) := by decide +kernel
theorem dX2_quotient_25 : decode cX2_quotient 25 = .ok (.ifCond .ne 17, 3) := by decide +kernel
theorem dX2_quotient_28 : decode cX2_quotient 28 = .ok (.aload_n 0, 1) := by decide +kernel
theorem dX2_quotient_29 : decode cX2_quotient 29 = .ok (.invokevirtual 75, 3) := by decide +kernel
theorem dX2_quotient_32 : decode cX2_quotient 32 = .ok (.ifCond .eq 14, 3) := by decide +kernel
theorem dX2_quotient_35 : decode cX2_quotient 35 = .ok (.aload_n 1, 1) := by decide +kernel
theorem dX2_quotient_36 : decode cX2_quotient 36 = .ok (.invokevirtual 75, 3) := by decide +kernel
theorem dX2_quotient_39 : decode cX2_quotient 39 = .ok (.ifCond .eq 7, 3) := by decide +kernel
theorem dX2_quotient_42 : decode cX2_quotient 42 = .ok (.invokestatic 15, 3) := by decide +kernel
theorem dX2_quotient_45 : decode cX2_quotient 45 = .ok (.areturn, 1) := by decide +kernel
theorem dX2_quotient_46 : decode cX2_quotient 46 = .ok (.aload_n 0, 1) := by decide +kernel
theorem dX2_quotient_47 : decode cX2_quotient 47 = .ok (.getfield 22, 3) := by decide +kernel
theorem dX2_quotient_50 : decode cX2_quotient 50 = .ok (.aload_n 1, 1) := by decide +kernel
theorem dX2_quotient_51 : decode cX2_quotient 51 = .ok (.getfield 22, 3) := by decide +kernel
theorem dX2_quotient_54 : decode cX2_quotient 54 = .ok (.lxor, 1) := by decide +kernel
theorem dX2_quotient_55 : decode cX2_quotient 55 = .ok (.lstore_n 2, 1) := by decide +kernel
theorem dX2_quotient_56 : decode cX2_quotient 56 = .ok (.aload_n 0, 1) := by decide +kernel
theorem dX2_quotient_57 : decode cX2_quotient 57 = .ok (.getfield 19, 3) := by decide +kernel
theorem dX2_quotient_60 : decode cX2_quotient 60 = .ok (.ifCond .ne 10, 3) := by decide +kernel
theorem dX2_quotient_63 : decode cX2_quotient 63 = .ok (.aload_n 1, 1) := by decide +kernel
theorem dX2_quotient_64 : decode cX2_quotient 64 = .ok (.invokevirtual 75, 3) := by decide +kernel
theorem dX2_quotient_67 : decode cX2_quotient 67 = .ok (.ifCond .eq 8, 3) := by decide +kernel
theorem dX2_quotient_70 : decode cX2_quotient 70 = .ok (.lload_n 2, 1) := by decide +kernel
theorem dX2_quotient_71 : decode cX2_quotient 71 = .ok (.invokestatic 79, 3) := by decide +kernel
theorem dX2_quotient_74 : decode cX2_quotient 74 = .ok (.areturn, 1) := by decide +kernel
theorem dX2_quotient_75 : decode cX2_quotient 75 = .ok (.aload_n 1, 1) := by decide +kernel
theorem dX2_quotient_76 : decode cX2_quotient 76 = .ok (.getfield 19, 3) := by decide +kernel
theorem dX2_quotient_79 : decode cX2_quotient 79 = .ok (.ifCond .eq 10, 3) := by decide +kernel
theorem dX2_quotient_82 : decode cX2_quotient 82 = .ok (.lload_n 2, 1) := by decide +kernel
theorem dX2_quotient_83 : decode cX2_quotient 83 = .ok (.lconst 0, 1) := by decide +kernel
theorem dX2_quotient_84 : decode cX2_quotient 84 = .ok (.lconst 0, 1) := by decide +kernel
theorem dX2_quotient_85 : decode cX2_quotient 85 = .ok (.invokestatic 56, 3) := by decide +kernel
theorem dX2_quotient_88 : decode cX2_quotient 88 = .ok (.areturn, 1) := by decide +kernel
theorem dX2_quotient_89 : decode cX2_quotient 89 = .ok (.bipush 35, 2) := by decide +kernel
theorem dX2_quotient_91 : decode cX2_quotient 91 = .ok (.istore 4, 2) := by decide +kernel
theorem dX2_quotient_93 : decode cX2_quotient 93 = .ok (.aload_n 0, 1) := by decide +kernel
theorem dX2_quotient_94 : decode cX2_quotient 94 = .ok (.getfield 69, 3) := by decide +kernel
theorem dX2_quotient_97 : decode cX2_quotient 97 = .ok (.bipush 24, 2) := by decide +kernel
theorem dX2_quotient_99 : decode cX2_quotient 99 = .ok (.lshl, 1) := by decide +kernel
theorem dX2_quotient_100 : decode cX2_quotient 100 = .ok (.aload_n 1, 1) := by decide +kernel
theorem dX2_quotient_101 : decode cX2_quotient 101 = .ok (.getfield 69, 3) := by decide +kernel
theorem dX2_quotient_104 : decode cX2_quotient 104 = .ok (.iload 4, 2) := by decide +kernel
theorem dX2_quotient_106 : decode cX2_quotient 106 = .ok (.invokestatic 89, 3) := by decide +kernel
theorem dX2_quotient_109 : decode cX2_quotient 109 = .ok (.lstore 5, 2) := by decide +kernel
theorem dX2_quotient_111 : decode cX2_quotient 111 = .ok (.aload_n 0, 1) := by decide +kernel
theorem dX2_quotient_112 : decode cX2_quotient 112 = .ok (.getfield 26, 3) := by decide +kernel
theorem dX2_quotient_115 : decode cX2_quotient 115 = .ok (.aload_n 1, 1) := by decide +kernel
theorem dX2_quotient_116 : decode cX2_quotient 116 = .ok (.getfield 26, 3) := by decide +kernel
theorem dX2_quotient_119 : decode cX2_quotient 119 = .ok (.invokestatic 66, 3) := by decide +kernel
theorem dX2_quotient_122 : decode cX2_quotient 122 = .ok (.lstore 7, 2) := by decide +kernel
theorem dX2_quotient_124 : decode cX2_quotient 124 = .ok (.lload_n 2, 1) := by decide +kernel
theorem dX2_quotient_125 : decode cX2_quotient 125 = .ok (.lload 7, 2) := by decide +kernel
theorem dX2_quotient_127 : decode cX2_quotient 127 = .ok (.ldc2_w 92, 3) := by decide +kernel
theorem dX2_quotient_130 : decode cX2_quotient 130 = .ok (.invokestatic 66, 3) := by decide +kernel
theorem dX2_quotient_133 : decode cX2_quotient 133 = .ok (.lload 5, 2) := by decide +kernel
theorem dX2_quotient_135 : decode cX2_quotient 135 = .ok (.invokestatic 56, 3) := by decide +kernel
theorem dX2_quotient_138 : decode cX2_quotient 138 = .ok (.areturn, 1) := by decide +kernel
theorem dX1_quotient_0 : decode cX1_quotient 0 = .ok (.lconst 0, 1) := by decide +kernel
theorem dX1_quotient_1 : decode cX1_quotient 1 = .ok (.lstore 5, 2) := by decide +kernel
theorem dX1_quotient_3 : decode cX1_quotient 3 = .ok (.lconst 0, 1) := by decide +kernel
theorem dX1_quotient_4 : decode cX1_quotient 4 = .ok (.lstore 7, 2) := by decide +kernel
theorem dX1_quotient_6 : decode cX1_quotient 6 = .ok (.iload 4, 2) := by decide +kernel
theorem dX1_quotient_8 : decode cX1_quotient 8 = .ok (.iconst 1, 1) := by decide +kernel
theorem dX1_quotient_9 : decode cX1_quotient 9 = .ok (.isub, 1) := by decide +kernel
theorem dX1_quotient_10 : decode cX1_quotient 10 = .ok (.istore 9, 2) := by decide +kernel
theorem dX1_quotient_12 : decode cX1_quotient 12 = .ok (.iload 9, 2) := by decide +kernel
theorem dX1_quotient_14 : decode cX1_quotient 14 = .ok (.ifCond .lt 59, 3) := by decide +kernel
theorem dX1_quotient_17 : decode cX1_quotient 17 = .ok (.lload 7, 2) := by decide +kernel
theorem dX1_quotient_19 : decode cX1_quotient 19 = .ok (.iconst 1, 1) := by decide +kernel
theorem dX1_quotient_20 : decode cX1_quotient 20 = .ok (.lshl, 1) := by decide +kernel
theorem dX1_quotient_21 : decode cX1_quotient 21 = .ok (.lload_n 0, 1) := by decide +kernel
theorem dX1_quotient_22 : decode cX1_quotient 22 = .ok (.iload 9, 2) := by decide +kernel
theorem dX1_quotient_24 : decode cX1_quotient 24 = .ok (.lushr, 1) := by decide +kernel
theorem dX1_quotient_25 : decode cX1_quotient 25 = .ok (.lconst 1, 1) := by decide +kernel
theorem dX1_quotient_26 : decode cX1_quotient 26 = .ok (.land, 1) := by decide +kernel
theorem dX1_quotient_27 : decode cX1_quotient 27 = .ok (.lor, 1) := by decide +kernel
theorem dX1_quotient_28 : decode cX1_quotient 28 = .ok (.lstore 7, 2) := by decide +kernel
theorem dX1_quotient_30 : decode cX1_quotient 30 = .ok (.lload 7, 2) := by decide +kernel
theorem dX1_quotient_32 : decode cX1_quotient 32 = .ok (.lload_n 2, 1) := by decide +kernel
theorem dX1_quotient_33 : decode cX1_quotient 33 = .ok (.invokestatic 19, 3) := by decide +kernel
theorem dX1_quotient_36 : decode cX1_quotient 36 = .ok (.lstore 10, 2) := by decide +kernel
theorem dX1_quotient_38 : decode cX1_quotient 38 = .ok (.lload 10, 2) := by decide +kernel
theorem dX1_quotient_40 : decode cX1_quotient 40 = .ok (.invokestatic 23, 3) := by decide +kernel
theorem dX1_quotient_43 : decode cX1_quotient 43 = .ok (.lconst 1, 1) := by decide +kernel
theorem dX1_quotient_44 : decode cX1_quotient 44 = .ok (.lxor, 1) := by decide +kernel
theorem dX1_quotient_45 : decode cX1_quotient 45 = .ok (.lstore 12, 2) := by decide +kernel
theorem dX1_quotient_47 : decode cX1_quotient 47 = .ok (.lload 12, 2) := by decide +kernel
theorem dX1_quotient_49 : decode cX1_quotient 49 = .ok (.lload 10, 2) := by decide +kernel
theorem dX1_quotient_51 : decode cX1_quotient 51 = .ok (.lload 7, 2) := by decide +kernel
theorem dX1_quotient_53 : decode cX1_quotient 53 = .ok (.invokestatic 26, 3) := by decide +kernel
theorem dX1_quotient_56 : decode cX1_quotient 56 = .ok (.lstore 7, 2) := by decide +kernel
theorem dX1_quotient_58 : decode cX1_quotient 58 = .ok (.lload 5, 2) := by decide +kernel
theorem dX1_quotient_60 : decode cX1_quotient 60 = .ok (.iconst 1, 1) := by decide +kernel
theorem dX1_quotient_61 : decode cX1_quotient 61 = .ok (.lshl, 1) := by decide +kernel
theorem dX1_quotient_62 : decode cX1_quotient 62 = .ok (.lload 12, 2) := by decide +kernel
theorem dX1_quotient_64 : decode cX1_quotient 64 = .ok (.lor, 1) := by decide +kernel
theorem dX1_quotient_65 : decode cX1_quotient 65 = .ok (.lstore 5, 2) := by decide +kernel
theorem dX1_quotient_67 : decode cX1_quotient 67 = .ok (.iinc 9 (-1), 3) := by decide +kernel
theorem dX1_quotient_70 : decode cX1_quotient 70 = .ok (.goto (-58), 3) := by decide +kernel
theorem dX1_quotient_73 : decode cX1_quotient 73 = .ok (.lload 5, 2) := by decide +kernel
theorem dX1_quotient_75 : decode cX1_quotient 75 = .ok (.iconst 1, 1) := by decide +kernel
theorem dX1_quotient_76 : decode cX1_quotient 76 = .ok (.lshl, 1) := by decide +kernel
theorem dX1_quotient_77 : decode cX1_quotient 77 = .ok (.lload 7, 2) := by decide +kernel
theorem dX1_quotient_79 : decode cX1_quotient 79 = .ok (.invokestatic 33, 3) := by decide +kernel
theorem dX1_quotient_82 : decode cX1_quotient 82 = .ok (.lor, 1) := by decide +kernel
theorem dX1_quotient_83 : decode cX1_quotient 83 = .ok (.lreturn, 1) := by decide +kernel
theorem dL_change_0 : decode cL_change 0 = .ok (.aload 4, 2) := by decide +kernel
theorem dL_change_2 : decode cL_change 2 = .ok (.iconst 0, 1) := by decide +kernel
theorem dL_change_3 : decode cL_change 3 = .ok (.aload_n 0, 1) := by decide +kernel
theorem dL_change_4 : decode cL_change 4 = .ok (.iload_n 1, 1) := by decide +kernel
theorem dL_change_5 : decode cL_change 5 = .ok (.iload_n 2, 1) := by decide +kernel
theorem dL_change_6 : decode cL_change 6 = .ok (.iload_n 3, 1) := by decide +kernel
theorem dL_change_7 : decode cL_change 7 = .ok (.invokevirtual 19, 3) := by decide +kernel
theorem dL_change_10 : decode cL_change 10 = .ok (.i2l, 1) := by decide +kernel
theorem dL_change_11 : decode cL_change 11 = .ok (.lastore, 1) := by decide +kernel
theorem dL_change_12 : decode cL_change 12 = .ok (.goto 7, 3) := by decide +kernel
theorem dL_change_15 : decode cL_change 15 = .ok (.astore 5, 2) := by decide +kernel
theorem dL_change_17 : decode cL_change 17 = .ok (.iconst 1, 1) := by decide +kernel
theorem dL_change_18 : decode cL_change 18 = .ok (.ireturn, 1) := by decide +kernel
theorem dL_change_19 : decode cL_change 19 = .ok (.iconst 0, 1) := by decide +kernel
theorem dL_change_20 : decode cL_change 20 = .ok (.ireturn, 1) := by decide +kernel
theorem dX5_change_0 : decode cX5_change 0 = .ok (.iload_n 1, 1) := by decide +kernel
theorem dX5_change_1 : decode cX5_change 1 = .ok (.iconst 0, 1) := by decide +kernel
theorem dX5_change_2 : decode cX5_change 2 = .ok (.iconst 3, 1) := by decide +kernel
theorem dX5_change_3 : decode cX5_change 3 = .ok (.invokestatic 30, 3) := by decide +kernel
theorem dX5_change_6 : decode cX5_change 6 = .ok (.ifCond .eq 25, 3) := by decide +kernel
theorem dX5_change_9 : decode cX5_change 9 = .ok (.iload_n 2, 1) := by decide +kernel
theorem dX5_change_10 : decode cX5_change 10 = .ok (.invokestatic 34, 3) := by decide +kernel
theorem dX5_change_13 : decode cX5_change 13 = .ok (.ifCond .eq 18, 3) := by decide +kernel
theorem dX5_change_16 : decode cX5_change 16 = .ok (.aload_n 0, 1) := by decide +kernel
theorem dX5_change_17 : decode cX5_change 17 = .ok (.getfield 12, 3) := by decide +kernel
theorem dX5_change_20 : decode cX5_change 20 = .ok (.iload_n 3, 1) := by decide +kernel
theorem dX5_change_21 : decode cX5_change 21 = .ok (.invokevirtual 38, 3) := by decide +kernel
theorem dX5_change_24 : decode cX5_change 24 = .ok (.ifCond .eq 7, 3) := by decide +kernel
theorem dX5_change_27 : decode cX5_change 27 = .ok (.iconst 1, 1) := by decide +kernel
theorem dX5_change_28 : decode cX5_change 28 = .ok (.goto 4, 3) := by decide +kernel
theorem dX5_change_31 : decode cX5_change 31 = .ok (.iconst 0, 1) := by decide +kernel
theorem dX5_change_32 : decode cX5_change 32 = .ok (.invokestatic 22, 3) := by decide +kernel
theorem dX5_change_35 : decode cX5_change 35 = .ok (.aload_n 0, 1) := by decide +kernel
theorem dX5_change_36 : decode cX5_change 36 = .ok (.getfield 12, 3) := by decide +kernel
theorem dX5_change_39 : decode cX5_change 39 = .ok (.iload_n 3, 1) := by decide +kernel
theorem dX5_change_40 : decode cX5_change 40 = .ok (.invokevirtual 41, 3) := by decide +kernel
theorem dX5_change_43 : decode cX5_change 43 = .ok (.astore 4, 2) := by decide +kernel
theorem dX5_change_45 : decode cX5_change 45 = .ok (.iload_n 1, 1) := by decide +kernel
theorem dX5_change_46 : decode cX5_change 46 = .ok (.tableswitch 85 0 2 #[26, 40, 55], 26) := by decide +kernel
theorem dX5_change_72 : decode cX5_change 72 = .ok (.aload_n 0, 1) := by decide +kernel
theorem dX5_change_73 : decode cX5_change 73 = .ok (.getfield 12, 3) := by decide +kernel
theorem dX5_change_76 : decode cX5_change 76 = .ok (.iload_n 2, 1) := by decide +kernel
theorem dX5_change_77 : decode cX5_change 77 = .ok (.aload 4, 2) := by decide +kernel
theorem dX5_change_79 : decode cX5_change 79 = .ok (.invokestatic 68, 3) := by decide +kernel
theorem dX5_change_82 : decode cX5_change 82 = .ok (.invokevirtual 51, 3) := by decide +kernel
theorem dX5_change_85 : decode cX5_change 85 = .ok (.ireturn, 1) := by decide +kernel
theorem dX5_change_86 : decode cX5_change 86 = .ok (.aload_n 0, 1) := by decide +kernel
theorem dX5_change_87 : decode cX5_change 87 = .ok (.getfield 12, 3) := by decide +kernel
theorem dX5_change_90 : decode cX5_change 90 = .ok (.iload_n 2, 1) := by decide +kernel
theorem dX5_change_91 : decode cX5_change 91 = .ok (.iload_n 2, 1) := by decide +kernel
theorem dX5_change_92 : decode cX5_change 92 = .ok (.aload 4, 2) := by decide +kernel
theorem dX5_change_94 : decode cX5_change 94 = .ok (.invokestatic 72, 3) := by decide +kernel
theorem dX5_change_97 : decode cX5_change 97 = .ok (.invokevirtual 51, 3) := by decide +kernel
theorem dX5_change_100 : decode cX5_change 100 = .ok (.ireturn, 1) := by decide +kernel
theorem dX5_change_101 : decode cX5_change 101 = .ok (.aload 4, 2) := by decide +kernel
theorem dX5_change_103 : decode cX5_change 103 = .ok (.getfield 76, 3) := by decide +kernel
theorem dX5_change_106 : decode cX5_change 106 = .ok (.ifCond .eq 13, 3) := by decide +kernel
theorem dX5_change_109 : decode cX5_change 109 = .ok (.aload_n 0, 1) := by decide +kernel
theorem dX5_change_110 : decode cX5_change 110 = .ok (.getfield 12, 3) := by decide +kernel
theorem dX5_change_113 : decode cX5_change 113 = .ok (.getfield 80, 3) := by decide +kernel
theorem dX5_change_116 : decode cX5_change 116 = .ok (.goto 14, 3) := by decide +kernel
theorem dX5_change_119 : decode cX5_change 119 = .ok (.iload_n 3, 1) := by decide +kernel
theorem dX5_change_120 : decode cX5_change 120 = .ok (.aload_n 0, 1) := by decide +kernel
theorem dX5_change_121 : decode cX5_change 121 = .ok (.getfield 12, 3) := by decide +kernel
theorem dX5_change_124 : decode cX5_change 124 = .ok (.getfield 82, 3) := by decide +kernel
theorem dX5_change_127 : decode cX5_change 127 = .ok (.iconst (-1), 1) := by decide +kernel
theorem dX5_change_128 : decode cX5_change 128 = .ok (.ixor, 1) := by decide +kernel
theorem dX5_change_129 : decode cX5_change 129 = .ok (.iand, 1) := by decide +kernel
theorem dX5_change_130 : decode cX5_change 130 = .ok (.ireturn, 1) := by decide +kernel
theorem dX5_change_131 : decode cX5_change 131 = .ok (.aload 4, 2) := by decide +kernel
theorem dX5_change_133 : decode cX5_change 133 = .ok (.getfield 76, 3) := by decide +kernel
theorem dX5_change_136 : decode cX5_change 136 = .ok (.ifCond .eq 13, 3) := by decide +kernel
theorem dX5_change_139 : decode cX5_change 139 = .ok (.aload_n 0, 1) := by decide +kernel
theorem dX5_change_140 : decode cX5_change 140 = .ok (.getfield 12, 3) := by decide +kernel
theorem dX5_change_143 : decode cX5_change 143 = .ok (.getfield 80, 3) := by decide +kernel
theorem dX5_change_146 : decode cX5_change 146 = .ok (.goto 12, 3) := by decide +kernel
theorem dX5_change_149 : decode cX5_change 149 = .ok (.iload_n 3, 1) := by decide +kernel
theorem dX5_change_150 : decode cX5_change 150 = .ok (.aload_n 0, 1) := by decide +kernel
theorem dX5_change_151 : decode cX5_change 151 = .ok (.getfield 12, 3) := by decide +kernel
theorem dX5_change_154 : decode cX5_change 154 = .ok (.getfield 82, 3) := by decide +kernel
theorem dX5_change_157 : decode cX5_change 157 = .ok (.ixor, 1) := by decide +kernel
theorem dX5_change_158 : decode cX5_change 158 = .ok (.ireturn, 1) := by decide +kernel
theorem dX2_root_0 : decode cX2_root 0 = .ok (.aload_n 0, 1) := by decide +kernel
theorem dX2_root_1 : decode cX2_root 1 = .ok (.getfield 9, 3) := by decide +kernel
theorem dX2_root_4 : decode cX2_root 4 = .ok (.ifCond .ne 10, 3) := by decide +kernel
theorem dX2_root_7 : decode cX2_root 7 = .ok (.aload_n 0, 1) := by decide +kernel
theorem dX2_root_8 : decode cX2_root 8 = .ok (.invokevirtual 75, 3) := by decide +kernel
theorem dX2_root_11 : decode cX2_root 11 = .ok (.ifCond .eq 5, 3) := by decide +kernel
theorem dX2_root_14 : decode cX2_root 14 = .ok (.aload_n 0, 1) := by decide +kernel
theorem dX2_root_15 : decode cX2_root 15 = .ok (.areturn, 1) := by decide +kernel
theorem dX2_root_16 : decode cX2_root 16 = .ok (.aload_n 0, 1) := by decide +kernel
theorem dX2_root_17 : decode cX2_root 17 = .ok (.getfield 22, 3) := by decide +kernel
theorem dX2_root_20 : decode cX2_root 20 = .ok (.lconst 1, 1) := by decide +kernel
theorem dX2_root_21 : decode cX2_root 21 = .ok (.lcmp, 1) := by decide +kernel
theorem dX2_root_22 : decode cX2_root 22 = .ok (.ifCond .ne 7, 3) := by decide +kernel
theorem dX2_root_25 : decode cX2_root 25 = .ok (.invokestatic 15, 3) := by decide +kernel
theorem dX2_root_28 : decode cX2_root 28 = .ok (.areturn, 1) := by decide +kernel
theorem dX2_root_29 : decode cX2_root 29 = .ok (.aload_n 0, 1) := by decide +kernel
theorem dX2_root_30 : decode cX2_root 30 = .ok (.getfield 19, 3) := by decide +kernel
theorem dX2_root_33 : decode cX2_root 33 = .ok (.ifCond .eq 5, 3) := by decide +kernel
theorem dX2_root_36 : decode cX2_root 36 = .ok (.aload_n 0, 1) := by decide +kernel
theorem dX2_root_37 : decode cX2_root 37 = .ok (.areturn, 1) := by decide +kernel
theorem dX2_root_38 : decode cX2_root 38 = .ok (.aload_n 0, 1) := by decide +kernel
theorem dX2_root_39 : decode cX2_root 39 = .ok (.getfield 26, 3) := by decide +kernel
theorem dX2_root_42 : decode cX2_root 42 = .ok (.lconst 1, 1) := by decide +kernel
theorem dX2_root_43 : decode cX2_root 43 = .ok (.land, 1) := by decide +kernel
theorem dX2_root_44 : decode cX2_root 44 = .ok (.lstore_n 1, 1) := by decide +kernel
theorem dX2_root_45 : decode cX2_root 45 = .ok (.lload_n 1, 1) := by decide +kernel
theorem dX2_root_46 : decode cX2_root 46 = .ok (.aload_n 0, 1) := by decide +kernel
theorem dX2_root_47 : decode cX2_root 47 = .ok (.getfield 69, 3) := by decide +kernel
theorem dX2_root_50 : decode cX2_root 50 = .ok (.iconst 1, 1) := by decide +kernel
theorem dX2_root_51 : decode cX2_root 51 = .ok (.lshl, 1) := by decide +kernel
theorem dX2_root_52 : decode cX2_root 52 = .ok (.aload_n 0, 1) := by decide +kernel
theorem dX2_root_53 : decode cX2_root 53 = .ok (.getfield 69, 3) := by decide +kernel
theorem dX2_root_56 : decode cX2_root 56 = .ok (.invokestatic 35, 3) := by decide +kernel
theorem dX2_root_59 : decode cX2_root 59 = .ok (.bipush 24, 2) := by decide +kernel
theorem dX2_root_61 : decode cX2_root 61 = .ok (.lshl, 1) := by decide +kernel
theorem dX2_root_62 : decode cX2_root 62 = .ok (.lstore_n 3, 1) := by decide +kernel
theorem dX2_root_63 : decode cX2_root 63 = .ok (.aload_n 0, 1) := by decide +kernel
theorem dX2_root_64 : decode cX2_root 64 = .ok (.getfield 26, 3) := by decide +kernel
theorem dX2_root_67 : decode cX2_root 67 = .ok (.lload_n 1, 1) := by decide +kernel
theorem dX2_root_68 : decode cX2_root 68 = .ok (.invokestatic 66, 3) := by decide +kernel
theorem dX2_root_71 : decode cX2_root 71 = .ok (.iconst 1, 1) := by decide +kernel
theorem dX2_root_72 : decode cX2_root 72 = .ok (.lshr, 1) := by decide +kernel
theorem dX2_root_73 : decode cX2_root 73 = .ok (.lstore 5, 2) := by decide +kernel
theorem dX2_root_75 : decode cX2_root 75 = .ok (.bipush 18, 2) := by decide +kernel
theorem dX2_root_77 : decode cX2_root 77 = .ok (.istore 7, 2) := by decide +kernel
theorem dX2_root_79 : decode cX2_root 79 = .ok (.lload 5, 2) := by decide +kernel
theorem dX2_root_81 : decode cX2_root 81 = .ok (.ldc2_w 94, 3) := by decide +kernel
theorem dX2_root_84 : decode cX2_root 84 = .ok (.invokestatic 66, 3) := by decide +kernel
theorem dX2_root_87 : decode cX2_root 87 = .ok (.lstore 8, 2) := by decide +kernel
theorem dX2_root_89 : decode cX2_root 89 = .ok (.lconst 0, 1) := by decide +kernel
theorem dX2_root_90 : decode cX2_root 90 = .ok (.lload 8, 2) := by decide +kernel
theorem dX2_root_92 : decode cX2_root 92 = .ok (.lload_n 3, 1) := by decide +kernel
theorem dX2_root_93 : decode cX2_root 93 = .ok (.iload 7, 2) := by decide +kernel
theorem dX2_root_95 : decode cX2_root 95 = .ok (.invokestatic 96, 3) := by decide +kernel
theorem dX2_root_98 : decode cX2_root 98 = .ok (.invokestatic 56, 3) := by decide +kernel
theorem dX2_root_101 : decode cX2_root 101 = .ok (.areturn, 1) := by decide +kernel
theorem dX1_root_0 : decode cX1_root 0 = .ok (.lconst 0, 1) := by decide +kernel
theorem dX1_root_1 : decode cX1_root 1 = .ok (.lstore_n 3, 1) := by decide +kernel
theorem dX1_root_2 : decode cX1_root 2 = .ok (.lconst 0, 1) := by decide +kernel
theorem dX1_root_3 : decode cX1_root 3 = .ok (.lstore 5, 2) := by decide +kernel
theorem dX1_root_5 : decode cX1_root 5 = .ok (.iload_n 2, 1) := by decide +kernel
theorem dX1_root_6 : decode cX1_root 6 = .ok (.iconst 1, 1) := by decide +kernel
theorem dX1_root_7 : decode cX1_root 7 = .ok (.isub, 1) := by decide +kernel
theorem dX1_root_8 : decode cX1_root 8 = .ok (.istore 7, 2) := by decide +kernel
theorem dX1_root_10 : decode cX1_root 10 = .ok (.iload 7, 2) := by decide +kernel
theorem dX1_root_12 : decode cX1_root 12 = .ok (.ifCond .lt 65, 3) := by decide +kernel
theorem dX1_root_15 : decode cX1_root 15 = .ok (.lload 5, 2) := by decide +kernel
theorem dX1_root_17 : decode cX1_root 17 = .ok (.iconst 2, 1) := by decide +kernel
theorem dX1_root_18 : decode cX1_root 18 = .ok (.lshl, 1) := by decide +kernel
theorem dX1_root_19 : decode cX1_root 19 = .ok (.lload_n 0, 1) := by decide +kernel
theorem dX1_root_20 : decode cX1_root 20 = .ok (.iconst 2, 1) := by decide +kernel
theorem dX1_root_21 : decode cX1_root 21 = .ok (.iload 7, 2) := by decide +kernel
theorem dX1_root_23 : decode cX1_root 23 = .ok (.imul, 1) := by decide +kernel
theorem dX1_root_24 : decode cX1_root 24 = .ok (.lushr, 1) := by decide +kernel
theorem dX1_root_25 : decode cX1_root 25 = .ok (.ldc2_w 39, 3) := by decide +kernel
theorem dX1_root_28 : decode cX1_root 28 = .ok (.land, 1) := by decide +kernel
theorem dX1_root_29 : decode cX1_root 29 = .ok (.lor, 1) := by decide +kernel
theorem dX1_root_30 : decode cX1_root 30 = .ok (.lstore 5, 2) := by decide +kernel
theorem dX1_root_32 : decode cX1_root 32 = .ok (.lload 5, 2) := by decide +kernel
theorem dX1_root_34 : decode cX1_root 34 = .ok (.lload_n 3, 1) := by decide +kernel
theorem dX1_root_35 : decode cX1_root 35 = .ok (.iconst 2, 1) := by decide +kernel
theorem dX1_root_36 : decode cX1_root 36 = .ok (.lshl, 1) := by decide +kernel
theorem dX1_root_37 : decode cX1_root 37 = .ok (.lconst 1, 1) := by decide +kernel
theorem dX1_root_38 : decode cX1_root 38 = .ok (.lor, 1) := by decide +kernel
theorem dX1_root_39 : decode cX1_root 39 = .ok (.invokestatic 19, 3) := by decide +kernel
theorem dX1_root_42 : decode cX1_root 42 = .ok (.lstore 8, 2) := by decide +kernel
theorem dX1_root_44 : decode cX1_root 44 = .ok (.lload 8, 2) := by decide +kernel
theorem dX1_root_46 : decode cX1_root 46 = .ok (.invokestatic 23, 3) := by decide +kernel
theorem dX1_root_49 : decode cX1_root 49 = .ok (.lconst 1, 1) := by decide +kernel
theorem dX1_root_50 : decode cX1_root 50 = .ok (.lxor, 1) := by decide +kernel
theorem dX1_root_51 : decode cX1_root 51 = .ok (.lstore 10, 2) := by decide +kernel
theorem dX1_root_53 : decode cX1_root 53 = .ok (.lload 10, 2) := by decide +kernel
theorem dX1_root_55 : decode cX1_root 55 = .ok (.lload 8, 2) := by decide +kernel
theorem dX1_root_57 : decode cX1_root 57 = .ok (.lload 5, 2) := by decide +kernel
theorem dX1_root_59 : decode cX1_root 59 = .ok (.invokestatic 26, 3) := by decide +kernel
theorem dX1_root_62 : decode cX1_root 62 = .ok (.lstore 5, 2) := by decide +kernel
theorem dX1_root_64 : decode cX1_root 64 = .ok (.lload_n 3, 1) := by decide +kernel
theorem dX1_root_65 : decode cX1_root 65 = .ok (.iconst 1, 1) := by decide +kernel
theorem dX1_root_66 : decode cX1_root 66 = .ok (.lshl, 1) := by decide +kernel
theorem dX1_root_67 : decode cX1_root 67 = .ok (.lload 10, 2) := by decide +kernel
theorem dX1_root_69 : decode cX1_root 69 = .ok (.lor, 1) := by decide +kernel
theorem dX1_root_70 : decode cX1_root 70 = .ok (.lstore_n 3, 1) := by decide +kernel
theorem dX1_root_71 : decode cX1_root 71 = .ok (.iinc 7 (-1), 3) := by decide +kernel
theorem dX1_root_74 : decode cX1_root 74 = .ok (.goto (-64), 3) := by decide +kernel
theorem dX1_root_77 : decode cX1_root 77 = .ok (.lload_n 3, 1) := by decide +kernel
theorem dX1_root_78 : decode cX1_root 78 = .ok (.iconst 1, 1) := by decide +kernel
theorem dX1_root_79 : decode cX1_root 79 = .ok (.lshl, 1) := by decide +kernel
theorem dX1_root_80 : decode cX1_root 80 = .ok (.lload 5, 2) := by decide +kernel
theorem dX1_root_82 : decode cX1_root 82 = .ok (.invokestatic 33, 3) := by decide +kernel
theorem dX1_root_85 : decode cX1_root 85 = .ok (.lor, 1) := by decide +kernel
theorem dX1_root_86 : decode cX1_root 86 = .ok (.lreturn, 1) := by decide +kernel
theorem dX2_whole_0 : decode cX2_whole 0 = .ok (.aload_n 1, 1) := by decide +kernel
theorem dX2_whole_1 : decode cX2_whole 1 = .ok (.getfield 9, 3) := by decide +kernel
theorem dX2_whole_4 : decode cX2_whole 4 = .ok (.ifCond .ne 10, 3) := by decide +kernel
theorem dX2_whole_7 : decode cX2_whole 7 = .ok (.aload_n 1, 1) := by decide +kernel
theorem dX2_whole_8 : decode cX2_whole 8 = .ok (.getfield 19, 3) := by decide +kernel
theorem dX2_whole_11 : decode cX2_whole 11 = .ok (.ifCond .eq 5, 3) := by decide +kernel
theorem dX2_whole_14 : decode cX2_whole 14 = .ok (.aload_n 1, 1) := by decide +kernel
theorem dX2_whole_15 : decode cX2_whole 15 = .ok (.areturn, 1) := by decide +kernel
theorem dX2_whole_16 : decode cX2_whole 16 = .ok (.aload_n 1, 1) := by decide +kernel
theorem dX2_whole_17 : decode cX2_whole 17 = .ok (.getfield 22, 3) := by decide +kernel
theorem dX2_whole_20 : decode cX2_whole 20 = .ok (.lconst 0, 1) := by decide +kernel
theorem dX2_whole_21 : decode cX2_whole 21 = .ok (.iload_n 0, 1) := by decide +kernel
theorem dX2_whole_22 : decode cX2_whole 22 = .ok (.aload_n 1, 1) := by decide +kernel
theorem dX2_whole_23 : decode cX2_whole 23 = .ok (.lconst 0, 1) := by decide +kernel
theorem dX2_whole_24 : decode cX2_whole 24 = .ok (.invokestatic 100, 3) := by decide +kernel
theorem dX2_whole_27 : decode cX2_whole 27 = .ok (.invokestatic 56, 3) := by decide +kernel
theorem dX2_whole_30 : decode cX2_whole 30 = .ok (.areturn, 1) := by decide +kernel
theorem dL_least_0 : decode cL_least 0 = .ok (.aload 4, 2) := by decide +kernel
theorem dL_least_2 : decode cL_least 2 = .ok (.iconst 0, 1) := by decide +kernel
theorem dL_least_3 : decode cL_least 3 = .ok (.aload_n 0, 1) := by decide +kernel
theorem dL_least_4 : decode cL_least 4 = .ok (.iload_n 1, 1) := by decide +kernel
theorem dL_least_5 : decode cL_least 5 = .ok (.iload_n 2, 1) := by decide +kernel
theorem dL_least_6 : decode cL_least 6 = .ok (.iload_n 3, 1) := by decide +kernel
theorem dL_least_7 : decode cL_least 7 = .ok (.invokevirtual 23, 3) := by decide +kernel
theorem dL_least_10 : decode cL_least 10 = .ok (.i2l, 1) := by decide +kernel
theorem dL_least_11 : decode cL_least 11 = .ok (.lastore, 1) := by decide +kernel
theorem dL_least_12 : decode cL_least 12 = .ok (.goto 7, 3) := by decide +kernel
theorem dL_least_15 : decode cL_least 15 = .ok (.astore 5, 2) := by decide +kernel
theorem dL_least_17 : decode cL_least 17 = .ok (.iconst 1, 1) := by decide +kernel
theorem dL_least_18 : decode cL_least 18 = .ok (.ireturn, 1) := by decide +kernel
theorem dL_least_19 : decode cL_least 19 = .ok (.iconst 0, 1) := by decide +kernel
theorem dL_least_20 : decode cL_least 20 = .ok (.ireturn, 1) := by decide +kernel
theorem dX5_least_0 : decode cX5_least 0 = .ok (.aload_n 0, 1) := by decide +kernel
theorem dX5_least_1 : decode cX5_least 1 = .ok (.getfield 12, 3) := by decide +kernel
theorem dX5_least_4 : decode cX5_least 4 = .ok (.iload_n 1, 1) := by decide +kernel
theorem dX5_least_5 : decode cX5_least 5 = .ok (.invokevirtual 38, 3) := by decide +kernel
theorem dX5_least_8 : decode cX5_least 8 = .ok (.ifCond .eq 18, 3) := by decide +kernel
theorem dX5_least_11 : decode cX5_least 11 = .ok (.aload_n 0, 1) := by decide +kernel
theorem dX5_least_12 : decode cX5_least 12 = .ok (.getfield 12, 3) := by decide +kernel
theorem dX5_least_15 : decode cX5_least 15 = .ok (.iload_n 2, 1) := by decide +kernel
theorem dX5_least_16 : decode cX5_least 16 = .ok (.invokevirtual 38, 3) := by decide +kernel
theorem dX5_least_19 : decode cX5_least 19 = .ok (.ifCond .eq 7, 3) := by decide +kernel
theorem dX5_least_22 : decode cX5_least 22 = .ok (.iconst 1, 1) := by decide +kernel
theorem dX5_least_23 : decode cX5_least 23 = .ok (.goto 4, 3) := by decide +kernel
theorem dX5_least_26 : decode cX5_least 26 = .ok (.iconst 0, 1) := by decide +kernel
theorem dX5_least_27 : decode cX5_least 27 = .ok (.invokestatic 22, 3) := by decide +kernel
theorem dX5_least_30 : decode cX5_least 30 = .ok (.aload_n 0, 1) := by decide +kernel
theorem dX5_least_31 : decode cX5_least 31 = .ok (.getfield 12, 3) := by decide +kernel
theorem dX5_least_34 : decode cX5_least 34 = .ok (.iload_n 1, 1) := by decide +kernel
theorem dX5_least_35 : decode cX5_least 35 = .ok (.invokevirtual 85, 3) := by decide +kernel
theorem dX5_least_38 : decode cX5_least 38 = .ok (.ifCond .eq 26, 3) := by decide +kernel
theorem dX5_least_41 : decode cX5_least 41 = .ok (.aload_n 0, 1) := by decide +kernel
theorem dX5_least_42 : decode cX5_least 42 = .ok (.getfield 12, 3) := by decide +kernel
