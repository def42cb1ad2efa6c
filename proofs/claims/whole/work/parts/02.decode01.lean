theorem dX4_finite_0 : decode cX4_finite 0 = .ok (.new 8, 3) := by decide +kernel
theorem dX4_finite_3 : decode cX4_finite 3 = .ok (.dup, 1) := by decide +kernel
theorem dX4_finite_4 : decode cX4_finite 4 = .ok (.iconst 0, 1) := by decide +kernel
theorem dX4_finite_5 : decode cX4_finite 5 = .ok (.iconst 0, 1) := by decide +kernel
theorem dX4_finite_6 : decode cX4_finite 6 = .ok (.lload_n 0, 1) := by decide +kernel
theorem dX4_finite_7 : decode cX4_finite 7 = .ok (.lload_n 2, 1) := by decide +kernel
theorem dX4_finite_8 : decode cX4_finite 8 = .ok (.lload 4, 2) := by decide +kernel
theorem dX4_finite_10 : decode cX4_finite 10 = .ok (.invokespecial 26, 3) := by decide +kernel
theorem dX4_finite_13 : decode cX4_finite 13 = .ok (.areturn, 1) := by decide +kernel
theorem dX2_sum_0 : decode cX2_sum 0 = .ok (.aload_n 1, 1) := by decide +kernel
theorem dX2_sum_1 : decode cX2_sum 1 = .ok (.getfield 9, 3) := by decide +kernel
theorem dX2_sum_4 : decode cX2_sum 4 = .ok (.ifCond .ne 10, 3) := by decide +kernel
theorem dX2_sum_7 : decode cX2_sum 7 = .ok (.aload_n 2, 1) := by decide +kernel
theorem dX2_sum_8 : decode cX2_sum 8 = .ok (.getfield 9, 3) := by decide +kernel
theorem dX2_sum_11 : decode cX2_sum 11 = .ok (.ifCond .eq 7, 3) := by decide +kernel
theorem dX2_sum_14 : decode cX2_sum 14 = .ok (.invokestatic 15, 3) := by decide +kernel
theorem dX2_sum_17 : decode cX2_sum 17 = .ok (.areturn, 1) := by decide +kernel
theorem dX2_sum_18 : decode cX2_sum 18 = .ok (.aload_n 1, 1) := by decide +kernel
theorem dX2_sum_19 : decode cX2_sum 19 = .ok (.getfield 19, 3) := by decide +kernel
theorem dX2_sum_22 : decode cX2_sum 22 = .ok (.ifCond .eq 26, 3) := by decide +kernel
theorem dX2_sum_25 : decode cX2_sum 25 = .ok (.aload_n 2, 1) := by decide +kernel
theorem dX2_sum_26 : decode cX2_sum 26 = .ok (.getfield 19, 3) := by decide +kernel
theorem dX2_sum_29 : decode cX2_sum 29 = .ok (.ifCond .eq 19, 3) := by decide +kernel
theorem dX2_sum_32 : decode cX2_sum 32 = .ok (.aload_n 1, 1) := by decide +kernel
theorem dX2_sum_33 : decode cX2_sum 33 = .ok (.getfield 22, 3) := by decide +kernel
theorem dX2_sum_36 : decode cX2_sum 36 = .ok (.aload_n 2, 1) := by decide +kernel
theorem dX2_sum_37 : decode cX2_sum 37 = .ok (.getfield 22, 3) := by decide +kernel
theorem dX2_sum_40 : decode cX2_sum 40 = .ok (.lcmp, 1) := by decide +kernel
theorem dX2_sum_41 : decode cX2_sum 41 = .ok (.ifCond .eq 7, 3) := by decide +kernel
theorem dX2_sum_44 : decode cX2_sum 44 = .ok (.invokestatic 15, 3) := by decide +kernel
theorem dX2_sum_47 : decode cX2_sum 47 = .ok (.areturn, 1) := by decide +kernel
theorem dX2_sum_48 : decode cX2_sum 48 = .ok (.aload_n 1, 1) := by decide +kernel
theorem dX2_sum_49 : decode cX2_sum 49 = .ok (.getfield 19, 3) := by decide +kernel
theorem dX2_sum_52 : decode cX2_sum 52 = .ok (.ifCond .ne 10, 3) := by decide +kernel
theorem dX2_sum_55 : decode cX2_sum 55 = .ok (.aload_n 2, 1) := by decide +kernel
theorem dX2_sum_56 : decode cX2_sum 56 = .ok (.getfield 19, 3) := by decide +kernel
theorem dX2_sum_59 : decode cX2_sum 59 = .ok (.ifCond .eq 16, 3) := by decide +kernel
theorem dX2_sum_62 : decode cX2_sum 62 = .ok (.aload_n 1, 1) := by decide +kernel
theorem dX2_sum_63 : decode cX2_sum 63 = .ok (.getfield 19, 3) := by decide +kernel
theorem dX2_sum_66 : decode cX2_sum 66 = .ok (.ifCond .eq 7, 3) := by decide +kernel
theorem dX2_sum_69 : decode cX2_sum 69 = .ok (.aload_n 1, 1) := by decide +kernel
theorem dX2_sum_70 : decode cX2_sum 70 = .ok (.goto 4, 3) := by decide +kernel
theorem dX2_sum_73 : decode cX2_sum 73 = .ok (.aload_n 2, 1) := by decide +kernel
theorem dX2_sum_74 : decode cX2_sum 74 = .ok (.areturn, 1) := by decide +kernel
theorem dX2_sum_75 : decode cX2_sum 75 = .ok (.aload_n 1, 1) := by decide +kernel
theorem dX2_sum_76 : decode cX2_sum 76 = .ok (.getfield 26, 3) := by decide +kernel
theorem dX2_sum_79 : decode cX2_sum 79 = .ok (.aload_n 2, 1) := by decide +kernel
theorem dX2_sum_80 : decode cX2_sum 80 = .ok (.getfield 26, 3) := by decide +kernel
theorem dX2_sum_83 : decode cX2_sum 83 = .ok (.invokestatic 29, 3) := by decide +kernel
theorem dX2_sum_86 : decode cX2_sum 86 = .ok (.aload_n 1, 1) := by decide +kernel
theorem dX2_sum_87 : decode cX2_sum 87 = .ok (.getfield 26, 3) := by decide +kernel
theorem dX2_sum_90 : decode cX2_sum 90 = .ok (.aload_n 2, 1) := by decide +kernel
theorem dX2_sum_91 : decode cX2_sum 91 = .ok (.getfield 26, 3) := by decide +kernel
theorem dX2_sum_94 : decode cX2_sum 94 = .ok (.invokestatic 35, 3) := by decide +kernel
theorem dX2_sum_97 : decode cX2_sum 97 = .ok (.lstore_n 3, 1) := by decide +kernel
theorem dX2_sum_98 : decode cX2_sum 98 = .ok (.lload_n 3, 1) := by decide +kernel
theorem dX2_sum_99 : decode cX2_sum 99 = .ok (.aload_n 1, 1) := by decide +kernel
theorem dX2_sum_100 : decode cX2_sum 100 = .ok (.invokestatic 39, 3) := by decide +kernel
theorem dX2_sum_103 : decode cX2_sum 103 = .ok (.lload_n 3, 1) := by decide +kernel
theorem dX2_sum_104 : decode cX2_sum 104 = .ok (.aload_n 2, 1) := by decide +kernel
theorem dX2_sum_105 : decode cX2_sum 105 = .ok (.invokestatic 39, 3) := by decide +kernel
theorem dX2_sum_108 : decode cX2_sum 108 = .ok (.invokestatic 45, 3) := by decide +kernel
theorem dX2_sum_111 : decode cX2_sum 111 = .ok (.lstore 5, 2) := by decide +kernel
theorem dX2_sum_113 : decode cX2_sum 113 = .ok (.lload 5, 2) := by decide +kernel
theorem dX2_sum_115 : decode cX2_sum 115 = .ok (.invokestatic 48, 3) := by decide +kernel
theorem dX2_sum_118 : decode cX2_sum 118 = .ok (.lconst 0, 1) := by decide +kernel
theorem dX2_sum_119 : decode cX2_sum 119 = .ok (.lcmp, 1) := by decide +kernel
theorem dX2_sum_120 : decode cX2_sum 120 = .ok (.ifCond .ne 21, 3) := by decide +kernel
theorem dX2_sum_123 : decode cX2_sum 123 = .ok (.iload_n 0, 1) := by decide +kernel
theorem dX2_sum_124 : decode cX2_sum 124 = .ok (.aload_n 1, 1) := by decide +kernel
theorem dX2_sum_125 : decode cX2_sum 125 = .ok (.getfield 22, 3) := by decide +kernel
theorem dX2_sum_128 : decode cX2_sum 128 = .ok (.aload_n 2, 1) := by decide +kernel
theorem dX2_sum_129 : decode cX2_sum 129 = .ok (.getfield 22, 3) := by decide +kernel
theorem dX2_sum_132 : decode cX2_sum 132 = .ok (.invokestatic 52, 3) := by decide +kernel
theorem dX2_sum_135 : decode cX2_sum 135 = .ok (.lconst 0, 1) := by decide +kernel
theorem dX2_sum_136 : decode cX2_sum 136 = .ok (.lconst 0, 1) := by decide +kernel
theorem dX2_sum_137 : decode cX2_sum 137 = .ok (.invokestatic 56, 3) := by decide +kernel
theorem dX2_sum_140 : decode cX2_sum 140 = .ok (.areturn, 1) := by decide +kernel
theorem dX2_sum_141 : decode cX2_sum 141 = .ok (.lload 5, 2) := by decide +kernel
theorem dX2_sum_143 : decode cX2_sum 143 = .ok (.invokestatic 60, 3) := by decide +kernel
theorem dX2_sum_146 : decode cX2_sum 146 = .ok (.lstore 7, 2) := by decide +kernel
theorem dX2_sum_148 : decode cX2_sum 148 = .ok (.lload 7, 2) := by decide +kernel
theorem dX2_sum_150 : decode cX2_sum 150 = .ok (.lload_n 3, 1) := by decide +kernel
theorem dX2_sum_151 : decode cX2_sum 151 = .ok (.lload 7, 2) := by decide +kernel
theorem dX2_sum_153 : decode cX2_sum 153 = .ok (.lload 5, 2) := by decide +kernel
theorem dX2_sum_155 : decode cX2_sum 155 = .ok (.invokestatic 63, 3) := by decide +kernel
theorem dX2_sum_158 : decode cX2_sum 158 = .ok (.invokestatic 56, 3) := by decide +kernel
theorem dX2_sum_161 : decode cX2_sum 161 = .ok (.areturn, 1) := by decide +kernel
theorem dX1_choose_0 : decode cX1_choose 0 = .ok (.lload_n 0, 1) := by decide +kernel
theorem dX1_choose_1 : decode cX1_choose 1 = .ok (.invokestatic 11, 3) := by decide +kernel
theorem dX1_choose_4 : decode cX1_choose 4 = .ok (.lstore 6, 2) := by decide +kernel
theorem dX1_choose_6 : decode cX1_choose 6 = .ok (.lload_n 2, 1) := by decide +kernel
theorem dX1_choose_7 : decode cX1_choose 7 = .ok (.lload 6, 2) := by decide +kernel
theorem dX1_choose_9 : decode cX1_choose 9 = .ok (.land, 1) := by decide +kernel
theorem dX1_choose_10 : decode cX1_choose 10 = .ok (.lload 4, 2) := by decide +kernel
theorem dX1_choose_12 : decode cX1_choose 12 = .ok (.lload 6, 2) := by decide +kernel
theorem dX1_choose_14 : decode cX1_choose 14 = .ok (.ldc2_w 7, 3) := by decide +kernel
theorem dX1_choose_17 : decode cX1_choose 17 = .ok (.lxor, 1) := by decide +kernel
theorem dX1_choose_18 : decode cX1_choose 18 = .ok (.land, 1) := by decide +kernel
theorem dX1_choose_19 : decode cX1_choose 19 = .ok (.lor, 1) := by decide +kernel
theorem dX1_choose_20 : decode cX1_choose 20 = .ok (.lreturn, 1) := by decide +kernel
theorem dX1_fan_0 : decode cX1_fan 0 = .ok (.lload_n 0, 1) := by decide +kernel
theorem dX1_fan_1 : decode cX1_fan 1 = .ok (.bipush 63, 2) := by decide +kernel
theorem dX1_fan_3 : decode cX1_fan 3 = .ok (.lshl, 1) := by decide +kernel
theorem dX1_fan_4 : decode cX1_fan 4 = .ok (.bipush 63, 2) := by decide +kernel
theorem dX1_fan_6 : decode cX1_fan 6 = .ok (.lshr, 1) := by decide +kernel
theorem dX1_fan_7 : decode cX1_fan 7 = .ok (.lreturn, 1) := by decide +kernel
theorem dX2_signedAt_0 : decode cX2_signedAt 0 = .ok (.aload_n 2, 1) := by decide +kernel
theorem dX2_signedAt_1 : decode cX2_signedAt 1 = .ok (.getfield 26, 3) := by decide +kernel
theorem dX2_signedAt_4 : decode cX2_signedAt 4 = .ok (.lload_n 0, 1) := by decide +kernel
theorem dX2_signedAt_5 : decode cX2_signedAt 5 = .ok (.invokestatic 66, 3) := by decide +kernel
theorem dX2_signedAt_8 : decode cX2_signedAt 8 = .ok (.lstore_n 3, 1) := by decide +kernel
theorem dX2_signedAt_9 : decode cX2_signedAt 9 = .ok (.aload_n 2, 1) := by decide +kernel
theorem dX2_signedAt_10 : decode cX2_signedAt 10 = .ok (.getfield 22, 3) := by decide +kernel
theorem dX2_signedAt_13 : decode cX2_signedAt 13 = .ok (.aload_n 2, 1) := by decide +kernel
theorem dX2_signedAt_14 : decode cX2_signedAt 14 = .ok (.getfield 69, 3) := by decide +kernel
theorem dX2_signedAt_17 : decode cX2_signedAt 17 = .ok (.lload_n 3, 1) := by decide +kernel
theorem dX2_signedAt_18 : decode cX2_signedAt 18 = .ok (.invokestatic 72, 3) := by decide +kernel
theorem dX2_signedAt_21 : decode cX2_signedAt 21 = .ok (.invokestatic 63, 3) := by decide +kernel
theorem dX2_signedAt_24 : decode cX2_signedAt 24 = .ok (.lreturn, 1) := by decide +kernel
theorem dX1_shiftLeft_0 : decode cX1_shiftLeft 0 = .ok (.lload_n 0, 1) := by decide +kernel
theorem dX1_shiftLeft_1 : decode cX1_shiftLeft 1 = .ok (.lstore 4, 2) := by decide +kernel
theorem dX1_shiftLeft_3 : decode cX1_shiftLeft 3 = .ok (.iconst 0, 1) := by decide +kernel
theorem dX1_shiftLeft_4 : decode cX1_shiftLeft 4 = .ok (.istore 6, 2) := by decide +kernel
theorem dX1_shiftLeft_6 : decode cX1_shiftLeft 6 = .ok (.iload 6, 2) := by decide +kernel
theorem dX1_shiftLeft_8 : decode cX1_shiftLeft 8 = .ok (.bipush 6, 2) := by decide +kernel
theorem dX1_shiftLeft_10 : decode cX1_shiftLeft 10 = .ok (.if_icmp .ge 27, 3) := by decide +kernel
theorem dX1_shiftLeft_13 : decode cX1_shiftLeft 13 = .ok (.lload_n 2, 1) := by decide +kernel
theorem dX1_shiftLeft_14 : decode cX1_shiftLeft 14 = .ok (.iload 6, 2) := by decide +kernel
theorem dX1_shiftLeft_16 : decode cX1_shiftLeft 16 = .ok (.lushr, 1) := by decide +kernel
theorem dX1_shiftLeft_17 : decode cX1_shiftLeft 17 = .ok (.lload 4, 2) := by decide +kernel
theorem dX1_shiftLeft_19 : decode cX1_shiftLeft 19 = .ok (.iconst 1, 1) := by decide +kernel
theorem dX1_shiftLeft_20 : decode cX1_shiftLeft 20 = .ok (.iload 6, 2) := by decide +kernel
theorem dX1_shiftLeft_22 : decode cX1_shiftLeft 22 = .ok (.ishl, 1) := by decide +kernel
theorem dX1_shiftLeft_23 : decode cX1_shiftLeft 23 = .ok (.lshl, 1) := by decide +kernel
theorem dX1_shiftLeft_24 : decode cX1_shiftLeft 24 = .ok (.lload 4, 2) := by decide +kernel
theorem dX1_shiftLeft_26 : decode cX1_shiftLeft 26 = .ok (.invokestatic 26, 3) := by decide +kernel
theorem dX1_shiftLeft_29 : decode cX1_shiftLeft 29 = .ok (.lstore 4, 2) := by decide +kernel
theorem dX1_shiftLeft_31 : decode cX1_shiftLeft 31 = .ok (.iinc 6 1, 3) := by decide +kernel
theorem dX1_shiftLeft_34 : decode cX1_shiftLeft 34 = .ok (.goto (-28), 3) := by decide +kernel
theorem dX1_shiftLeft_37 : decode cX1_shiftLeft 37 = .ok (.lload 4, 2) := by decide +kernel
theorem dX1_shiftLeft_39 : decode cX1_shiftLeft 39 = .ok (.lreturn, 1) := by decide +kernel
theorem dX1_negateIf_0 : decode cX1_negateIf 0 = .ok (.lload_n 2, 1) := by decide +kernel
theorem dX1_negateIf_1 : decode cX1_negateIf 1 = .ok (.lload_n 0, 1) := by decide +kernel
theorem dX1_negateIf_2 : decode cX1_negateIf 2 = .ok (.invokestatic 11, 3) := by decide +kernel
theorem dX1_negateIf_5 : decode cX1_negateIf 5 = .ok (.lxor, 1) := by decide +kernel
theorem dX1_negateIf_6 : decode cX1_negateIf 6 = .ok (.lconst 0, 1) := by decide +kernel
theorem dX1_negateIf_7 : decode cX1_negateIf 7 = .ok (.lload_n 0, 1) := by decide +kernel
theorem dX1_negateIf_8 : decode cX1_negateIf 8 = .ok (.invokestatic 15, 3) := by decide +kernel
theorem dX1_negateIf_11 : decode cX1_negateIf 11 = .ok (.lreturn, 1) := by decide +kernel
theorem dX2_signOfZeroSum_0 : decode cX2_signOfZeroSum 0 = .ok (.iload_n 0, 1) := by decide +kernel
theorem dX2_signOfZeroSum_1 : decode cX2_signOfZeroSum 1 = .ok (.iconst 3, 1) := by decide +kernel
theorem dX2_signOfZeroSum_2 : decode cX2_signOfZeroSum 2 = .ok (.if_icmp .ne 9, 3) := by decide +kernel
theorem dX2_signOfZeroSum_5 : decode cX2_signOfZeroSum 5 = .ok (.lload_n 1, 1) := by decide +kernel
theorem dX2_signOfZeroSum_6 : decode cX2_signOfZeroSum 6 = .ok (.lload_n 3, 1) := by decide +kernel
theorem dX2_signOfZeroSum_7 : decode cX2_signOfZeroSum 7 = .ok (.lor, 1) := by decide +kernel
theorem dX2_signOfZeroSum_8 : decode cX2_signOfZeroSum 8 = .ok (.goto 6, 3) := by decide +kernel
theorem dX2_signOfZeroSum_11 : decode cX2_signOfZeroSum 11 = .ok (.lload_n 1, 1) := by decide +kernel
theorem dX2_signOfZeroSum_12 : decode cX2_signOfZeroSum 12 = .ok (.lload_n 3, 1) := by decide +kernel
theorem dX2_signOfZeroSum_13 : decode cX2_signOfZeroSum 13 = .ok (.land, 1) := by decide +kernel
theorem dX2_signOfZeroSum_14 : decode cX2_signOfZeroSum 14 = .ok (.lreturn, 1) := by decide +kernel
theorem dX0_pack_0 : decode cX0_pack 0 = .ok (.aload_n 2, 1) := by decide +kernel
theorem dX0_pack_1 : decode cX0_pack 1 = .ok (.getfield 80, 3) := by decide +kernel
theorem dX0_pack_4 : decode cX0_pack 4 = .ok (.ifCond .eq 8, 3) := by decide +kernel
theorem dX0_pack_7 : decode cX0_pack 7 = .ok (.aload_n 0, 1) := by decide +kernel
theorem dX0_pack_8 : decode cX0_pack 8 = .ok (.getfield 22, 3) := by decide +kernel
theorem dX0_pack_11 : decode cX0_pack 11 = .ok (.ireturn, 1) := by decide +kernel
theorem dX0_pack_12 : decode cX0_pack 12 = .ok (.aload_n 2, 1) := by decide +kernel
theorem dX0_pack_13 : decode cX0_pack 13 = .ok (.getfield 83, 3) := by decide +kernel
theorem dX0_pack_16 : decode cX0_pack 16 = .ok (.ifCond .eq 17, 3) := by decide +kernel
theorem dX0_pack_19 : decode cX0_pack 19 = .ok (.aload_n 0, 1) := by decide +kernel
theorem dX0_pack_20 : decode cX0_pack 20 = .ok (.aload_n 2, 1) := by decide +kernel
theorem dX0_pack_21 : decode cX0_pack 21 = .ok (.getfield 86, 3) := by decide +kernel
theorem dX0_pack_24 : decode cX0_pack 24 = .ok (.aload_n 0, 1) := by decide +kernel
theorem dX0_pack_25 : decode cX0_pack 25 = .ok (.getfield 19, 3) := by decide +kernel
theorem dX0_pack_28 : decode cX0_pack 28 = .ok (.i2l, 1) := by decide +kernel
theorem dX0_pack_29 : decode cX0_pack 29 = .ok (.invokevirtual 90, 3) := by decide +kernel
theorem dX0_pack_32 : decode cX0_pack 32 = .ok (.ireturn, 1) := by decide +kernel
theorem dX0_pack_33 : decode cX0_pack 33 = .ok (.aload_n 2, 1) := by decide +kernel
theorem dX0_pack_34 : decode cX0_pack 34 = .ok (.invokevirtual 94, 3) := by decide +kernel
theorem dX0_pack_37 : decode cX0_pack 37 = .ok (.ifCond .eq 13, 3) := by decide +kernel
theorem dX0_pack_40 : decode cX0_pack 40 = .ok (.aload_n 0, 1) := by decide +kernel
theorem dX0_pack_41 : decode cX0_pack 41 = .ok (.aload_n 2, 1) := by decide +kernel
theorem dX0_pack_42 : decode cX0_pack 42 = .ok (.getfield 86, 3) := by decide +kernel
theorem dX0_pack_45 : decode cX0_pack 45 = .ok (.lconst 0, 1) := by decide +kernel
theorem dX0_pack_46 : decode cX0_pack 46 = .ok (.invokevirtual 90, 3) := by decide +kernel
theorem dX0_pack_49 : decode cX0_pack 49 = .ok (.ireturn, 1) := by decide +kernel
theorem dX0_pack_50 : decode cX0_pack 50 = .ok (.aload_n 0, 1) := by decide +kernel
theorem dX0_pack_51 : decode cX0_pack 51 = .ok (.iload_n 1, 1) := by decide +kernel
theorem dX0_pack_52 : decode cX0_pack 52 = .ok (.aload_n 2, 1) := by decide +kernel
theorem dX0_pack_53 : decode cX0_pack 53 = .ok (.invokevirtual 98, 3) := by decide +kernel
theorem dX0_pack_56 : decode cX0_pack 56 = .ok (.lstore_n 3, 1) := by decide +kernel
theorem dX0_pack_57 : decode cX0_pack 57 = .ok (.lload_n 3, 1) := by decide +kernel
theorem dX0_pack_58 : decode cX0_pack 58 = .ok (.aload_n 0, 1) := by decide +kernel
theorem dX0_pack_59 : decode cX0_pack 59 = .ok (.getfield 19, 3) := by decide +kernel
theorem dX0_pack_62 : decode cX0_pack 62 = .ok (.i2l, 1) := by decide +kernel
theorem dX0_pack_63 : decode cX0_pack 63 = .ok (.invokestatic 38, 3) := by decide +kernel
theorem dX0_pack_66 : decode cX0_pack 66 = .ok (.lconst 1, 1) := by decide +kernel
theorem dX0_pack_67 : decode cX0_pack 67 = .ok (.lcmp, 1) := by decide +kernel
theorem dX0_pack_68 : decode cX0_pack 68 = .ok (.ifCond .ne 13, 3) := by decide +kernel
theorem dX0_pack_71 : decode cX0_pack 71 = .ok (.aload_n 0, 1) := by decide +kernel
theorem dX0_pack_72 : decode cX0_pack 72 = .ok (.aload_n 2, 1) := by decide +kernel
theorem dX0_pack_73 : decode cX0_pack 73 = .ok (.getfield 86, 3) := by decide +kernel
theorem dX0_pack_76 : decode cX0_pack 76 = .ok (.lload_n 3, 1) := by decide +kernel
theorem dX0_pack_77 : decode cX0_pack 77 = .ok (.invokevirtual 90, 3) := by decide +kernel
theorem dX0_pack_80 : decode cX0_pack 80 = .ok (.ireturn, 1) := by decide +kernel
theorem dX0_pack_81 : decode cX0_pack 81 = .ok (.iload_n 1, 1) := by decide +kernel
theorem dX0_pack_82 : decode cX0_pack 82 = .ok (.aload_n 2, 1) := by decide +kernel
theorem dX0_pack_83 : decode cX0_pack 83 = .ok (.getfield 86, 3) := by decide +kernel
theorem dX0_pack_86 : decode cX0_pack 86 = .ok (.invokestatic 102, 3) := by decide +kernel
theorem dX0_pack_89 : decode cX0_pack 89 = .ok (.istore 5, 2) := by decide +kernel
theorem dX0_pack_91 : decode cX0_pack 91 = .ok (.aload_n 0, 1) := by decide +kernel
theorem dX0_pack_92 : decode cX0_pack 92 = .ok (.aload_n 2, 1) := by decide +kernel
theorem dX0_pack_93 : decode cX0_pack 93 = .ok (.getfield 86, 3) := by decide +kernel
theorem dX0_pack_96 : decode cX0_pack 96 = .ok (.iload 5, 2) := by decide +kernel
theorem dX0_pack_98 : decode cX0_pack 98 = .ok (.ifCond .eq 11, 3) := by decide +kernel
theorem dX0_pack_101 : decode cX0_pack 101 = .ok (.aload_n 0, 1) := by decide +kernel
theorem dX0_pack_102 : decode cX0_pack 102 = .ok (.getfield 19, 3) := by decide +kernel
theorem dX0_pack_105 : decode cX0_pack 105 = .ok (.i2l, 1) := by decide +kernel
theorem dX0_pack_106 : decode cX0_pack 106 = .ok (.goto 10, 3) := by decide +kernel
theorem dX0_pack_109 : decode cX0_pack 109 = .ok (.aload_n 0, 1) := by decide +kernel
theorem dX0_pack_110 : decode cX0_pack 110 = .ok (.getfield 19, 3) := by decide +kernel
theorem dX0_pack_113 : decode cX0_pack 113 = .ok (.iconst 1, 1) := by decide +kernel
theorem dX0_pack_114 : decode cX0_pack 114 = .ok (.isub, 1) := by decide +kernel
theorem dX0_pack_115 : decode cX0_pack 115 = .ok (.i2l, 1) := by decide +kernel
theorem dX0_pack_116 : decode cX0_pack 116 = .ok (.invokevirtual 90, 3) := by decide +kernel
theorem dX0_pack_119 : decode cX0_pack 119 = .ok (.ireturn, 1) := by decide +kernel
theorem dX0_signed_0 : decode cX0_signed 0 = .ok (.lload_n 3, 1) := by decide +kernel
theorem dX0_signed_1 : decode cX0_signed 1 = .ok (.lload_n 1, 1) := by decide +kernel
theorem dX0_signed_2 : decode cX0_signed 2 = .ok (.aload_n 0, 1) := by decide +kernel
theorem dX0_signed_3 : decode cX0_signed 3 = .ok (.getfield 7, 3) := by decide +kernel
theorem dX0_signed_6 : decode cX0_signed 6 = .ok (.iconst 1, 1) := by decide +kernel
theorem dX0_signed_7 : decode cX0_signed 7 = .ok (.isub, 1) := by decide +kernel
theorem dX0_signed_8 : decode cX0_signed 8 = .ok (.lshl, 1) := by decide +kernel
theorem dX0_signed_9 : decode cX0_signed 9 = .ok (.lor, 1) := by decide +kernel
theorem dX0_signed_10 : decode cX0_signed 10 = .ok (.l2i, 1) := by decide +kernel
theorem dX0_signed_11 : decode cX0_signed 11 = .ok (.ireturn, 1) := by decide +kernel
theorem dX4_isZero_0 : decode cX4_isZero 0 = .ok (.aload_n 0, 1) := by decide +kernel
theorem dX4_isZero_1 : decode cX4_isZero 1 = .ok (.getfield 7, 3) := by decide +kernel
theorem dX4_isZero_4 : decode cX4_isZero 4 = .ok (.ifCond .ne 26, 3) := by decide +kernel
theorem dX4_isZero_7 : decode cX4_isZero 7 = .ok (.aload_n 0, 1) := by decide +kernel
theorem dX4_isZero_8 : decode cX4_isZero 8 = .ok (.getfield 13, 3) := by decide +kernel
theorem dX4_isZero_11 : decode cX4_isZero 11 = .ok (.ifCond .ne 19, 3) := by decide +kernel
theorem dX4_isZero_14 : decode cX4_isZero 14 = .ok (.aload_n 0, 1) := by decide +kernel
theorem dX4_isZero_15 : decode cX4_isZero 15 = .ok (.getfield 23, 3) := by decide +kernel
theorem dX4_isZero_18 : decode cX4_isZero 18 = .ok (.invokestatic 29, 3) := by decide +kernel
theorem dX4_isZero_21 : decode cX4_isZero 21 = .ok (.lconst 0, 1) := by decide +kernel
theorem dX4_isZero_22 : decode cX4_isZero 22 = .ok (.lcmp, 1) := by decide +kernel
theorem dX4_isZero_23 : decode cX4_isZero 23 = .ok (.ifCond .ne 7, 3) := by decide +kernel
theorem dX4_isZero_26 : decode cX4_isZero 26 = .ok (.iconst 1, 1) := by decide +kernel
theorem dX4_isZero_27 : decode cX4_isZero 27 = .ok (.goto 4, 3) := by decide +kernel
theorem dX4_isZero_30 : decode cX4_isZero 30 = .ok (.iconst 0, 1) := by decide +kernel
theorem dX4_isZero_31 : decode cX4_isZero 31 = .ok (.ireturn, 1) := by decide +kernel
theorem dX0_packMagnitude_0 : decode cX0_packMagnitude 0 = .ok (.aload_n 2, 1) := by decide +kernel
theorem dX0_packMagnitude_1 : decode cX0_packMagnitude 1 = .ok (.getfield 108, 3) := by decide +kernel
theorem dX0_packMagnitude_4 : decode cX0_packMagnitude 4 = .ok (.aload_n 2, 1) := by decide +kernel
theorem dX0_packMagnitude_5 : decode cX0_packMagnitude 5 = .ok (.getfield 111, 3) := by decide +kernel
theorem dX0_packMagnitude_8 : decode cX0_packMagnitude 8 = .ok (.invokestatic 114, 3) := by decide +kernel
theorem dX0_packMagnitude_11 : decode cX0_packMagnitude 11 = .ok (.invokestatic 73, 3) := by decide +kernel
theorem dX0_packMagnitude_14 : decode cX0_packMagnitude 14 = .ok (.lstore_n 3, 1) := by decide +kernel
theorem dX0_packMagnitude_15 : decode cX0_packMagnitude 15 = .ok (.lload_n 3, 1) := by decide +kernel
theorem dX0_packMagnitude_16 : decode cX0_packMagnitude 16 = .ok (.aload_n 0, 1) := by decide +kernel
theorem dX0_packMagnitude_17 : decode cX0_packMagnitude 17 = .ok (.getfield 13, 3) := by decide +kernel
theorem dX0_packMagnitude_20 : decode cX0_packMagnitude 20 = .ok (.i2l, 1) := by decide +kernel
theorem dX0_packMagnitude_21 : decode cX0_packMagnitude 21 = .ok (.invokestatic 70, 3) := by decide +kernel
theorem dX0_packMagnitude_24 : decode cX0_packMagnitude 24 = .ok (.lstore 5, 2) := by decide +kernel
theorem dX0_packMagnitude_26 : decode cX0_packMagnitude 26 = .ok (.lload 5, 2) := by decide +kernel
theorem dX0_packMagnitude_28 : decode cX0_packMagnitude 28 = .ok (.aload_n 0, 1) := by decide +kernel
theorem dX0_packMagnitude_29 : decode cX0_packMagnitude 29 = .ok (.getfield 25, 3) := by decide +kernel
theorem dX0_packMagnitude_32 : decode cX0_packMagnitude 32 = .ok (.i2l, 1) := by decide +kernel
theorem dX0_packMagnitude_33 : decode cX0_packMagnitude 33 = .ok (.invokestatic 38, 3) := by decide +kernel
theorem dX0_packMagnitude_36 : decode cX0_packMagnitude 36 = .ok (.aload_n 0, 1) := by decide +kernel
theorem dX0_packMagnitude_37 : decode cX0_packMagnitude 37 = .ok (.getfield 25, 3) := by decide +kernel
theorem dX0_packMagnitude_40 : decode cX0_packMagnitude 40 = .ok (.i2l, 1) := by decide +kernel
theorem dX0_packMagnitude_41 : decode cX0_packMagnitude 41 = .ok (.lload 5, 2) := by decide +kernel
theorem dX0_packMagnitude_43 : decode cX0_packMagnitude 43 = .ok (.invokestatic 117, 3) := by decide +kernel
theorem dX0_packMagnitude_46 : decode cX0_packMagnitude 46 = .ok (.lstore 7, 2) := by decide +kernel
theorem dX0_packMagnitude_48 : decode cX0_packMagnitude 48 = .ok (.iload_n 1, 1) := by decide +kernel
theorem dX0_packMagnitude_49 : decode cX0_packMagnitude 49 = .ok (.aload_n 2, 1) := by decide +kernel
theorem dX0_packMagnitude_50 : decode cX0_packMagnitude 50 = .ok (.lload 7, 2) := by decide +kernel
theorem dX0_packMagnitude_52 : decode cX0_packMagnitude 52 = .ok (.invokestatic 121, 3) := by decide +kernel
theorem dX0_packMagnitude_55 : decode cX0_packMagnitude 55 = .ok (.lstore 9, 2) := by decide +kernel
theorem dX0_packMagnitude_57 : decode cX0_packMagnitude 57 = .ok (.lload 7, 2) := by decide +kernel
theorem dX0_packMagnitude_59 : decode cX0_packMagnitude 59 = .ok (.aload_n 0, 1) := by decide +kernel
theorem dX0_packMagnitude_60 : decode cX0_packMagnitude 60 = .ok (.getfield 25, 3) := by decide +kernel
theorem dX0_packMagnitude_63 : decode cX0_packMagnitude 63 = .ok (.i2l, 1) := by decide +kernel
theorem dX0_packMagnitude_64 : decode cX0_packMagnitude 64 = .ok (.invokestatic 70, 3) := by decide +kernel
theorem dX0_packMagnitude_67 : decode cX0_packMagnitude 67 = .ok (.aload_n 0, 1) := by decide +kernel
theorem dX0_packMagnitude_68 : decode cX0_packMagnitude 68 = .ok (.getfield 13, 3) := by decide +kernel
theorem dX0_packMagnitude_71 : decode cX0_packMagnitude 71 = .ok (.lshl, 1) := by decide +kernel
theorem dX0_packMagnitude_72 : decode cX0_packMagnitude 72 = .ok (.lload 9, 2) := by decide +kernel
theorem dX0_packMagnitude_74 : decode cX0_packMagnitude 74 = .ok (.invokestatic 73, 3) := by decide +kernel
theorem dX0_packMagnitude_77 : decode cX0_packMagnitude 77 = .ok (.lreturn, 1) := by decide +kernel
theorem dX1_top_0 : decode cX1_top 0 = .ok (.lconst 0, 1) := by decide +kernel
theorem dX1_top_1 : decode cX1_top 1 = .ok (.lstore_n 2, 1) := by decide +kernel
theorem dX1_top_2 : decode cX1_top 2 = .ok (.lload_n 0, 1) := by decide +kernel
theorem dX1_top_3 : decode cX1_top 3 = .ok (.lstore 4, 2) := by decide +kernel
theorem dX1_top_5 : decode cX1_top 5 = .ok (.iconst 5, 1) := by decide +kernel
theorem dX1_top_6 : decode cX1_top 6 = .ok (.istore 6, 2) := by decide +kernel
theorem dX1_top_8 : decode cX1_top 8 = .ok (.iload 6, 2) := by decide +kernel
theorem dX1_top_10 : decode cX1_top 10 = .ok (.ifCond .lt 44, 3) := by decide +kernel
theorem dX1_top_13 : decode cX1_top 13 = .ok (.lload 4, 2) := by decide +kernel
theorem dX1_top_15 : decode cX1_top 15 = .ok (.iconst 1, 1) := by decide +kernel
theorem dX1_top_16 : decode cX1_top 16 = .ok (.iload 6, 2) := by decide +kernel
theorem dX1_top_18 : decode cX1_top 18 = .ok (.ishl, 1) := by decide +kernel
theorem dX1_top_19 : decode cX1_top 19 = .ok (.lushr, 1) := by decide +kernel
theorem dX1_top_20 : decode cX1_top 20 = .ok (.lstore 7, 2) := by decide +kernel
theorem dX1_top_22 : decode cX1_top 22 = .ok (.lload 7, 2) := by decide +kernel
theorem dX1_top_24 : decode cX1_top 24 = .ok (.invokestatic 33, 3) := by decide +kernel
theorem dX1_top_27 : decode cX1_top 27 = .ok (.lstore 9, 2) := by decide +kernel
theorem dX1_top_29 : decode cX1_top 29 = .ok (.lload_n 2, 1) := by decide +kernel
theorem dX1_top_30 : decode cX1_top 30 = .ok (.lload 9, 2) := by decide +kernel
theorem dX1_top_32 : decode cX1_top 32 = .ok (.iload 6, 2) := by decide +kernel
theorem dX1_top_34 : decode cX1_top 34 = .ok (.lshl, 1) := by decide +kernel
theorem dX1_top_35 : decode cX1_top 35 = .ok (.lor, 1) := by decide +kernel
theorem dX1_top_36 : decode cX1_top 36 = .ok (.lstore_n 2, 1) := by decide +kernel
theorem dX1_top_37 : decode cX1_top 37 = .ok (.lload 9, 2) := by decide +kernel
theorem dX1_top_39 : decode cX1_top 39 = .ok (.lload 7, 2) := by decide +kernel
theorem dX1_top_41 : decode cX1_top 41 = .ok (.lload 4, 2) := by decide +kernel
theorem dX1_top_43 : decode cX1_top 43 = .ok (.invokestatic 26, 3) := by decide +kernel
theorem dX1_top_46 : decode cX1_top 46 = .ok (.lstore 4, 2) := by decide +kernel
theorem dX1_top_48 : decode cX1_top 48 = .ok (.iinc 6 (-1), 3) := by decide +kernel
theorem dX1_top_51 : decode cX1_top 51 = .ok (.goto (-43), 3) := by decide +kernel
theorem dX1_top_54 : decode cX1_top 54 = .ok (.lload_n 2, 1) := by decide +kernel
theorem dX1_top_55 : decode cX1_top 55 = .ok (.lreturn, 1) := by decide +kernel
theorem dX3_round_0 : decode cX3_round 0 = .ok (.lload_n 2, 1) := by decide +kernel
theorem dX3_round_1 : decode cX3_round 1 = .ok (.aload_n 1, 1) := by decide +kernel
theorem dX3_round_2 : decode cX3_round 2 = .ok (.getfield 9, 3) := by decide +kernel
theorem dX3_round_5 : decode cX3_round 5 = .ok (.invokestatic 15, 3) := by decide +kernel
theorem dX3_round_8 : decode cX3_round 8 = .ok (.lstore 4, 2) := by decide +kernel
theorem dX3_round_10 : decode cX3_round 10 = .ok (.aload_n 1, 1) := by decide +kernel
theorem dX3_round_11 : decode cX3_round 11 = .ok (.getfield 21, 3) := by decide +kernel
theorem dX3_round_14 : decode cX3_round 14 = .ok (.iconst 2, 1) := by decide +kernel
theorem dX3_round_15 : decode cX3_round 15 = .ok (.lshl, 1) := by decide +kernel
theorem dX3_round_16 : decode cX3_round 16 = .ok (.lstore 6, 2) := by decide +kernel
theorem dX3_round_18 : decode cX3_round 18 = .ok (.lload 6, 2) := by decide +kernel
theorem dX3_round_20 : decode cX3_round 20 = .ok (.lconst 1, 1) := by decide +kernel
theorem dX3_round_21 : decode cX3_round 21 = .ok (.lload 4, 2) := by decide +kernel
theorem dX3_round_23 : decode cX3_round 23 = .ok (.invokestatic 24, 3) := by decide +kernel
theorem dX3_round_26 : decode cX3_round 26 = .ok (.invokestatic 27, 3) := by decide +kernel
theorem dX3_round_29 : decode cX3_round 29 = .ok (.lstore 8, 2) := by decide +kernel
theorem dX3_round_31 : decode cX3_round 31 = .ok (.lload 6, 2) := by decide +kernel
theorem dX3_round_33 : decode cX3_round 33 = .ok (.lload 4, 2) := by decide +kernel
theorem dX3_round_35 : decode cX3_round 35 = .ok (.invokestatic 30, 3) := by decide +kernel
theorem dX3_round_38 : decode cX3_round 38 = .ok (.lstore 10, 2) := by decide +kernel
theorem dX3_round_40 : decode cX3_round 40 = .ok (.lload 4, 2) := by decide +kernel
theorem dX3_round_42 : decode cX3_round 42 = .ok (.invokestatic 33, 3) := by decide +kernel
theorem dX3_round_45 : decode cX3_round 45 = .ok (.lload 8, 2) := by decide +kernel
theorem dX3_round_47 : decode cX3_round 47 = .ok (.lload 10, 2) := by decide +kernel
theorem dX3_round_49 : decode cX3_round 49 = .ok (.invokestatic 37, 3) := by decide +kernel
theorem dX3_round_52 : decode cX3_round 52 = .ok (.lstore 12, 2) := by decide +kernel
theorem dX3_round_54 : decode cX3_round 54 = .ok (.lload 12, 2) := by decide +kernel
theorem dX3_round_56 : decode cX3_round 56 = .ok (.iconst 2, 1) := by decide +kernel
theorem dX3_round_57 : decode cX3_round 57 = .ok (.lushr, 1) := by decide +kernel
theorem dX3_round_58 : decode cX3_round 58 = .ok (.lstore 14, 2) := by decide +kernel
theorem dX3_round_60 : decode cX3_round 60 = .ok (.lload 14, 2) := by decide +kernel
theorem dX3_round_62 : decode cX3_round 62 = .ok (.iload_n 0, 1) := by decide +kernel
theorem dX3_round_63 : decode cX3_round 63 = .ok (.aload_n 1, 1) := by decide +kernel
theorem dX3_round_64 : decode cX3_round 64 = .ok (.getfield 41, 3) := by decide +kernel
theorem dX3_round_67 : decode cX3_round 67 = .ok (.lload 14, 2) := by decide +kernel
theorem dX3_round_69 : decode cX3_round 69 = .ok (.lconst 1, 1) := by decide +kernel
theorem dX3_round_70 : decode cX3_round 70 = .ok (.land, 1) := by decide +kernel
theorem dX3_round_71 : decode cX3_round 71 = .ok (.lload 12, 2) := by decide +kernel
theorem dX3_round_73 : decode cX3_round 73 = .ok (.iconst 1, 1) := by decide +kernel
theorem dX3_round_74 : decode cX3_round 74 = .ok (.lushr, 1) := by decide +kernel
theorem dX3_round_75 : decode cX3_round 75 = .ok (.lconst 1, 1) := by decide +kernel
theorem dX3_round_76 : decode cX3_round 76 = .ok (.land, 1) := by decide +kernel
theorem dX3_round_77 : decode cX3_round 77 = .ok (.lload 12, 2) := by decide +kernel
theorem dX3_round_79 : decode cX3_round 79 = .ok (.lconst 1, 1) := by decide +kernel
theorem dX3_round_80 : decode cX3_round 80 = .ok (.land, 1) := by decide +kernel
theorem dX3_round_81 : decode cX3_round 81 = .ok (.invokestatic 44, 3) := by decide +kernel
theorem dX3_round_84 : decode cX3_round 84 = .ok (.invokestatic 50, 3) := by decide +kernel
theorem dX3_round_87 : decode cX3_round 87 = .ok (.lreturn, 1) := by decide +kernel
theorem dX1_shiftRightMarking_0 : decode cX1_shiftRightMarking 0 = .ok (.lload_n 0, 1) := by decide +kernel
theorem dX1_shiftRightMarking_1 : decode cX1_shiftRightMarking 1 = .ok (.lstore 4, 2) := by decide +kernel
theorem dX1_shiftRightMarking_3 : decode cX1_shiftRightMarking 3 = .ok (.iconst 0, 1) := by decide +kernel
theorem dX1_shiftRightMarking_4 : decode cX1_shiftRightMarking 4 = .ok (.istore 6, 2) := by decide +kernel
theorem dX1_shiftRightMarking_6 : decode cX1_shiftRightMarking 6 = .ok (.iload 6, 2) := by decide +kernel
theorem dX1_shiftRightMarking_8 : decode cX1_shiftRightMarking 8 = .ok (.bipush 6, 2) := by decide +kernel
theorem dX1_shiftRightMarking_10 : decode cX1_shiftRightMarking 10 = .ok (.if_icmp .ge 47, 3) := by decide +kernel
theorem dX1_shiftRightMarking_13 : decode cX1_shiftRightMarking 13 = .ok (.iconst 1, 1) := by decide +kernel
theorem dX1_shiftRightMarking_14 : decode cX1_shiftRightMarking 14 = .ok (.iload 6, 2) := by decide +kernel
theorem dX1_shiftRightMarking_16 : decode cX1_shiftRightMarking 16 = .ok (.ishl, 1) := by decide +kernel
theorem dX1_shiftRightMarking_17 : decode cX1_shiftRightMarking 17 = .ok (.istore 7, 2) := by decide +kernel
theorem dX1_shiftRightMarking_19 : decode cX1_shiftRightMarking 19 = .ok (.lload 4, 2) := by decide +kernel
theorem dX1_shiftRightMarking_21 : decode cX1_shiftRightMarking 21 = .ok (.iload 7, 2) := by decide +kernel
theorem dX1_shiftRightMarking_23 : decode cX1_shiftRightMarking 23 = .ok (.lushr, 1) := by decide +kernel
theorem dX1_shiftRightMarking_24 : decode cX1_shiftRightMarking 24 = .ok (.lload 4, 2) := by decide +kernel
theorem dX1_shiftRightMarking_26 : decode cX1_shiftRightMarking 26 = .ok (.iload 7, 2) := by decide +kernel
theorem dX1_shiftRightMarking_28 : decode cX1_shiftRightMarking 28 = .ok (.invokestatic 29, 3) := by decide +kernel
theorem dX1_shiftRightMarking_31 : decode cX1_shiftRightMarking 31 = .ok (.land, 1) := by decide +kernel
theorem dX1_shiftRightMarking_32 : decode cX1_shiftRightMarking 32 = .ok (.invokestatic 33, 3) := by decide +kernel
theorem dX1_shiftRightMarking_35 : decode cX1_shiftRightMarking 35 = .ok (.lor, 1) := by decide +kernel
theorem dX1_shiftRightMarking_36 : decode cX1_shiftRightMarking 36 = .ok (.lstore 8, 2) := by decide +kernel
theorem dX1_shiftRightMarking_38 : decode cX1_shiftRightMarking 38 = .ok (.lload_n 2, 1) := by decide +kernel
theorem dX1_shiftRightMarking_39 : decode cX1_shiftRightMarking 39 = .ok (.iload 6, 2) := by decide +kernel
theorem dX1_shiftRightMarking_41 : decode cX1_shiftRightMarking 41 = .ok (.lushr, 1) := by decide +kernel
theorem dX1_shiftRightMarking_42 : decode cX1_shiftRightMarking 42 = .ok (.lload 8, 2) := by decide +kernel
theorem dX1_shiftRightMarking_44 : decode cX1_shiftRightMarking 44 = .ok (.lload 4, 2) := by decide +kernel
theorem dX1_shiftRightMarking_46 : decode cX1_shiftRightMarking 46 = .ok (.invokestatic 26, 3) := by decide +kernel
theorem dX1_shiftRightMarking_49 : decode cX1_shiftRightMarking 49 = .ok (.lstore 4, 2) := by decide +kernel
theorem dX1_shiftRightMarking_51 : decode cX1_shiftRightMarking 51 = .ok (.iinc 6 1, 3) := by decide +kernel
theorem dX1_shiftRightMarking_54 : decode cX1_shiftRightMarking 54 = .ok (.goto (-48), 3) := by decide +kernel
theorem dX1_shiftRightMarking_57 : decode cX1_shiftRightMarking 57 = .ok (.lload 4, 2) := by decide +kernel
theorem dX1_shiftRightMarking_59 : decode cX1_shiftRightMarking 59 = .ok (.lreturn, 1) := by decide +kernel
theorem dX3_oneMore_0 : decode cX3_oneMore 0 = .ok (.iload_n 0, 1) := by decide +kernel
theorem dX3_oneMore_1 : decode cX3_oneMore 1 = .ok (.tableswitch 60 0 3 #[31, 39, 42, 52], 31) := by decide +kernel
theorem dX3_oneMore_32 : decode cX3_oneMore 32 = .ok (.lload 5, 2) := by decide +kernel
theorem dX3_oneMore_34 : decode cX3_oneMore 34 = .ok (.lload 7, 2) := by decide +kernel
theorem dX3_oneMore_36 : decode cX3_oneMore 36 = .ok (.lload_n 3, 1) := by decide +kernel
theorem dX3_oneMore_37 : decode cX3_oneMore 37 = .ok (.lor, 1) := by decide +kernel
theorem dX3_oneMore_38 : decode cX3_oneMore 38 = .ok (.land, 1) := by decide +kernel
theorem dX3_oneMore_39 : decode cX3_oneMore 39 = .ok (.lreturn, 1) := by decide +kernel
theorem dX3_oneMore_40 : decode cX3_oneMore 40 = .ok (.lload 5, 2) := by decide +kernel
theorem dX3_oneMore_42 : decode cX3_oneMore 42 = .ok (.lreturn, 1) := by decide +kernel
theorem dX3_oneMore_43 : decode cX3_oneMore 43 = .ok (.lload 5, 2) := by decide +kernel
theorem dX3_oneMore_45 : decode cX3_oneMore 45 = .ok (.lload 7, 2) := by decide +kernel
theorem dX3_oneMore_47 : decode cX3_oneMore 47 = .ok (.lor, 1) := by decide +kernel
theorem dX3_oneMore_48 : decode cX3_oneMore 48 = .ok (.lload_n 1, 1) := by decide +kernel
theorem dX3_oneMore_49 : decode cX3_oneMore 49 = .ok (.lconst 1, 1) := by decide +kernel
theorem dX3_oneMore_50 : decode cX3_oneMore 50 = .ok (.lxor, 1) := by decide +kernel
theorem dX3_oneMore_51 : decode cX3_oneMore 51 = .ok (.land, 1) := by decide +kernel
theorem dX3_oneMore_52 : decode cX3_oneMore 52 = .ok (.lreturn, 1) := by decide +kernel
theorem dX3_oneMore_53 : decode cX3_oneMore 53 = .ok (.lload 5, 2) := by decide +kernel
theorem dX3_oneMore_55 : decode cX3_oneMore 55 = .ok (.lload 7, 2) := by decide +kernel
theorem dX3_oneMore_57 : decode cX3_oneMore 57 = .ok (.lor, 1) := by decide +kernel
theorem dX3_oneMore_58 : decode cX3_oneMore 58 = .ok (.lload_n 1, 1) := by decide +kernel
theorem dX3_oneMore_59 : decode cX3_oneMore 59 = .ok (.land, 1) := by decide +kernel
theorem dX3_oneMore_60 : decode cX3_oneMore 60 = .ok (.lreturn, 1) := by decide +kernel
theorem dX3_oneMore_61 : decode cX3_oneMore 61 = .ok (.lconst 0, 1) := by decide +kernel
theorem dX3_oneMore_62 : decode cX3_oneMore 62 = .ok (.lreturn, 1) := by decide +kernel
theorem dX3_isEndless_0 : decode cX3_isEndless 0 = .ok (.iload_n 0, 1) := by decide +kernel
theorem dX3_isEndless_1 : decode cX3_isEndless 1 = .ok (.tableswitch 57 0 3 #[31, 31, 33, 45], 31) := by decide +kernel
theorem dX3_isEndless_32 : decode cX3_isEndless 32 = .ok (.iconst 1, 1) := by decide +kernel
theorem dX3_isEndless_33 : decode cX3_isEndless 33 = .ok (.ireturn, 1) := by decide +kernel
theorem dX3_isEndless_34 : decode cX3_isEndless 34 = .ok (.lload_n 1, 1) := by decide +kernel
theorem dX3_isEndless_35 : decode cX3_isEndless 35 = .ok (.lconst 0, 1) := by decide +kernel
theorem dX3_isEndless_36 : decode cX3_isEndless 36 = .ok (.lcmp, 1) := by decide +kernel
theorem dX3_isEndless_37 : decode cX3_isEndless 37 = .ok (.ifCond .ne 7, 3) := by decide +kernel
theorem dX3_isEndless_40 : decode cX3_isEndless 40 = .ok (.iconst 1, 1) := by decide +kernel
theorem dX3_isEndless_41 : decode cX3_isEndless 41 = .ok (.goto 4, 3) := by decide +kernel
theorem dX3_isEndless_44 : decode cX3_isEndless 44 = .ok (.iconst 0, 1) := by decide +kernel
theorem dX3_isEndless_45 : decode cX3_isEndless 45 = .ok (.ireturn, 1) := by decide +kernel
theorem dX3_isEndless_46 : decode cX3_isEndless 46 = .ok (.lload_n 1, 1) := by decide +kernel
theorem dX3_isEndless_47 : decode cX3_isEndless 47 = .ok (.lconst 1, 1) := by decide +kernel
theorem dX3_isEndless_48 : decode cX3_isEndless 48 = .ok (.lcmp, 1) := by decide +kernel
theorem dX3_isEndless_49 : decode cX3_isEndless 49 = .ok (.ifCond .ne 7, 3) := by decide +kernel
theorem dX3_isEndless_52 : decode cX3_isEndless 52 = .ok (.iconst 1, 1) := by decide +kernel
theorem dX3_isEndless_53 : decode cX3_isEndless 53 = .ok (.goto 4, 3) := by decide +kernel
theorem dX3_isEndless_56 : decode cX3_isEndless 56 = .ok (.iconst 0, 1) := by decide +kernel
