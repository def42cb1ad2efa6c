theorem dX5_least_45 : decode cX5_least 45 = .ok (.iload_n 2, 1) := by decide +kernel
theorem dX5_least_46 : decode cX5_least 46 = .ok (.invokevirtual 85, 3) := by decide +kernel
theorem dX5_least_49 : decode cX5_least 49 = .ok (.ifCond .eq 13, 3) := by decide +kernel
theorem dX5_least_52 : decode cX5_least 52 = .ok (.aload_n 0, 1) := by decide +kernel
theorem dX5_least_53 : decode cX5_least 53 = .ok (.getfield 12, 3) := by decide +kernel
theorem dX5_least_56 : decode cX5_least 56 = .ok (.getfield 80, 3) := by decide +kernel
theorem dX5_least_59 : decode cX5_least 59 = .ok (.goto 4, 3) := by decide +kernel
theorem dX5_least_62 : decode cX5_least 62 = .ok (.iload_n 2, 1) := by decide +kernel
theorem dX5_least_63 : decode cX5_least 63 = .ok (.ireturn, 1) := by decide +kernel
theorem dX5_least_64 : decode cX5_least 64 = .ok (.aload_n 0, 1) := by decide +kernel
theorem dX5_least_65 : decode cX5_least 65 = .ok (.getfield 12, 3) := by decide +kernel
theorem dX5_least_68 : decode cX5_least 68 = .ok (.iload_n 2, 1) := by decide +kernel
theorem dX5_least_69 : decode cX5_least 69 = .ok (.invokevirtual 85, 3) := by decide +kernel
theorem dX5_least_72 : decode cX5_least 72 = .ok (.ifCond .eq 5, 3) := by decide +kernel
theorem dX5_least_75 : decode cX5_least 75 = .ok (.iload_n 1, 1) := by decide +kernel
theorem dX5_least_76 : decode cX5_least 76 = .ok (.ireturn, 1) := by decide +kernel
theorem dX5_least_77 : decode cX5_least 77 = .ok (.iload_n 3, 1) := by decide +kernel
theorem dX5_least_78 : decode cX5_least 78 = .ok (.ifCond .eq 15, 3) := by decide +kernel
theorem dX5_least_81 : decode cX5_least 81 = .ok (.aload_n 0, 1) := by decide +kernel
theorem dX5_least_82 : decode cX5_least 82 = .ok (.getfield 12, 3) := by decide +kernel
theorem dX5_least_85 : decode cX5_least 85 = .ok (.iload_n 2, 1) := by decide +kernel
theorem dX5_least_86 : decode cX5_least 86 = .ok (.iload_n 1, 1) := by decide +kernel
theorem dX5_least_87 : decode cX5_least 87 = .ok (.invokevirtual 88, 3) := by decide +kernel
theorem dX5_least_90 : decode cX5_least 90 = .ok (.goto 12, 3) := by decide +kernel
theorem dX5_least_93 : decode cX5_least 93 = .ok (.aload_n 0, 1) := by decide +kernel
theorem dX5_least_94 : decode cX5_least 94 = .ok (.getfield 12, 3) := by decide +kernel
theorem dX5_least_97 : decode cX5_least 97 = .ok (.iload_n 1, 1) := by decide +kernel
theorem dX5_least_98 : decode cX5_least 98 = .ok (.iload_n 2, 1) := by decide +kernel
theorem dX5_least_99 : decode cX5_least 99 = .ok (.invokevirtual 88, 3) := by decide +kernel
theorem dX5_least_102 : decode cX5_least 102 = .ok (.istore 4, 2) := by decide +kernel
theorem dX5_least_104 : decode cX5_least 104 = .ok (.iload 4, 2) := by decide +kernel
theorem dX5_least_106 : decode cX5_least 106 = .ok (.ifCond .eq 7, 3) := by decide +kernel
theorem dX5_least_109 : decode cX5_least 109 = .ok (.iload_n 1, 1) := by decide +kernel
theorem dX5_least_110 : decode cX5_least 110 = .ok (.goto 4, 3) := by decide +kernel
theorem dX5_least_113 : decode cX5_least 113 = .ok (.iload_n 2, 1) := by decide +kernel
theorem dX5_least_114 : decode cX5_least 114 = .ok (.ireturn, 1) := by decide +kernel
theorem dX0_isBelow_0 : decode cX0_isBelow 0 = .ok (.aload_n 0, 1) := by decide +kernel
theorem dX0_isBelow_1 : decode cX0_isBelow 1 = .ok (.iload_n 1, 1) := by decide +kernel
theorem dX0_isBelow_2 : decode cX0_isBelow 2 = .ok (.invokevirtual 48, 3) := by decide +kernel
theorem dX0_isBelow_5 : decode cX0_isBelow 5 = .ok (.aload_n 0, 1) := by decide +kernel
theorem dX0_isBelow_6 : decode cX0_isBelow 6 = .ok (.iload_n 2, 1) := by decide +kernel
theorem dX0_isBelow_7 : decode cX0_isBelow 7 = .ok (.invokevirtual 48, 3) := by decide +kernel
theorem dX0_isBelow_10 : decode cX0_isBelow 10 = .ok (.invokestatic 38, 3) := by decide +kernel
theorem dX0_isBelow_13 : decode cX0_isBelow 13 = .ok (.lconst 1, 1) := by decide +kernel
theorem dX0_isBelow_14 : decode cX0_isBelow 14 = .ok (.lcmp, 1) := by decide +kernel
theorem dX0_isBelow_15 : decode cX0_isBelow 15 = .ok (.ifCond .ne 7, 3) := by decide +kernel
theorem dX0_isBelow_18 : decode cX0_isBelow 18 = .ok (.iconst 1, 1) := by decide +kernel
theorem dX0_isBelow_19 : decode cX0_isBelow 19 = .ok (.goto 4, 3) := by decide +kernel
theorem dX0_isBelow_22 : decode cX0_isBelow 22 = .ok (.iconst 0, 1) := by decide +kernel
theorem dX0_isBelow_23 : decode cX0_isBelow 23 = .ok (.ireturn, 1) := by decide +kernel
theorem dX0_rank_0 : decode cX0_rank 0 = .ok (.aload_n 0, 1) := by decide +kernel
theorem dX0_rank_1 : decode cX0_rank 1 = .ok (.iload_n 1, 1) := by decide +kernel
theorem dX0_rank_2 : decode cX0_rank 2 = .ok (.invokevirtual 51, 3) := by decide +kernel
theorem dX0_rank_5 : decode cX0_rank 5 = .ok (.aload_n 0, 1) := by decide +kernel
theorem dX0_rank_6 : decode cX0_rank 6 = .ok (.iload_n 1, 1) := by decide +kernel
theorem dX0_rank_7 : decode cX0_rank 7 = .ok (.invokevirtual 34, 3) := by decide +kernel
theorem dX0_rank_10 : decode cX0_rank 10 = .ok (.invokestatic 125, 3) := by decide +kernel
theorem dX0_rank_13 : decode cX0_rank 13 = .ok (.lreturn, 1) := by decide +kernel
theorem dL_compare_0 : decode cL_compare 0 = .ok (.aload 4, 2) := by decide +kernel
theorem dL_compare_2 : decode cL_compare 2 = .ok (.iconst 0, 1) := by decide +kernel
theorem dL_compare_3 : decode cL_compare 3 = .ok (.aload_n 0, 1) := by decide +kernel
theorem dL_compare_4 : decode cL_compare 4 = .ok (.iload_n 1, 1) := by decide +kernel
theorem dL_compare_5 : decode cL_compare 5 = .ok (.iload_n 2, 1) := by decide +kernel
theorem dL_compare_6 : decode cL_compare 6 = .ok (.iload_n 3, 1) := by decide +kernel
theorem dL_compare_7 : decode cL_compare 7 = .ok (.invokevirtual 27, 3) := by decide +kernel
theorem dL_compare_10 : decode cL_compare 10 = .ok (.ifCond .eq 7, 3) := by decide +kernel
theorem dL_compare_13 : decode cL_compare 13 = .ok (.lconst 1, 1) := by decide +kernel
theorem dL_compare_14 : decode cL_compare 14 = .ok (.goto 4, 3) := by decide +kernel
theorem dL_compare_17 : decode cL_compare 17 = .ok (.lconst 0, 1) := by decide +kernel
theorem dL_compare_18 : decode cL_compare 18 = .ok (.lastore, 1) := by decide +kernel
theorem dL_compare_19 : decode cL_compare 19 = .ok (.goto 7, 3) := by decide +kernel
theorem dL_compare_22 : decode cL_compare 22 = .ok (.astore 5, 2) := by decide +kernel
theorem dL_compare_24 : decode cL_compare 24 = .ok (.iconst 1, 1) := by decide +kernel
theorem dL_compare_25 : decode cL_compare 25 = .ok (.ireturn, 1) := by decide +kernel
theorem dL_compare_26 : decode cL_compare 26 = .ok (.iconst 0, 1) := by decide +kernel
theorem dL_compare_27 : decode cL_compare 27 = .ok (.ireturn, 1) := by decide +kernel
theorem dX5_compare_0 : decode cX5_compare 0 = .ok (.iload_n 1, 1) := by decide +kernel
theorem dX5_compare_1 : decode cX5_compare 1 = .ok (.iconst 0, 1) := by decide +kernel
theorem dX5_compare_2 : decode cX5_compare 2 = .ok (.iconst 3, 1) := by decide +kernel
theorem dX5_compare_3 : decode cX5_compare 3 = .ok (.invokestatic 30, 3) := by decide +kernel
theorem dX5_compare_6 : decode cX5_compare 6 = .ok (.ifCond .eq 29, 3) := by decide +kernel
theorem dX5_compare_9 : decode cX5_compare 9 = .ok (.aload_n 0, 1) := by decide +kernel
theorem dX5_compare_10 : decode cX5_compare 10 = .ok (.getfield 12, 3) := by decide +kernel
theorem dX5_compare_13 : decode cX5_compare 13 = .ok (.iload_n 2, 1) := by decide +kernel
theorem dX5_compare_14 : decode cX5_compare 14 = .ok (.invokevirtual 38, 3) := by decide +kernel
theorem dX5_compare_17 : decode cX5_compare 17 = .ok (.ifCond .eq 18, 3) := by decide +kernel
theorem dX5_compare_20 : decode cX5_compare 20 = .ok (.aload_n 0, 1) := by decide +kernel
theorem dX5_compare_21 : decode cX5_compare 21 = .ok (.getfield 12, 3) := by decide +kernel
theorem dX5_compare_24 : decode cX5_compare 24 = .ok (.iload_n 3, 1) := by decide +kernel
theorem dX5_compare_25 : decode cX5_compare 25 = .ok (.invokevirtual 38, 3) := by decide +kernel
theorem dX5_compare_28 : decode cX5_compare 28 = .ok (.ifCond .eq 7, 3) := by decide +kernel
theorem dX5_compare_31 : decode cX5_compare 31 = .ok (.iconst 1, 1) := by decide +kernel
theorem dX5_compare_32 : decode cX5_compare 32 = .ok (.goto 4, 3) := by decide +kernel
theorem dX5_compare_35 : decode cX5_compare 35 = .ok (.iconst 0, 1) := by decide +kernel
theorem dX5_compare_36 : decode cX5_compare 36 = .ok (.invokestatic 22, 3) := by decide +kernel
theorem dX5_compare_39 : decode cX5_compare 39 = .ok (.aload_n 0, 1) := by decide +kernel
theorem dX5_compare_40 : decode cX5_compare 40 = .ok (.getfield 12, 3) := by decide +kernel
theorem dX5_compare_43 : decode cX5_compare 43 = .ok (.iload_n 2, 1) := by decide +kernel
theorem dX5_compare_44 : decode cX5_compare 44 = .ok (.invokevirtual 85, 3) := by decide +kernel
theorem dX5_compare_47 : decode cX5_compare 47 = .ok (.ifCond .ne 14, 3) := by decide +kernel
theorem dX5_compare_50 : decode cX5_compare 50 = .ok (.aload_n 0, 1) := by decide +kernel
theorem dX5_compare_51 : decode cX5_compare 51 = .ok (.getfield 12, 3) := by decide +kernel
theorem dX5_compare_54 : decode cX5_compare 54 = .ok (.iload_n 3, 1) := by decide +kernel
theorem dX5_compare_55 : decode cX5_compare 55 = .ok (.invokevirtual 85, 3) := by decide +kernel
theorem dX5_compare_58 : decode cX5_compare 58 = .ok (.ifCond .eq 36, 3) := by decide +kernel
theorem dX5_compare_61 : decode cX5_compare 61 = .ok (.iload_n 1, 1) := by decide +kernel
theorem dX5_compare_62 : decode cX5_compare 62 = .ok (.iconst 3, 1) := by decide +kernel
theorem dX5_compare_63 : decode cX5_compare 63 = .ok (.if_icmp .ne 29, 3) := by decide +kernel
theorem dX5_compare_66 : decode cX5_compare 66 = .ok (.aload_n 0, 1) := by decide +kernel
theorem dX5_compare_67 : decode cX5_compare 67 = .ok (.getfield 12, 3) := by decide +kernel
theorem dX5_compare_70 : decode cX5_compare 70 = .ok (.iload_n 2, 1) := by decide +kernel
theorem dX5_compare_71 : decode cX5_compare 71 = .ok (.invokevirtual 85, 3) := by decide +kernel
theorem dX5_compare_74 : decode cX5_compare 74 = .ok (.ifCond .eq 18, 3) := by decide +kernel
theorem dX5_compare_77 : decode cX5_compare 77 = .ok (.aload_n 0, 1) := by decide +kernel
theorem dX5_compare_78 : decode cX5_compare 78 = .ok (.getfield 12, 3) := by decide +kernel
theorem dX5_compare_81 : decode cX5_compare 81 = .ok (.iload_n 3, 1) := by decide +kernel
theorem dX5_compare_82 : decode cX5_compare 82 = .ok (.invokevirtual 85, 3) := by decide +kernel
theorem dX5_compare_85 : decode cX5_compare 85 = .ok (.ifCond .eq 7, 3) := by decide +kernel
theorem dX5_compare_88 : decode cX5_compare 88 = .ok (.iconst 1, 1) := by decide +kernel
theorem dX5_compare_89 : decode cX5_compare 89 = .ok (.goto 4, 3) := by decide +kernel
theorem dX5_compare_92 : decode cX5_compare 92 = .ok (.iconst 0, 1) := by decide +kernel
theorem dX5_compare_93 : decode cX5_compare 93 = .ok (.ireturn, 1) := by decide +kernel
theorem dX5_compare_94 : decode cX5_compare 94 = .ok (.iload_n 1, 1) := by decide +kernel
theorem dX5_compare_95 : decode cX5_compare 95 = .ok (.tableswitch 83 0 2 #[25, 35, 53], 25) := by decide +kernel
theorem dX5_compare_120 : decode cX5_compare 120 = .ok (.aload_n 0, 1) := by decide +kernel
theorem dX5_compare_121 : decode cX5_compare 121 = .ok (.getfield 12, 3) := by decide +kernel
theorem dX5_compare_124 : decode cX5_compare 124 = .ok (.iload_n 2, 1) := by decide +kernel
theorem dX5_compare_125 : decode cX5_compare 125 = .ok (.iload_n 3, 1) := by decide +kernel
theorem dX5_compare_126 : decode cX5_compare 126 = .ok (.invokevirtual 88, 3) := by decide +kernel
theorem dX5_compare_129 : decode cX5_compare 129 = .ok (.ireturn, 1) := by decide +kernel
theorem dX5_compare_130 : decode cX5_compare 130 = .ok (.aload_n 0, 1) := by decide +kernel
theorem dX5_compare_131 : decode cX5_compare 131 = .ok (.getfield 12, 3) := by decide +kernel
theorem dX5_compare_134 : decode cX5_compare 134 = .ok (.iload_n 3, 1) := by decide +kernel
theorem dX5_compare_135 : decode cX5_compare 135 = .ok (.iload_n 2, 1) := by decide +kernel
theorem dX5_compare_136 : decode cX5_compare 136 = .ok (.invokevirtual 88, 3) := by decide +kernel
theorem dX5_compare_139 : decode cX5_compare 139 = .ok (.ifCond .ne 7, 3) := by decide +kernel
theorem dX5_compare_142 : decode cX5_compare 142 = .ok (.iconst 1, 1) := by decide +kernel
theorem dX5_compare_143 : decode cX5_compare 143 = .ok (.goto 4, 3) := by decide +kernel
theorem dX5_compare_146 : decode cX5_compare 146 = .ok (.iconst 0, 1) := by decide +kernel
theorem dX5_compare_147 : decode cX5_compare 147 = .ok (.ireturn, 1) := by decide +kernel
theorem dX5_compare_148 : decode cX5_compare 148 = .ok (.aload_n 0, 1) := by decide +kernel
theorem dX5_compare_149 : decode cX5_compare 149 = .ok (.getfield 12, 3) := by decide +kernel
theorem dX5_compare_152 : decode cX5_compare 152 = .ok (.iload_n 2, 1) := by decide +kernel
theorem dX5_compare_153 : decode cX5_compare 153 = .ok (.iload_n 3, 1) := by decide +kernel
theorem dX5_compare_154 : decode cX5_compare 154 = .ok (.invokevirtual 88, 3) := by decide +kernel
theorem dX5_compare_157 : decode cX5_compare 157 = .ok (.ifCond .ne 19, 3) := by decide +kernel
theorem dX5_compare_160 : decode cX5_compare 160 = .ok (.aload_n 0, 1) := by decide +kernel
theorem dX5_compare_161 : decode cX5_compare 161 = .ok (.getfield 12, 3) := by decide +kernel
theorem dX5_compare_164 : decode cX5_compare 164 = .ok (.iload_n 3, 1) := by decide +kernel
theorem dX5_compare_165 : decode cX5_compare 165 = .ok (.iload_n 2, 1) := by decide +kernel
theorem dX5_compare_166 : decode cX5_compare 166 = .ok (.invokevirtual 88, 3) := by decide +kernel
theorem dX5_compare_169 : decode cX5_compare 169 = .ok (.ifCond .ne 7, 3) := by decide +kernel
theorem dX5_compare_172 : decode cX5_compare 172 = .ok (.iconst 1, 1) := by decide +kernel
theorem dX5_compare_173 : decode cX5_compare 173 = .ok (.goto 4, 3) := by decide +kernel
theorem dX5_compare_176 : decode cX5_compare 176 = .ok (.iconst 0, 1) := by decide +kernel
theorem dX5_compare_177 : decode cX5_compare 177 = .ok (.ireturn, 1) := by decide +kernel
theorem dX5_compare_178 : decode cX5_compare 178 = .ok (.iload_n 2, 1) := by decide +kernel
theorem dX5_compare_179 : decode cX5_compare 179 = .ok (.iload_n 3, 1) := by decide +kernel
theorem dX5_compare_180 : decode cX5_compare 180 = .ok (.ixor, 1) := by decide +kernel
theorem dX5_compare_181 : decode cX5_compare 181 = .ok (.i2l, 1) := by decide +kernel
theorem dX5_compare_182 : decode cX5_compare 182 = .ok (.invokestatic 91, 3) := by decide +kernel
theorem dX5_compare_185 : decode cX5_compare 185 = .ok (.lconst 0, 1) := by decide +kernel
theorem dX5_compare_186 : decode cX5_compare 186 = .ok (.lcmp, 1) := by decide +kernel
theorem dX5_compare_187 : decode cX5_compare 187 = .ok (.ifCond .ne 7, 3) := by decide +kernel
theorem dX5_compare_190 : decode cX5_compare 190 = .ok (.iconst 1, 1) := by decide +kernel
theorem dX5_compare_191 : decode cX5_compare 191 = .ok (.goto 4, 3) := by decide +kernel
theorem dX5_compare_194 : decode cX5_compare 194 = .ok (.iconst 0, 1) := by decide +kernel
theorem dX5_compare_195 : decode cX5_compare 195 = .ok (.ireturn, 1) := by decide +kernel
theorem dL_is_0 : decode cL_is 0 = .ok (.aload_n 3, 1) := by decide +kernel
theorem dL_is_1 : decode cL_is 1 = .ok (.iconst 0, 1) := by decide +kernel
theorem dL_is_2 : decode cL_is 2 = .ok (.aload_n 0, 1) := by decide +kernel
theorem dL_is_3 : decode cL_is 3 = .ok (.iload_n 1, 1) := by decide +kernel
theorem dL_is_4 : decode cL_is 4 = .ok (.iload_n 2, 1) := by decide +kernel
theorem dL_is_5 : decode cL_is 5 = .ok (.invokevirtual 31, 3) := by decide +kernel
theorem dL_is_8 : decode cL_is 8 = .ok (.ifCond .eq 7, 3) := by decide +kernel
theorem dL_is_11 : decode cL_is 11 = .ok (.lconst 1, 1) := by decide +kernel
theorem dL_is_12 : decode cL_is 12 = .ok (.goto 4, 3) := by decide +kernel
theorem dL_is_15 : decode cL_is 15 = .ok (.lconst 0, 1) := by decide +kernel
theorem dL_is_16 : decode cL_is 16 = .ok (.lastore, 1) := by decide +kernel
theorem dL_is_17 : decode cL_is 17 = .ok (.goto 7, 3) := by decide +kernel
theorem dL_is_20 : decode cL_is 20 = .ok (.astore 4, 2) := by decide +kernel
theorem dL_is_22 : decode cL_is 22 = .ok (.iconst 1, 1) := by decide +kernel
theorem dL_is_23 : decode cL_is 23 = .ok (.ireturn, 1) := by decide +kernel
theorem dL_is_24 : decode cL_is 24 = .ok (.iconst 0, 1) := by decide +kernel
theorem dL_is_25 : decode cL_is 25 = .ok (.ireturn, 1) := by decide +kernel
theorem dX5_is_0 : decode cX5_is 0 = .ok (.iload_n 1, 1) := by decide +kernel
theorem dX5_is_1 : decode cX5_is 1 = .ok (.iconst 0, 1) := by decide +kernel
theorem dX5_is_2 : decode cX5_is 2 = .ok (.bipush 6, 2) := by decide +kernel
theorem dX5_is_4 : decode cX5_is 4 = .ok (.invokestatic 30, 3) := by decide +kernel
theorem dX5_is_7 : decode cX5_is 7 = .ok (.ifCond .eq 18, 3) := by decide +kernel
theorem dX5_is_10 : decode cX5_is 10 = .ok (.aload_n 0, 1) := by decide +kernel
theorem dX5_is_11 : decode cX5_is 11 = .ok (.getfield 12, 3) := by decide +kernel
theorem dX5_is_14 : decode cX5_is 14 = .ok (.iload_n 2, 1) := by decide +kernel
theorem dX5_is_15 : decode cX5_is 15 = .ok (.invokevirtual 38, 3) := by decide +kernel
theorem dX5_is_18 : decode cX5_is 18 = .ok (.ifCond .eq 7, 3) := by decide +kernel
theorem dX5_is_21 : decode cX5_is 21 = .ok (.iconst 1, 1) := by decide +kernel
theorem dX5_is_22 : decode cX5_is 22 = .ok (.goto 4, 3) := by decide +kernel
theorem dX5_is_25 : decode cX5_is 25 = .ok (.iconst 0, 1) := by decide +kernel
theorem dX5_is_26 : decode cX5_is 26 = .ok (.invokestatic 22, 3) := by decide +kernel
theorem dX5_is_29 : decode cX5_is 29 = .ok (.aload_n 0, 1) := by decide +kernel
theorem dX5_is_30 : decode cX5_is 30 = .ok (.getfield 12, 3) := by decide +kernel
theorem dX5_is_33 : decode cX5_is 33 = .ok (.iload_n 2, 1) := by decide +kernel
theorem dX5_is_34 : decode cX5_is 34 = .ok (.invokevirtual 41, 3) := by decide +kernel
theorem dX5_is_37 : decode cX5_is 37 = .ok (.astore_n 3, 1) := by decide +kernel
theorem dX5_is_38 : decode cX5_is 38 = .ok (.aload_n 3, 1) := by decide +kernel
theorem dX5_is_39 : decode cX5_is 39 = .ok (.getfield 76, 3) := by decide +kernel
theorem dX5_is_42 : decode cX5_is 42 = .ok (.ifCond .ne 14, 3) := by decide +kernel
theorem dX5_is_45 : decode cX5_is 45 = .ok (.aload_n 3, 1) := by decide +kernel
theorem dX5_is_46 : decode cX5_is 46 = .ok (.getfield 97, 3) := by decide +kernel
theorem dX5_is_49 : decode cX5_is 49 = .ok (.ifCond .ne 7, 3) := by decide +kernel
theorem dX5_is_52 : decode cX5_is 52 = .ok (.iconst 1, 1) := by decide +kernel
theorem dX5_is_53 : decode cX5_is 53 = .ok (.goto 4, 3) := by decide +kernel
theorem dX5_is_56 : decode cX5_is 56 = .ok (.iconst 0, 1) := by decide +kernel
theorem dX5_is_57 : decode cX5_is 57 = .ok (.istore 4, 2) := by decide +kernel
theorem dX5_is_59 : decode cX5_is 59 = .ok (.aload_n 0, 1) := by decide +kernel
theorem dX5_is_60 : decode cX5_is 60 = .ok (.getfield 12, 3) := by decide +kernel
theorem dX5_is_63 : decode cX5_is 63 = .ok (.iload_n 2, 1) := by decide +kernel
theorem dX5_is_64 : decode cX5_is 64 = .ok (.invokevirtual 100, 3) := by decide +kernel
theorem dX5_is_67 : decode cX5_is 67 = .ok (.istore 5, 2) := by decide +kernel
theorem dX5_is_69 : decode cX5_is 69 = .ok (.iload_n 1, 1) := by decide +kernel
theorem dX5_is_70 : decode cX5_is 70 = .ok (.tableswitch 114 0 5 #[38, 54, 77, 82, 87, 92], 38) := by decide +kernel
theorem dX5_is_108 : decode cX5_is 108 = .ok (.iload 4, 2) := by decide +kernel
theorem dX5_is_110 : decode cX5_is 110 = .ok (.ifCond .eq 12, 3) := by decide +kernel
theorem dX5_is_113 : decode cX5_is 113 = .ok (.iload 5, 2) := by decide +kernel
theorem dX5_is_115 : decode cX5_is 115 = .ok (.ifCond .eq 7, 3) := by decide +kernel
theorem dX5_is_118 : decode cX5_is 118 = .ok (.iconst 1, 1) := by decide +kernel
theorem dX5_is_119 : decode cX5_is 119 = .ok (.goto 4, 3) := by decide +kernel
theorem dX5_is_122 : decode cX5_is 122 = .ok (.iconst 0, 1) := by decide +kernel
theorem dX5_is_123 : decode cX5_is 123 = .ok (.ireturn, 1) := by decide +kernel
theorem dX5_is_124 : decode cX5_is 124 = .ok (.iload 4, 2) := by decide +kernel
theorem dX5_is_126 : decode cX5_is 126 = .ok (.ifCond .eq 19, 3) := by decide +kernel
theorem dX5_is_129 : decode cX5_is 129 = .ok (.iload 5, 2) := by decide +kernel
theorem dX5_is_131 : decode cX5_is 131 = .ok (.ifCond .ne 14, 3) := by decide +kernel
theorem dX5_is_134 : decode cX5_is 134 = .ok (.aload_n 3, 1) := by decide +kernel
theorem dX5_is_135 : decode cX5_is 135 = .ok (.invokevirtual 103, 3) := by decide +kernel
theorem dX5_is_138 : decode cX5_is 138 = .ok (.ifCond .ne 7, 3) := by decide +kernel
theorem dX5_is_141 : decode cX5_is 141 = .ok (.iconst 1, 1) := by decide +kernel
theorem dX5_is_142 : decode cX5_is 142 = .ok (.goto 4, 3) := by decide +kernel
theorem dX5_is_145 : decode cX5_is 145 = .ok (.iconst 0, 1) := by decide +kernel
theorem dX5_is_146 : decode cX5_is 146 = .ok (.ireturn, 1) := by decide +kernel
theorem dX5_is_147 : decode cX5_is 147 = .ok (.aload_n 3, 1) := by decide +kernel
theorem dX5_is_148 : decode cX5_is 148 = .ok (.invokevirtual 103, 3) := by decide +kernel
theorem dX5_is_151 : decode cX5_is 151 = .ok (.ireturn, 1) := by decide +kernel
theorem dX5_is_152 : decode cX5_is 152 = .ok (.aload_n 3, 1) := by decide +kernel
theorem dX5_is_153 : decode cX5_is 153 = .ok (.getfield 97, 3) := by decide +kernel
theorem dX5_is_156 : decode cX5_is 156 = .ok (.ireturn, 1) := by decide +kernel
theorem dX5_is_157 : decode cX5_is 157 = .ok (.aload_n 3, 1) := by decide +kernel
theorem dX5_is_158 : decode cX5_is 158 = .ok (.getfield 76, 3) := by decide +kernel
theorem dX5_is_161 : decode cX5_is 161 = .ok (.ireturn, 1) := by decide +kernel
theorem dX5_is_162 : decode cX5_is 162 = .ok (.aload_n 3, 1) := by decide +kernel
theorem dX5_is_163 : decode cX5_is 163 = .ok (.getfield 76, 3) := by decide +kernel
theorem dX5_is_166 : decode cX5_is 166 = .ok (.ifCond .ne 16, 3) := by decide +kernel
theorem dX5_is_169 : decode cX5_is 169 = .ok (.aload_n 3, 1) := by decide +kernel
theorem dX5_is_170 : decode cX5_is 170 = .ok (.getfield 107, 3) := by decide +kernel
theorem dX5_is_173 : decode cX5_is 173 = .ok (.lconst 1, 1) := by decide +kernel
theorem dX5_is_174 : decode cX5_is 174 = .ok (.lcmp, 1) := by decide +kernel
theorem dX5_is_175 : decode cX5_is 175 = .ok (.ifCond .ne 7, 3) := by decide +kernel
theorem dX5_is_178 : decode cX5_is 178 = .ok (.iconst 1, 1) := by decide +kernel
theorem dX5_is_179 : decode cX5_is 179 = .ok (.goto 4, 3) := by decide +kernel
theorem dX5_is_182 : decode cX5_is 182 = .ok (.iconst 0, 1) := by decide +kernel
theorem dX5_is_183 : decode cX5_is 183 = .ok (.ireturn, 1) := by decide +kernel
theorem dX5_is_184 : decode cX5_is 184 = .ok (.aload_n 3, 1) := by decide +kernel
theorem dX5_is_185 : decode cX5_is 185 = .ok (.getfield 76, 3) := by decide +kernel
theorem dX5_is_188 : decode cX5_is 188 = .ok (.ifCond .ne 16, 3) := by decide +kernel
theorem dX5_is_191 : decode cX5_is 191 = .ok (.aload_n 3, 1) := by decide +kernel
theorem dX5_is_192 : decode cX5_is 192 = .ok (.getfield 107, 3) := by decide +kernel
theorem dX5_is_195 : decode cX5_is 195 = .ok (.lconst 0, 1) := by decide +kernel
theorem dX5_is_196 : decode cX5_is 196 = .ok (.lcmp, 1) := by decide +kernel
theorem dX5_is_197 : decode cX5_is 197 = .ok (.ifCond .ne 7, 3) := by decide +kernel
theorem dX5_is_200 : decode cX5_is 200 = .ok (.iconst 1, 1) := by decide +kernel
theorem dX5_is_201 : decode cX5_is 201 = .ok (.goto 4, 3) := by decide +kernel
theorem dX5_is_204 : decode cX5_is 204 = .ok (.iconst 0, 1) := by decide +kernel
theorem dX5_is_205 : decode cX5_is 205 = .ok (.ireturn, 1) := by decide +kernel
theorem dX0_hasHiddenOne_0 : decode cX0_hasHiddenOne 0 = .ok (.aload_n 0, 1) := by decide +kernel
theorem dX0_hasHiddenOne_1 : decode cX0_hasHiddenOne 1 = .ok (.iload_n 1, 1) := by decide +kernel
theorem dX0_hasHiddenOne_2 : decode cX0_hasHiddenOne 2 = .ok (.invokevirtual 34, 3) := by decide +kernel
theorem dX0_hasHiddenOne_5 : decode cX0_hasHiddenOne 5 = .ok (.aload_n 0, 1) := by decide +kernel
theorem dX0_hasHiddenOne_6 : decode cX0_hasHiddenOne 6 = .ok (.getfield 13, 3) := by decide +kernel
theorem dX0_hasHiddenOne_9 : decode cX0_hasHiddenOne 9 = .ok (.lushr, 1) := by decide +kernel
theorem dX0_hasHiddenOne_10 : decode cX0_hasHiddenOne 10 = .ok (.invokestatic 44, 3) := by decide +kernel
theorem dX0_hasHiddenOne_13 : decode cX0_hasHiddenOne 13 = .ok (.lconst 1, 1) := by decide +kernel
theorem dX0_hasHiddenOne_14 : decode cX0_hasHiddenOne 14 = .ok (.lcmp, 1) := by decide +kernel
theorem dX0_hasHiddenOne_15 : decode cX0_hasHiddenOne 15 = .ok (.ifCond .ne 7, 3) := by decide +kernel
theorem dX0_hasHiddenOne_18 : decode cX0_hasHiddenOne 18 = .ok (.iconst 1, 1) := by decide +kernel
theorem dX0_hasHiddenOne_19 : decode cX0_hasHiddenOne 19 = .ok (.goto 4, 3) := by decide +kernel
theorem dX0_hasHiddenOne_22 : decode cX0_hasHiddenOne 22 = .ok (.iconst 0, 1) := by decide +kernel
theorem dX0_hasHiddenOne_23 : decode cX0_hasHiddenOne 23 = .ok (.ireturn, 1) := by decide +kernel
theorem dL_from_0 : decode cL_from 0 = .ok (.aload 5, 2) := by decide +kernel
theorem dL_from_2 : decode cL_from 2 = .ok (.iconst 0, 1) := by decide +kernel
theorem dL_from_3 : decode cL_from 3 = .ok (.aload_n 0, 1) := by decide +kernel
theorem dL_from_4 : decode cL_from 4 = .ok (.iload_n 1, 1) := by decide +kernel
theorem dL_from_5 : decode cL_from 5 = .ok (.iload_n 2, 1) := by decide +kernel
theorem dL_from_6 : decode cL_from 6 = .ok (.iload_n 3, 1) := by decide +kernel
theorem dL_from_7 : decode cL_from 7 = .ok (.iload 4, 2) := by decide +kernel
theorem dL_from_9 : decode cL_from 9 = .ok (.invokevirtual 35, 3) := by decide +kernel
theorem dL_from_12 : decode cL_from 12 = .ok (.i2l, 1) := by decide +kernel
theorem dL_from_13 : decode cL_from 13 = .ok (.lastore, 1) := by decide +kernel
theorem dL_from_14 : decode cL_from 14 = .ok (.goto 7, 3) := by decide +kernel
theorem dL_from_17 : decode cL_from 17 = .ok (.astore 6, 2) := by decide +kernel
theorem dL_from_19 : decode cL_from 19 = .ok (.iconst 1, 1) := by decide +kernel
theorem dL_from_20 : decode cL_from 20 = .ok (.ireturn, 1) := by decide +kernel
theorem dL_from_21 : decode cL_from 21 = .ok (.iconst 0, 1) := by decide +kernel
theorem dL_from_22 : decode cL_from 22 = .ok (.ireturn, 1) := by decide +kernel
theorem dX5_from_0 : decode cX5_from 0 = .ok (.iload_n 1, 1) := by decide +kernel
theorem dX5_from_1 : decode cX5_from 1 = .ok (.iload_n 2, 1) := by decide +kernel
theorem dX5_from_2 : decode cX5_from 2 = .ok (.invokestatic 18, 3) := by decide +kernel
theorem dX5_from_5 : decode cX5_from 5 = .ok (.ifCond .eq 14, 3) := by decide +kernel
theorem dX5_from_8 : decode cX5_from 8 = .ok (.iload_n 3, 1) := by decide +kernel
theorem dX5_from_9 : decode cX5_from 9 = .ok (.invokestatic 34, 3) := by decide +kernel
theorem dX5_from_12 : decode cX5_from 12 = .ok (.ifCond .eq 7, 3) := by decide +kernel
theorem dX5_from_15 : decode cX5_from 15 = .ok (.iconst 1, 1) := by decide +kernel
theorem dX5_from_16 : decode cX5_from 16 = .ok (.goto 4, 3) := by decide +kernel
theorem dX5_from_19 : decode cX5_from 19 = .ok (.iconst 0, 1) := by decide +kernel
theorem dX5_from_20 : decode cX5_from 20 = .ok (.invokestatic 22, 3) := by decide +kernel
theorem dX5_from_23 : decode cX5_from 23 = .ok (.new 7, 3) := by decide +kernel
theorem dX5_from_26 : decode cX5_from 26 = .ok (.dup, 1) := by decide +kernel
theorem dX5_from_27 : decode cX5_from 27 = .ok (.iload_n 1, 1) := by decide +kernel
theorem dX5_from_28 : decode cX5_from 28 = .ok (.iload_n 2, 1) := by decide +kernel
theorem dX5_from_29 : decode cX5_from 29 = .ok (.invokespecial 9, 3) := by decide +kernel
theorem dX5_from_32 : decode cX5_from 32 = .ok (.astore 5, 2) := by decide +kernel
theorem dX5_from_34 : decode cX5_from 34 = .ok (.aload 5, 2) := by decide +kernel
theorem dX5_from_36 : decode cX5_from 36 = .ok (.iload 4, 2) := by decide +kernel
theorem dX5_from_38 : decode cX5_from 38 = .ok (.invokevirtual 38, 3) := by decide +kernel
theorem dX5_from_41 : decode cX5_from 41 = .ok (.invokestatic 22, 3) := by decide +kernel
theorem dX5_from_44 : decode cX5_from 44 = .ok (.aload_n 0, 1) := by decide +kernel
theorem dX5_from_45 : decode cX5_from 45 = .ok (.getfield 12, 3) := by decide +kernel
theorem dX5_from_48 : decode cX5_from 48 = .ok (.iload_n 3, 1) := by decide +kernel
theorem dX5_from_49 : decode cX5_from 49 = .ok (.aload 5, 2) := by decide +kernel
theorem dX5_from_51 : decode cX5_from 51 = .ok (.iload 4, 2) := by decide +kernel
theorem dX5_from_53 : decode cX5_from 53 = .ok (.invokevirtual 41, 3) := by decide +kernel
theorem dX5_from_56 : decode cX5_from 56 = .ok (.invokevirtual 51, 3) := by decide +kernel
theorem dX5_from_59 : decode cX5_from 59 = .ok (.ireturn, 1) := by decide +kernel
theorem dL_ofWhole_0 : decode cL_ofWhole 0 = .ok (.aload 5, 2) := by decide +kernel
theorem dL_ofWhole_2 : decode cL_ofWhole 2 = .ok (.iconst 0, 1) := by decide +kernel
theorem dL_ofWhole_3 : decode cL_ofWhole 3 = .ok (.aload_n 0, 1) := by decide +kernel
theorem dL_ofWhole_4 : decode cL_ofWhole 4 = .ok (.iload_n 1, 1) := by decide +kernel
theorem dL_ofWhole_5 : decode cL_ofWhole 5 = .ok (.iload_n 2, 1) := by decide +kernel
theorem dL_ofWhole_6 : decode cL_ofWhole 6 = .ok (.iload_n 3, 1) := by decide +kernel
theorem dL_ofWhole_7 : decode cL_ofWhole 7 = .ok (.iload 4, 2) := by decide +kernel
theorem dL_ofWhole_9 : decode cL_ofWhole 9 = .ok (.invokevirtual 38, 3) := by decide +kernel
theorem dL_ofWhole_12 : decode cL_ofWhole 12 = .ok (.i2l, 1) := by decide +kernel
theorem dL_ofWhole_13 : decode cL_ofWhole 13 = .ok (.lastore, 1) := by decide +kernel
theorem dL_ofWhole_14 : decode cL_ofWhole 14 = .ok (.goto 7, 3) := by decide +kernel
theorem dL_ofWhole_17 : decode cL_ofWhole 17 = .ok (.astore 6, 2) := by decide +kernel
theorem dL_ofWhole_19 : decode cL_ofWhole 19 = .ok (.iconst 1, 1) := by decide +kernel
theorem dL_ofWhole_20 : decode cL_ofWhole 20 = .ok (.ireturn, 1) := by decide +kernel
theorem dL_ofWhole_21 : decode cL_ofWhole 21 = .ok (.iconst 0, 1) := by decide +kernel
theorem dL_ofWhole_22 : decode cL_ofWhole 22 = .ok (.ireturn, 1) := by decide +kernel
theorem dX5_ofWhole_0 : decode cX5_ofWhole 0 = .ok (.iload_n 1, 1) := by decide +kernel
theorem dX5_ofWhole_1 : decode cX5_ofWhole 1 = .ok (.invokestatic 34, 3) := by decide +kernel
theorem dX5_ofWhole_4 : decode cX5_ofWhole 4 = .ok (.ifCond .eq 17, 3) := by decide +kernel
theorem dX5_ofWhole_7 : decode cX5_ofWhole 7 = .ok (.iload_n 3, 1) := by decide +kernel
theorem dX5_ofWhole_8 : decode cX5_ofWhole 8 = .ok (.iconst 1, 1) := by decide +kernel
theorem dX5_ofWhole_9 : decode cX5_ofWhole 9 = .ok (.bipush 32, 2) := by decide +kernel
theorem dX5_ofWhole_11 : decode cX5_ofWhole 11 = .ok (.invokestatic 30, 3) := by decide +kernel
theorem dX5_ofWhole_14 : decode cX5_ofWhole 14 = .ok (.ifCond .eq 7, 3) := by decide +kernel
theorem dX5_ofWhole_17 : decode cX5_ofWhole 17 = .ok (.iconst 1, 1) := by decide +kernel
theorem dX5_ofWhole_18 : decode cX5_ofWhole 18 = .ok (.goto 4, 3) := by decide +kernel
theorem dX5_ofWhole_21 : decode cX5_ofWhole 21 = .ok (.iconst 0, 1) := by decide +kernel
theorem dX5_ofWhole_22 : decode cX5_ofWhole 22 = .ok (.invokestatic 22, 3) := by decide +kernel
theorem dX5_ofWhole_25 : decode cX5_ofWhole 25 = .ok (.iload_n 2, 1) := by decide +kernel
theorem dX5_ofWhole_26 : decode cX5_ofWhole 26 = .ok (.i2l, 1) := by decide +kernel
theorem dX5_ofWhole_27 : decode cX5_ofWhole 27 = .ok (.iload_n 3, 1) := by decide +kernel
theorem dX5_ofWhole_28 : decode cX5_ofWhole 28 = .ok (.invokestatic 111, 3) := by decide +kernel
theorem dX5_ofWhole_31 : decode cX5_ofWhole 31 = .ok (.land, 1) := by decide +kernel
theorem dX5_ofWhole_32 : decode cX5_ofWhole 32 = .ok (.lstore 5, 2) := by decide +kernel
theorem dX5_ofWhole_34 : decode cX5_ofWhole 34 = .ok (.iload 4, 2) := by decide +kernel
theorem dX5_ofWhole_36 : decode cX5_ofWhole 36 = .ok (.ifCond .eq 12, 3) := by decide +kernel
theorem dX5_ofWhole_39 : decode cX5_ofWhole 39 = .ok (.lload 5, 2) := by decide +kernel
theorem dX5_ofWhole_41 : decode cX5_ofWhole 41 = .ok (.iload_n 3, 1) := by decide +kernel
theorem dX5_ofWhole_42 : decode cX5_ofWhole 42 = .ok (.iconst 1, 1) := by decide +kernel
theorem dX5_ofWhole_43 : decode cX5_ofWhole 43 = .ok (.isub, 1) := by decide +kernel
theorem dX5_ofWhole_44 : decode cX5_ofWhole 44 = .ok (.lushr, 1) := by decide +kernel
theorem dX5_ofWhole_45 : decode cX5_ofWhole 45 = .ok (.goto 4, 3) := by decide +kernel
theorem dX5_ofWhole_48 : decode cX5_ofWhole 48 = .ok (.lconst 0, 1) := by decide +kernel
theorem dX5_ofWhole_49 : decode cX5_ofWhole 49 = .ok (.lstore 7, 2) := by decide +kernel
theorem dX5_ofWhole_51 : decode cX5_ofWhole 51 = .ok (.lload 5, 2) := by decide +kernel
theorem dX5_ofWhole_53 : decode cX5_ofWhole 53 = .ok (.lload 7, 2) := by decide +kernel
theorem dX5_ofWhole_55 : decode cX5_ofWhole 55 = .ok (.invokestatic 115, 3) := by decide +kernel
theorem dX5_ofWhole_58 : decode cX5_ofWhole 58 = .ok (.iload_n 3, 1) := by decide +kernel
theorem dX5_ofWhole_59 : decode cX5_ofWhole 59 = .ok (.invokestatic 111, 3) := by decide +kernel
theorem dX5_ofWhole_62 : decode cX5_ofWhole 62 = .ok (.ldc2_w 118, 3) := by decide +kernel
theorem dX5_ofWhole_65 : decode cX5_ofWhole 65 = .ok (.lxor, 1) := by decide +kernel
theorem dX5_ofWhole_66 : decode cX5_ofWhole 66 = .ok (.land, 1) := by decide +kernel
theorem dX5_ofWhole_67 : decode cX5_ofWhole 67 = .ok (.lor, 1) := by decide +kernel
theorem dX5_ofWhole_68 : decode cX5_ofWhole 68 = .ok (.lstore 9, 2) := by decide +kernel
theorem dX5_ofWhole_70 : decode cX5_ofWhole 70 = .ok (.aload_n 0, 1) := by decide +kernel
theorem dX5_ofWhole_71 : decode cX5_ofWhole 71 = .ok (.getfield 12, 3) := by decide +kernel
theorem dX5_ofWhole_74 : decode cX5_ofWhole 74 = .ok (.iload_n 1, 1) := by decide +kernel
theorem dX5_ofWhole_75 : decode cX5_ofWhole 75 = .ok (.lload 7, 2) := by decide +kernel
theorem dX5_ofWhole_77 : decode cX5_ofWhole 77 = .ok (.lconst 0, 1) := by decide +kernel
theorem dX5_ofWhole_78 : decode cX5_ofWhole 78 = .ok (.lload 7, 2) := by decide +kernel
theorem dX5_ofWhole_80 : decode cX5_ofWhole 80 = .ok (.lload 9, 2) := by decide +kernel
theorem dX5_ofWhole_82 : decode cX5_ofWhole 82 = .ok (.invokestatic 120, 3) := by decide +kernel
theorem dX5_ofWhole_85 : decode cX5_ofWhole 85 = .ok (.invokestatic 124, 3) := by decide +kernel
theorem dX5_ofWhole_88 : decode cX5_ofWhole 88 = .ok (.invokevirtual 51, 3) := by decide +kernel
theorem dX5_ofWhole_91 : decode cX5_ofWhole 91 = .ok (.ireturn, 1) := by decide +kernel
theorem dL_toWhole_0 : decode cL_toWhole 0 = .ok (.aload 5, 2) := by decide +kernel
theorem dL_toWhole_2 : decode cL_toWhole 2 = .ok (.iconst 0, 1) := by decide +kernel
theorem dL_toWhole_3 : decode cL_toWhole 3 = .ok (.aload_n 0, 1) := by decide +kernel
theorem dL_toWhole_4 : decode cL_toWhole 4 = .ok (.iload_n 1, 1) := by decide +kernel
theorem dL_toWhole_5 : decode cL_toWhole 5 = .ok (.iload_n 2, 1) := by decide +kernel
theorem dL_toWhole_6 : decode cL_toWhole 6 = .ok (.iload_n 3, 1) := by decide +kernel
theorem dL_toWhole_7 : decode cL_toWhole 7 = .ok (.iload 4, 2) := by decide +kernel
theorem dL_toWhole_9 : decode cL_toWhole 9 = .ok (.invokevirtual 42, 3) := by decide +kernel
theorem dL_toWhole_12 : decode cL_toWhole 12 = .ok (.i2l, 1) := by decide +kernel
theorem dL_toWhole_13 : decode cL_toWhole 13 = .ok (.lastore, 1) := by decide +kernel
theorem dL_toWhole_14 : decode cL_toWhole 14 = .ok (.goto 7, 3) := by decide +kernel
theorem dL_toWhole_17 : decode cL_toWhole 17 = .ok (.astore 6, 2) := by decide +kernel
theorem dL_toWhole_19 : decode cL_toWhole 19 = .ok (.iconst 1, 1) := by decide +kernel
theorem dL_toWhole_20 : decode cL_toWhole 20 = .ok (.ireturn, 1) := by decide +kernel
theorem dL_toWhole_21 : decode cL_toWhole 21 = .ok (.iconst 0, 1) := by decide +kernel
theorem dL_toWhole_22 : decode cL_toWhole 22 = .ok (.ireturn, 1) := by decide +kernel
theorem dX5_toWhole_0 : decode cX5_toWhole 0 = .ok (.iload_n 1, 1) := by decide +kernel
theorem dX5_toWhole_1 : decode cX5_toWhole 1 = .ok (.invokestatic 34, 3) := by decide +kernel
theorem dX5_toWhole_4 : decode cX5_toWhole 4 = .ok (.ifCond .eq 28, 3) := by decide +kernel
theorem dX5_toWhole_7 : decode cX5_toWhole 7 = .ok (.aload_n 0, 1) := by decide +kernel
theorem dX5_toWhole_8 : decode cX5_toWhole 8 = .ok (.getfield 12, 3) := by decide +kernel
theorem dX5_toWhole_11 : decode cX5_toWhole 11 = .ok (.iload_n 2, 1) := by decide +kernel
theorem dX5_toWhole_12 : decode cX5_toWhole 12 = .ok (.invokevirtual 38, 3) := by decide +kernel
theorem dX5_toWhole_15 : decode cX5_toWhole 15 = .ok (.ifCond .eq 17, 3) := by decide +kernel
theorem dX5_toWhole_18 : decode cX5_toWhole 18 = .ok (.iload_n 3, 1) := by decide +kernel
theorem dX5_toWhole_19 : decode cX5_toWhole 19 = .ok (.iconst 1, 1) := by decide +kernel
theorem dX5_toWhole_20 : decode cX5_toWhole 20 = .ok (.bipush 32, 2) := by decide +kernel
theorem dX5_toWhole_22 : decode cX5_toWhole 22 = .ok (.invokestatic 30, 3) := by decide +kernel
theorem dX5_toWhole_25 : decode cX5_toWhole 25 = .ok (.ifCond .eq 7, 3) := by decide +kernel
theorem dX5_toWhole_28 : decode cX5_toWhole 28 = .ok (.iconst 1, 1) := by decide +kernel
theorem dX5_toWhole_29 : decode cX5_toWhole 29 = .ok (.goto 4, 3) := by decide +kernel
theorem dX5_toWhole_32 : decode cX5_toWhole 32 = .ok (.iconst 0, 1) := by decide +kernel
theorem dX5_toWhole_33 : decode cX5_toWhole 33 = .ok (.invokestatic 22, 3) := by decide +kernel
theorem dX5_toWhole_36 : decode cX5_toWhole 36 = .ok (.iload_n 1, 1) := by decide +kernel
theorem dX5_toWhole_37 : decode cX5_toWhole 37 = .ok (.aload_n 0, 1) := by decide +kernel
theorem dX5_toWhole_38 : decode cX5_toWhole 38 = .ok (.getfield 12, 3) := by decide +kernel
theorem dX5_toWhole_41 : decode cX5_toWhole 41 = .ok (.iload_n 2, 1) := by decide +kernel
theorem dX5_toWhole_42 : decode cX5_toWhole 42 = .ok (.invokevirtual 41, 3) := by decide +kernel
theorem dX5_toWhole_45 : decode cX5_toWhole 45 = .ok (.invokestatic 72, 3) := by decide +kernel
theorem dX5_toWhole_48 : decode cX5_toWhole 48 = .ok (.astore 5, 2) := by decide +kernel
theorem dX5_toWhole_50 : decode cX5_toWhole 50 = .ok (.aload 5, 2) := by decide +kernel
theorem dX5_toWhole_52 : decode cX5_toWhole 52 = .ok (.getfield 76, 3) := by decide +kernel
theorem dX5_toWhole_55 : decode cX5_toWhole 55 = .ok (.ifCond .ne 22, 3) := by decide +kernel
theorem dX5_toWhole_58 : decode cX5_toWhole 58 = .ok (.aload 5, 2) := by decide +kernel
theorem dX5_toWhole_60 : decode cX5_toWhole 60 = .ok (.getfield 97, 3) := by decide +kernel
theorem dX5_toWhole_63 : decode cX5_toWhole 63 = .ok (.ifCond .ne 14, 3) := by decide +kernel
theorem dX5_toWhole_66 : decode cX5_toWhole 66 = .ok (.aload 5, 2) := by decide +kernel
theorem dX5_toWhole_68 : decode cX5_toWhole 68 = .ok (.iload_n 3, 1) := by decide +kernel
theorem dX5_toWhole_69 : decode cX5_toWhole 69 = .ok (.iload 4, 2) := by decide +kernel
theorem dX5_toWhole_71 : decode cX5_toWhole 71 = .ok (.invokestatic 128, 3) := by decide +kernel
theorem dX5_toWhole_74 : decode cX5_toWhole 74 = .ok (.ifCond .ne 5, 3) := by decide +kernel
theorem dX5_toWhole_77 : decode cX5_toWhole 77 = .ok (.iconst 0, 1) := by decide +kernel
theorem dX5_toWhole_78 : decode cX5_toWhole 78 = .ok (.ireturn, 1) := by decide +kernel
