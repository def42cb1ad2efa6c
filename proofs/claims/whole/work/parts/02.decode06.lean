theorem dX6_cut_116 : decode cX6_cut 116 = .ok (.ifCond .eq 7, 3) := by decide +kernel
theorem dX6_cut_119 : decode cX6_cut 119 = .ok (.iconst 1, 1) := by decide +kernel
theorem dX6_cut_120 : decode cX6_cut 120 = .ok (.goto 4, 3) := by decide +kernel
theorem dX6_cut_123 : decode cX6_cut 123 = .ok (.iconst 0, 1) := by decide +kernel
theorem dX6_cut_124 : decode cX6_cut 124 = .ok (.istore 11, 2) := by decide +kernel
theorem dX6_cut_126 : decode cX6_cut 126 = .ok (.iload 4, 2) := by decide +kernel
theorem dX6_cut_128 : decode cX6_cut 128 = .ok (.iload 5, 2) := by decide +kernel
theorem dX6_cut_130 : decode cX6_cut 130 = .ok (.lload 6, 2) := by decide +kernel
theorem dX6_cut_132 : decode cX6_cut 132 = .ok (.lconst 1, 1) := by decide +kernel
theorem dX6_cut_133 : decode cX6_cut 133 = .ok (.land, 1) := by decide +kernel
theorem dX6_cut_134 : decode cX6_cut 134 = .ok (.lconst 1, 1) := by decide +kernel
theorem dX6_cut_135 : decode cX6_cut 135 = .ok (.lcmp, 1) := by decide +kernel
theorem dX6_cut_136 : decode cX6_cut 136 = .ok (.ifCond .ne 7, 3) := by decide +kernel
theorem dX6_cut_139 : decode cX6_cut 139 = .ok (.iconst 1, 1) := by decide +kernel
theorem dX6_cut_140 : decode cX6_cut 140 = .ok (.goto 4, 3) := by decide +kernel
theorem dX6_cut_143 : decode cX6_cut 143 = .ok (.iconst 0, 1) := by decide +kernel
theorem dX6_cut_144 : decode cX6_cut 144 = .ok (.iload 11, 2) := by decide +kernel
theorem dX6_cut_146 : decode cX6_cut 146 = .ok (.iload 11, 2) := by decide +kernel
theorem dX6_cut_148 : decode cX6_cut 148 = .ok (.ifCond .eq 8, 3) := by decide +kernel
theorem dX6_cut_151 : decode cX6_cut 151 = .ok (.iload 10, 2) := by decide +kernel
theorem dX6_cut_153 : decode cX6_cut 153 = .ok (.goto 5, 3) := by decide +kernel
theorem dX6_cut_156 : decode cX6_cut 156 = .ok (.bipush (-2), 2) := by decide +kernel
theorem dX6_cut_158 : decode cX6_cut 158 = .ok (.invokestatic 109, 3) := by decide +kernel
theorem dX6_cut_161 : decode cX6_cut 161 = .ok (.ifCond .eq 10, 3) := by decide +kernel
theorem dX6_cut_164 : decode cX6_cut 164 = .ok (.lload 6, 2) := by decide +kernel
theorem dX6_cut_166 : decode cX6_cut 166 = .ok (.lconst 1, 1) := by decide +kernel
theorem dX6_cut_167 : decode cX6_cut 167 = .ok (.ladd, 1) := by decide +kernel
theorem dX6_cut_168 : decode cX6_cut 168 = .ok (.goto 5, 3) := by decide +kernel
theorem dX6_cut_171 : decode cX6_cut 171 = .ok (.lload 6, 2) := by decide +kernel
theorem dX6_cut_173 : decode cX6_cut 173 = .ok (.lreturn, 1) := by decide +kernel
theorem dX6_away_0 : decode cX6_away 0 = .ok (.iload_n 0, 1) := by decide +kernel
theorem dX6_away_1 : decode cX6_away 1 = .ok (.tableswitch 90 0 3 #[31, 51, 62, 76], 31) := by decide +kernel
theorem dX6_away_32 : decode cX6_away 32 = .ok (.iload 4, 2) := by decide +kernel
theorem dX6_away_34 : decode cX6_away 34 = .ok (.ifCond .gt 12, 3) := by decide +kernel
theorem dX6_away_37 : decode cX6_away 37 = .ok (.iload 4, 2) := by decide +kernel
theorem dX6_away_39 : decode cX6_away 39 = .ok (.ifCond .ne 11, 3) := by decide +kernel
theorem dX6_away_42 : decode cX6_away 42 = .ok (.iload_n 2, 1) := by decide +kernel
theorem dX6_away_43 : decode cX6_away 43 = .ok (.ifCond .eq 7, 3) := by decide +kernel
theorem dX6_away_46 : decode cX6_away 46 = .ok (.iconst 1, 1) := by decide +kernel
theorem dX6_away_47 : decode cX6_away 47 = .ok (.goto 4, 3) := by decide +kernel
theorem dX6_away_50 : decode cX6_away 50 = .ok (.iconst 0, 1) := by decide +kernel
theorem dX6_away_51 : decode cX6_away 51 = .ok (.ireturn, 1) := by decide +kernel
theorem dX6_away_52 : decode cX6_away 52 = .ok (.iload 4, 2) := by decide +kernel
theorem dX6_away_54 : decode cX6_away 54 = .ok (.ifCond .lt 7, 3) := by decide +kernel
theorem dX6_away_57 : decode cX6_away 57 = .ok (.iconst 1, 1) := by decide +kernel
theorem dX6_away_58 : decode cX6_away 58 = .ok (.goto 4, 3) := by decide +kernel
theorem dX6_away_61 : decode cX6_away 61 = .ok (.iconst 0, 1) := by decide +kernel
theorem dX6_away_62 : decode cX6_away 62 = .ok (.ireturn, 1) := by decide +kernel
theorem dX6_away_63 : decode cX6_away 63 = .ok (.iload_n 3, 1) := by decide +kernel
theorem dX6_away_64 : decode cX6_away 64 = .ok (.ifCond .eq 11, 3) := by decide +kernel
theorem dX6_away_67 : decode cX6_away 67 = .ok (.iload_n 1, 1) := by decide +kernel
theorem dX6_away_68 : decode cX6_away 68 = .ok (.ifCond .ne 7, 3) := by decide +kernel
theorem dX6_away_71 : decode cX6_away 71 = .ok (.iconst 1, 1) := by decide +kernel
theorem dX6_away_72 : decode cX6_away 72 = .ok (.goto 4, 3) := by decide +kernel
theorem dX6_away_75 : decode cX6_away 75 = .ok (.iconst 0, 1) := by decide +kernel
theorem dX6_away_76 : decode cX6_away 76 = .ok (.ireturn, 1) := by decide +kernel
theorem dX6_away_77 : decode cX6_away 77 = .ok (.iload_n 3, 1) := by decide +kernel
theorem dX6_away_78 : decode cX6_away 78 = .ok (.ifCond .eq 11, 3) := by decide +kernel
theorem dX6_away_81 : decode cX6_away 81 = .ok (.iload_n 1, 1) := by decide +kernel
theorem dX6_away_82 : decode cX6_away 82 = .ok (.ifCond .eq 7, 3) := by decide +kernel
theorem dX6_away_85 : decode cX6_away 85 = .ok (.iconst 1, 1) := by decide +kernel
theorem dX6_away_86 : decode cX6_away 86 = .ok (.goto 4, 3) := by decide +kernel
theorem dX6_away_89 : decode cX6_away 89 = .ok (.iconst 0, 1) := by decide +kernel
theorem dX6_away_90 : decode cX6_away 90 = .ok (.ireturn, 1) := by decide +kernel
theorem dX6_away_91 : decode cX6_away 91 = .ok (.iconst 0, 1) := by decide +kernel
theorem dX6_away_92 : decode cX6_away 92 = .ok (.ireturn, 1) := by decide +kernel
theorem dX6_change_0 : decode cX6_change 0 = .ok (.aload_n 0, 1) := by decide +kernel
theorem dX6_change_1 : decode cX6_change 1 = .ok (.iload_n 1, 1) := by decide +kernel
theorem dX6_change_2 : decode cX6_change 2 = .ok (.iconst 0, 1) := by decide +kernel
theorem dX6_change_3 : decode cX6_change 3 = .ok (.iconst 3, 1) := by decide +kernel
theorem dX6_change_4 : decode cX6_change 4 = .ok (.invokestatic 16, 3) := by decide +kernel
theorem dX6_change_7 : decode cX6_change 7 = .ok (.ifCond .eq 28, 3) := by decide +kernel
theorem dX6_change_10 : decode cX6_change 10 = .ok (.iload_n 2, 1) := by decide +kernel
theorem dX6_change_11 : decode cX6_change 11 = .ok (.iconst 0, 1) := by decide +kernel
theorem dX6_change_12 : decode cX6_change 12 = .ok (.iconst 4, 1) := by decide +kernel
theorem dX6_change_13 : decode cX6_change 13 = .ok (.invokestatic 16, 3) := by decide +kernel
theorem dX6_change_16 : decode cX6_change 16 = .ok (.ifCond .eq 19, 3) := by decide +kernel
theorem dX6_change_19 : decode cX6_change 19 = .ok (.aload_n 0, 1) := by decide +kernel
theorem dX6_change_20 : decode cX6_change 20 = .ok (.iload_n 3, 1) := by decide +kernel
theorem dX6_change_21 : decode cX6_change 21 = .ok (.aload_n 0, 1) := by decide +kernel
theorem dX6_change_22 : decode cX6_change 22 = .ok (.getfield 7, 3) := by decide +kernel
theorem dX6_change_25 : decode cX6_change 25 = .ok (.invokevirtual 42, 3) := by decide +kernel
theorem dX6_change_28 : decode cX6_change 28 = .ok (.ifCond .eq 7, 3) := by decide +kernel
theorem dX6_change_31 : decode cX6_change 31 = .ok (.iconst 1, 1) := by decide +kernel
theorem dX6_change_32 : decode cX6_change 32 = .ok (.goto 4, 3) := by decide +kernel
theorem dX6_change_35 : decode cX6_change 35 = .ok (.iconst 0, 1) := by decide +kernel
theorem dX6_change_36 : decode cX6_change 36 = .ok (.invokevirtual 38, 3) := by decide +kernel
theorem dX6_change_39 : decode cX6_change 39 = .ok (.ifCond .ne 5, 3) := by decide +kernel
theorem dX6_change_42 : decode cX6_change 42 = .ok (.iconst 0, 1) := by decide +kernel
theorem dX6_change_43 : decode cX6_change 43 = .ok (.ireturn, 1) := by decide +kernel
theorem dX6_change_44 : decode cX6_change 44 = .ok (.iload_n 1, 1) := by decide +kernel
theorem dX6_change_45 : decode cX6_change 45 = .ok (.ifCond .ne 24, 3) := by decide +kernel
theorem dX6_change_48 : decode cX6_change 48 = .ok (.aload_n 0, 1) := by decide +kernel
theorem dX6_change_49 : decode cX6_change 49 = .ok (.iload_n 2, 1) := by decide +kernel
theorem dX6_change_50 : decode cX6_change 50 = .ok (.aload_n 0, 1) := by decide +kernel
theorem dX6_change_51 : decode cX6_change 51 = .ok (.iload_n 3, 1) := by decide +kernel
theorem dX6_change_52 : decode cX6_change 52 = .ok (.i2l, 1) := by decide +kernel
theorem dX6_change_53 : decode cX6_change 53 = .ok (.aload_n 0, 1) := by decide +kernel
theorem dX6_change_54 : decode cX6_change 54 = .ok (.getfield 7, 3) := by decide +kernel
theorem dX6_change_57 : decode cX6_change 57 = .ok (.invokevirtual 49, 3) := by decide +kernel
theorem dX6_change_60 : decode cX6_change 60 = .ok (.aload_n 0, 1) := by decide +kernel
theorem dX6_change_61 : decode cX6_change 61 = .ok (.getfield 7, 3) := by decide +kernel
theorem dX6_change_64 : decode cX6_change 64 = .ok (.invokevirtual 53, 3) := by decide +kernel
theorem dX6_change_67 : decode cX6_change 67 = .ok (.l2i, 1) := by decide +kernel
theorem dX6_change_68 : decode cX6_change 68 = .ok (.ireturn, 1) := by decide +kernel
theorem dX6_change_69 : decode cX6_change 69 = .ok (.iload_n 1, 1) := by decide +kernel
theorem dX6_change_70 : decode cX6_change 70 = .ok (.iconst 1, 1) := by decide +kernel
theorem dX6_change_71 : decode cX6_change 71 = .ok (.if_icmp .ne 24, 3) := by decide +kernel
theorem dX6_change_74 : decode cX6_change 74 = .ok (.aload_n 0, 1) := by decide +kernel
theorem dX6_change_75 : decode cX6_change 75 = .ok (.iload_n 2, 1) := by decide +kernel
theorem dX6_change_76 : decode cX6_change 76 = .ok (.aload_n 0, 1) := by decide +kernel
theorem dX6_change_77 : decode cX6_change 77 = .ok (.iload_n 3, 1) := by decide +kernel
theorem dX6_change_78 : decode cX6_change 78 = .ok (.i2l, 1) := by decide +kernel
theorem dX6_change_79 : decode cX6_change 79 = .ok (.aload_n 0, 1) := by decide +kernel
theorem dX6_change_80 : decode cX6_change 80 = .ok (.getfield 7, 3) := by decide +kernel
theorem dX6_change_83 : decode cX6_change 83 = .ok (.invokevirtual 49, 3) := by decide +kernel
theorem dX6_change_86 : decode cX6_change 86 = .ok (.aload_n 0, 1) := by decide +kernel
theorem dX6_change_87 : decode cX6_change 87 = .ok (.getfield 7, 3) := by decide +kernel
theorem dX6_change_90 : decode cX6_change 90 = .ok (.invokevirtual 57, 3) := by decide +kernel
theorem dX6_change_93 : decode cX6_change 93 = .ok (.l2i, 1) := by decide +kernel
theorem dX6_change_94 : decode cX6_change 94 = .ok (.ireturn, 1) := by decide +kernel
theorem dX6_change_95 : decode cX6_change 95 = .ok (.aload_n 0, 1) := by decide +kernel
theorem dX6_change_96 : decode cX6_change 96 = .ok (.iload_n 3, 1) := by decide +kernel
theorem dX6_change_97 : decode cX6_change 97 = .ok (.i2l, 1) := by decide +kernel
theorem dX6_change_98 : decode cX6_change 98 = .ok (.aload_n 0, 1) := by decide +kernel
theorem dX6_change_99 : decode cX6_change 99 = .ok (.getfield 7, 3) := by decide +kernel
theorem dX6_change_102 : decode cX6_change 102 = .ok (.invokevirtual 60, 3) := by decide +kernel
theorem dX6_change_105 : decode cX6_change 105 = .ok (.lconst 1, 1) := by decide +kernel
theorem dX6_change_106 : decode cX6_change 106 = .ok (.aload_n 0, 1) := by decide +kernel
theorem dX6_change_107 : decode cX6_change 107 = .ok (.getfield 7, 3) := by decide +kernel
theorem dX6_change_110 : decode cX6_change 110 = .ok (.invokestatic 31, 3) := by decide +kernel
theorem dX6_change_113 : decode cX6_change 113 = .ok (.iconst 1, 1) := by decide +kernel
theorem dX6_change_114 : decode cX6_change 114 = .ok (.isub, 1) := by decide +kernel
theorem dX6_change_115 : decode cX6_change 115 = .ok (.lshl, 1) := by decide +kernel
theorem dX6_change_116 : decode cX6_change 116 = .ok (.lstore 4, 2) := by decide +kernel
theorem dX6_change_118 : decode cX6_change 118 = .ok (.aload_n 0, 1) := by decide +kernel
theorem dX6_change_119 : decode cX6_change 119 = .ok (.getfield 64, 3) := by decide +kernel
theorem dX6_change_122 : decode cX6_change 122 = .ok (.ifCond .eq 15, 3) := by decide +kernel
theorem dX6_change_125 : decode cX6_change 125 = .ok (.aload_n 0, 1) := by decide +kernel
theorem dX6_change_126 : decode cX6_change 126 = .ok (.iload_n 3, 1) := by decide +kernel
theorem dX6_change_127 : decode cX6_change 127 = .ok (.i2l, 1) := by decide +kernel
theorem dX6_change_128 : decode cX6_change 128 = .ok (.aload_n 0, 1) := by decide +kernel
theorem dX6_change_129 : decode cX6_change 129 = .ok (.getfield 7, 3) := by decide +kernel
theorem dX6_change_132 : decode cX6_change 132 = .ok (.invokevirtual 49, 3) := by decide +kernel
theorem dX6_change_135 : decode cX6_change 135 = .ok (.l2i, 1) := by decide +kernel
theorem dX6_change_136 : decode cX6_change 136 = .ok (.ireturn, 1) := by decide +kernel
theorem dX6_change_137 : decode cX6_change 137 = .ok (.iload_n 1, 1) := by decide +kernel
theorem dX6_change_138 : decode cX6_change 138 = .ok (.iconst 2, 1) := by decide +kernel
theorem dX6_change_139 : decode cX6_change 139 = .ok (.if_icmp .ne 15, 3) := by decide +kernel
theorem dX6_change_142 : decode cX6_change 142 = .ok (.iload_n 3, 1) := by decide +kernel
theorem dX6_change_143 : decode cX6_change 143 = .ok (.i2l, 1) := by decide +kernel
theorem dX6_change_144 : decode cX6_change 144 = .ok (.lload 4, 2) := by decide +kernel
theorem dX6_change_146 : decode cX6_change 146 = .ok (.ldc2_w 68, 3) := by decide +kernel
theorem dX6_change_149 : decode cX6_change 149 = .ok (.lxor, 1) := by decide +kernel
theorem dX6_change_150 : decode cX6_change 150 = .ok (.land, 1) := by decide +kernel
theorem dX6_change_151 : decode cX6_change 151 = .ok (.goto 8, 3) := by decide +kernel
theorem dX6_change_154 : decode cX6_change 154 = .ok (.iload_n 3, 1) := by decide +kernel
theorem dX6_change_155 : decode cX6_change 155 = .ok (.i2l, 1) := by decide +kernel
theorem dX6_change_156 : decode cX6_change 156 = .ok (.lload 4, 2) := by decide +kernel
theorem dX6_change_158 : decode cX6_change 158 = .ok (.lxor, 1) := by decide +kernel
theorem dX6_change_159 : decode cX6_change 159 = .ok (.l2i, 1) := by decide +kernel
theorem dX6_change_160 : decode cX6_change 160 = .ok (.ireturn, 1) := by decide +kernel
theorem dX6_canonical_0 : decode cX6_canonical 0 = .ok (.aload_n 0, 1) := by decide +kernel
theorem dX6_canonical_1 : decode cX6_canonical 1 = .ok (.lload_n 1, 1) := by decide +kernel
theorem dX6_canonical_2 : decode cX6_canonical 2 = .ok (.iload_n 3, 1) := by decide +kernel
theorem dX6_canonical_3 : decode cX6_canonical 3 = .ok (.invokevirtual 60, 3) := by decide +kernel
theorem dX6_canonical_6 : decode cX6_canonical 6 = .ok (.aload_n 0, 1) := by decide +kernel
theorem dX6_canonical_7 : decode cX6_canonical 7 = .ok (.getfield 64, 3) := by decide +kernel
theorem dX6_canonical_10 : decode cX6_canonical 10 = .ok (.ifCond .eq 17, 3) := by decide +kernel
theorem dX6_canonical_13 : decode cX6_canonical 13 = .ok (.iload_n 3, 1) := by decide +kernel
theorem dX6_canonical_14 : decode cX6_canonical 14 = .ok (.invokestatic 20, 3) := by decide +kernel
theorem dX6_canonical_17 : decode cX6_canonical 17 = .ok (.iload_n 3, 1) := by decide +kernel
theorem dX6_canonical_18 : decode cX6_canonical 18 = .ok (.invokestatic 24, 3) := by decide +kernel
theorem dX6_canonical_21 : decode cX6_canonical 21 = .ok (.invokestatic 81, 3) := by decide +kernel
theorem dX6_canonical_24 : decode cX6_canonical 24 = .ok (.goto 4, 3) := by decide +kernel
theorem dX6_canonical_27 : decode cX6_canonical 27 = .ok (.lload_n 1, 1) := by decide +kernel
theorem dX6_canonical_28 : decode cX6_canonical 28 = .ok (.lreturn, 1) := by decide +kernel
theorem dX6_squareRoot_0 : decode cX6_squareRoot 0 = .ok (.aload_n 0, 1) := by decide +kernel
theorem dX6_squareRoot_1 : decode cX6_squareRoot 1 = .ok (.lload_n 2, 1) := by decide +kernel
theorem dX6_squareRoot_2 : decode cX6_squareRoot 2 = .ok (.iload 4, 2) := by decide +kernel
theorem dX6_squareRoot_4 : decode cX6_squareRoot 4 = .ok (.invokevirtual 60, 3) := by decide +kernel
theorem dX6_squareRoot_7 : decode cX6_squareRoot 7 = .ok (.aload_n 0, 1) := by decide +kernel
theorem dX6_squareRoot_8 : decode cX6_squareRoot 8 = .ok (.getfield 64, 3) := by decide +kernel
theorem dX6_squareRoot_11 : decode cX6_squareRoot 11 = .ok (.ifCond .eq 17, 3) := by decide +kernel
theorem dX6_squareRoot_14 : decode cX6_squareRoot 14 = .ok (.iload 4, 2) := by decide +kernel
theorem dX6_squareRoot_16 : decode cX6_squareRoot 16 = .ok (.invokestatic 20, 3) := by decide +kernel
theorem dX6_squareRoot_19 : decode cX6_squareRoot 19 = .ok (.iload 4, 2) := by decide +kernel
theorem dX6_squareRoot_21 : decode cX6_squareRoot 21 = .ok (.invokestatic 24, 3) := by decide +kernel
theorem dX6_squareRoot_24 : decode cX6_squareRoot 24 = .ok (.invokestatic 81, 3) := by decide +kernel
theorem dX6_squareRoot_27 : decode cX6_squareRoot 27 = .ok (.lreturn, 1) := by decide +kernel
theorem dX6_squareRoot_28 : decode cX6_squareRoot 28 = .ok (.aload_n 0, 1) := by decide +kernel
theorem dX6_squareRoot_29 : decode cX6_squareRoot 29 = .ok (.getfield 85, 3) := by decide +kernel
theorem dX6_squareRoot_32 : decode cX6_squareRoot 32 = .ok (.ifCond .ne 14, 3) := by decide +kernel
theorem dX6_squareRoot_35 : decode cX6_squareRoot 35 = .ok (.aload_n 0, 1) := by decide +kernel
theorem dX6_squareRoot_36 : decode cX6_squareRoot 36 = .ok (.getfield 91, 3) := by decide +kernel
theorem dX6_squareRoot_39 : decode cX6_squareRoot 39 = .ok (.lconst 0, 1) := by decide +kernel
theorem dX6_squareRoot_40 : decode cX6_squareRoot 40 = .ok (.lcmp, 1) := by decide +kernel
theorem dX6_squareRoot_41 : decode cX6_squareRoot 41 = .ok (.ifCond .ne 5, 3) := by decide +kernel
theorem dX6_squareRoot_44 : decode cX6_squareRoot 44 = .ok (.lload_n 2, 1) := by decide +kernel
theorem dX6_squareRoot_45 : decode cX6_squareRoot 45 = .ok (.lreturn, 1) := by decide +kernel
theorem dX6_squareRoot_46 : decode cX6_squareRoot 46 = .ok (.aload_n 0, 1) := by decide +kernel
theorem dX6_squareRoot_47 : decode cX6_squareRoot 47 = .ok (.getfield 88, 3) := by decide +kernel
theorem dX6_squareRoot_50 : decode cX6_squareRoot 50 = .ok (.ifCond .eq 17, 3) := by decide +kernel
theorem dX6_squareRoot_53 : decode cX6_squareRoot 53 = .ok (.iload 4, 2) := by decide +kernel
theorem dX6_squareRoot_55 : decode cX6_squareRoot 55 = .ok (.invokestatic 20, 3) := by decide +kernel
theorem dX6_squareRoot_58 : decode cX6_squareRoot 58 = .ok (.iload 4, 2) := by decide +kernel
theorem dX6_squareRoot_60 : decode cX6_squareRoot 60 = .ok (.invokestatic 24, 3) := by decide +kernel
theorem dX6_squareRoot_63 : decode cX6_squareRoot 63 = .ok (.invokestatic 81, 3) := by decide +kernel
theorem dX6_squareRoot_66 : decode cX6_squareRoot 66 = .ok (.lreturn, 1) := by decide +kernel
theorem dX6_squareRoot_67 : decode cX6_squareRoot 67 = .ok (.aload_n 0, 1) := by decide +kernel
theorem dX6_squareRoot_68 : decode cX6_squareRoot 68 = .ok (.getfield 85, 3) := by decide +kernel
theorem dX6_squareRoot_71 : decode cX6_squareRoot 71 = .ok (.ifCond .eq 5, 3) := by decide +kernel
theorem dX6_squareRoot_74 : decode cX6_squareRoot 74 = .ok (.lload_n 2, 1) := by decide +kernel
theorem dX6_squareRoot_75 : decode cX6_squareRoot 75 = .ok (.lreturn, 1) := by decide +kernel
theorem dX6_squareRoot_76 : decode cX6_squareRoot 76 = .ok (.aload_n 0, 1) := by decide +kernel
theorem dX6_squareRoot_77 : decode cX6_squareRoot 77 = .ok (.getfield 95, 3) := by decide +kernel
theorem dX6_squareRoot_80 : decode cX6_squareRoot 80 = .ok (.bipush 40, 2) := by decide +kernel
theorem dX6_squareRoot_82 : decode cX6_squareRoot 82 = .ok (.isub, 1) := by decide +kernel
theorem dX6_squareRoot_83 : decode cX6_squareRoot 83 = .ok (.istore 5, 2) := by decide +kernel
theorem dX6_squareRoot_85 : decode cX6_squareRoot 85 = .ok (.aload_n 0, 1) := by decide +kernel
theorem dX6_squareRoot_86 : decode cX6_squareRoot 86 = .ok (.getfield 91, 3) := by decide +kernel
theorem dX6_squareRoot_89 : decode cX6_squareRoot 89 = .ok (.bipush 40, 2) := by decide +kernel
theorem dX6_squareRoot_91 : decode cX6_squareRoot 91 = .ok (.lshl, 1) := by decide +kernel
theorem dX6_squareRoot_92 : decode cX6_squareRoot 92 = .ok (.lstore 6, 2) := by decide +kernel
theorem dX6_squareRoot_94 : decode cX6_squareRoot 94 = .ok (.iload 5, 2) := by decide +kernel
theorem dX6_squareRoot_96 : decode cX6_squareRoot 96 = .ok (.iconst 1, 1) := by decide +kernel
theorem dX6_squareRoot_97 : decode cX6_squareRoot 97 = .ok (.iand, 1) := by decide +kernel
theorem dX6_squareRoot_98 : decode cX6_squareRoot 98 = .ok (.ifCond .eq 12, 3) := by decide +kernel
theorem dX6_squareRoot_101 : decode cX6_squareRoot 101 = .ok (.lload 6, 2) := by decide +kernel
theorem dX6_squareRoot_103 : decode cX6_squareRoot 103 = .ok (.iconst 1, 1) := by decide +kernel
theorem dX6_squareRoot_104 : decode cX6_squareRoot 104 = .ok (.lshl, 1) := by decide +kernel
theorem dX6_squareRoot_105 : decode cX6_squareRoot 105 = .ok (.lstore 6, 2) := by decide +kernel
theorem dX6_squareRoot_107 : decode cX6_squareRoot 107 = .ok (.iinc 5 (-1), 3) := by decide +kernel
theorem dX6_squareRoot_110 : decode cX6_squareRoot 110 = .ok (.lconst 0, 1) := by decide +kernel
theorem dX6_squareRoot_111 : decode cX6_squareRoot 111 = .ok (.lstore 8, 2) := by decide +kernel
theorem dX6_squareRoot_113 : decode cX6_squareRoot 113 = .ok (.ldc2_w 119, 3) := by decide +kernel
theorem dX6_squareRoot_116 : decode cX6_squareRoot 116 = .ok (.lstore 10, 2) := by decide +kernel
theorem dX6_squareRoot_118 : decode cX6_squareRoot 118 = .ok (.lload 10, 2) := by decide +kernel
theorem dX6_squareRoot_120 : decode cX6_squareRoot 120 = .ok (.lconst 0, 1) := by decide +kernel
theorem dX6_squareRoot_121 : decode cX6_squareRoot 121 = .ok (.lcmp, 1) := by decide +kernel
theorem dX6_squareRoot_122 : decode cX6_squareRoot 122 = .ok (.ifCond .le 36, 3) := by decide +kernel
theorem dX6_squareRoot_125 : decode cX6_squareRoot 125 = .ok (.lload 8, 2) := by decide +kernel
theorem dX6_squareRoot_127 : decode cX6_squareRoot 127 = .ok (.lload 10, 2) := by decide +kernel
theorem dX6_squareRoot_129 : decode cX6_squareRoot 129 = .ok (.lor, 1) := by decide +kernel
theorem dX6_squareRoot_130 : decode cX6_squareRoot 130 = .ok (.lload 8, 2) := by decide +kernel
theorem dX6_squareRoot_132 : decode cX6_squareRoot 132 = .ok (.lload 10, 2) := by decide +kernel
theorem dX6_squareRoot_134 : decode cX6_squareRoot 134 = .ok (.lor, 1) := by decide +kernel
theorem dX6_squareRoot_135 : decode cX6_squareRoot 135 = .ok (.lmul, 1) := by decide +kernel
theorem dX6_squareRoot_136 : decode cX6_squareRoot 136 = .ok (.lload 6, 2) := by decide +kernel
theorem dX6_squareRoot_138 : decode cX6_squareRoot 138 = .ok (.lcmp, 1) := by decide +kernel
theorem dX6_squareRoot_139 : decode cX6_squareRoot 139 = .ok (.ifCond .gt 10, 3) := by decide +kernel
theorem dX6_squareRoot_142 : decode cX6_squareRoot 142 = .ok (.lload 8, 2) := by decide +kernel
theorem dX6_squareRoot_144 : decode cX6_squareRoot 144 = .ok (.lload 10, 2) := by decide +kernel
theorem dX6_squareRoot_146 : decode cX6_squareRoot 146 = .ok (.lor, 1) := by decide +kernel
theorem dX6_squareRoot_147 : decode cX6_squareRoot 147 = .ok (.lstore 8, 2) := by decide +kernel
theorem dX6_squareRoot_149 : decode cX6_squareRoot 149 = .ok (.lload 10, 2) := by decide +kernel
theorem dX6_squareRoot_151 : decode cX6_squareRoot 151 = .ok (.iconst 1, 1) := by decide +kernel
theorem dX6_squareRoot_152 : decode cX6_squareRoot 152 = .ok (.lshr, 1) := by decide +kernel
theorem dX6_squareRoot_153 : decode cX6_squareRoot 153 = .ok (.lstore 10, 2) := by decide +kernel
theorem dX6_squareRoot_155 : decode cX6_squareRoot 155 = .ok (.goto (-37), 3) := by decide +kernel
theorem dX6_squareRoot_158 : decode cX6_squareRoot 158 = .ok (.iload_n 1, 1) := by decide +kernel
theorem dX6_squareRoot_159 : decode cX6_squareRoot 159 = .ok (.iconst 0, 1) := by decide +kernel
theorem dX6_squareRoot_160 : decode cX6_squareRoot 160 = .ok (.lload 8, 2) := by decide +kernel
theorem dX6_squareRoot_162 : decode cX6_squareRoot 162 = .ok (.iload 5, 2) := by decide +kernel
theorem dX6_squareRoot_164 : decode cX6_squareRoot 164 = .ok (.iconst 2, 1) := by decide +kernel
theorem dX6_squareRoot_165 : decode cX6_squareRoot 165 = .ok (.idiv, 1) := by decide +kernel
theorem dX6_squareRoot_166 : decode cX6_squareRoot 166 = .ok (.lload 8, 2) := by decide +kernel
theorem dX6_squareRoot_168 : decode cX6_squareRoot 168 = .ok (.lload 8, 2) := by decide +kernel
theorem dX6_squareRoot_170 : decode cX6_squareRoot 170 = .ok (.lmul, 1) := by decide +kernel
theorem dX6_squareRoot_171 : decode cX6_squareRoot 171 = .ok (.lload 6, 2) := by decide +kernel
theorem dX6_squareRoot_173 : decode cX6_squareRoot 173 = .ok (.lcmp, 1) := by decide +kernel
theorem dX6_squareRoot_174 : decode cX6_squareRoot 174 = .ok (.ifCond .eq 7, 3) := by decide +kernel
theorem dX6_squareRoot_177 : decode cX6_squareRoot 177 = .ok (.iconst 1, 1) := by decide +kernel
theorem dX6_squareRoot_178 : decode cX6_squareRoot 178 = .ok (.goto 4, 3) := by decide +kernel
theorem dX6_squareRoot_181 : decode cX6_squareRoot 181 = .ok (.iconst 0, 1) := by decide +kernel
theorem dX6_squareRoot_182 : decode cX6_squareRoot 182 = .ok (.iload 4, 2) := by decide +kernel
theorem dX6_squareRoot_184 : decode cX6_squareRoot 184 = .ok (.invokestatic 98, 3) := by decide +kernel
theorem dX6_squareRoot_187 : decode cX6_squareRoot 187 = .ok (.lreturn, 1) := by decide +kernel
theorem dX6_whole_0 : decode cX6_whole 0 = .ok (.aload_n 0, 1) := by decide +kernel
theorem dX6_whole_1 : decode cX6_whole 1 = .ok (.lload_n 2, 1) := by decide +kernel
theorem dX6_whole_2 : decode cX6_whole 2 = .ok (.iload 4, 2) := by decide +kernel
theorem dX6_whole_4 : decode cX6_whole 4 = .ok (.invokevirtual 60, 3) := by decide +kernel
theorem dX6_whole_7 : decode cX6_whole 7 = .ok (.aload_n 0, 1) := by decide +kernel
theorem dX6_whole_8 : decode cX6_whole 8 = .ok (.getfield 64, 3) := by decide +kernel
theorem dX6_whole_11 : decode cX6_whole 11 = .ok (.ifCond .eq 17, 3) := by decide +kernel
theorem dX6_whole_14 : decode cX6_whole 14 = .ok (.iload 4, 2) := by decide +kernel
theorem dX6_whole_16 : decode cX6_whole 16 = .ok (.invokestatic 20, 3) := by decide +kernel
theorem dX6_whole_19 : decode cX6_whole 19 = .ok (.iload 4, 2) := by decide +kernel
theorem dX6_whole_21 : decode cX6_whole 21 = .ok (.invokestatic 24, 3) := by decide +kernel
theorem dX6_whole_24 : decode cX6_whole 24 = .ok (.invokestatic 81, 3) := by decide +kernel
theorem dX6_whole_27 : decode cX6_whole 27 = .ok (.lreturn, 1) := by decide +kernel
theorem dX6_whole_28 : decode cX6_whole 28 = .ok (.aload_n 0, 1) := by decide +kernel
theorem dX6_whole_29 : decode cX6_whole 29 = .ok (.getfield 85, 3) := by decide +kernel
theorem dX6_whole_32 : decode cX6_whole 32 = .ok (.ifCond .ne 19, 3) := by decide +kernel
theorem dX6_whole_35 : decode cX6_whole 35 = .ok (.aload_n 0, 1) := by decide +kernel
theorem dX6_whole_36 : decode cX6_whole 36 = .ok (.getfield 91, 3) := by decide +kernel
theorem dX6_whole_39 : decode cX6_whole 39 = .ok (.lconst 0, 1) := by decide +kernel
theorem dX6_whole_40 : decode cX6_whole 40 = .ok (.lcmp, 1) := by decide +kernel
theorem dX6_whole_41 : decode cX6_whole 41 = .ok (.ifCond .eq 10, 3) := by decide +kernel
theorem dX6_whole_44 : decode cX6_whole 44 = .ok (.aload_n 0, 1) := by decide +kernel
theorem dX6_whole_45 : decode cX6_whole 45 = .ok (.getfield 95, 3) := by decide +kernel
theorem dX6_whole_48 : decode cX6_whole 48 = .ok (.ifCond .lt 5, 3) := by decide +kernel
theorem dX6_whole_51 : decode cX6_whole 51 = .ok (.lload_n 2, 1) := by decide +kernel
theorem dX6_whole_52 : decode cX6_whole 52 = .ok (.lreturn, 1) := by decide +kernel
theorem dX6_whole_53 : decode cX6_whole 53 = .ok (.aload_n 0, 1) := by decide +kernel
theorem dX6_whole_54 : decode cX6_whole 54 = .ok (.getfield 91, 3) := by decide +kernel
theorem dX6_whole_57 : decode cX6_whole 57 = .ok (.aload_n 0, 1) := by decide +kernel
theorem dX6_whole_58 : decode cX6_whole 58 = .ok (.getfield 95, 3) := by decide +kernel
theorem dX6_whole_61 : decode cX6_whole 61 = .ok (.ineg, 1) := by decide +kernel
theorem dX6_whole_62 : decode cX6_whole 62 = .ok (.iconst 0, 1) := by decide +kernel
theorem dX6_whole_63 : decode cX6_whole 63 = .ok (.iload_n 1, 1) := by decide +kernel
theorem dX6_whole_64 : decode cX6_whole 64 = .ok (.aload_n 0, 1) := by decide +kernel
theorem dX6_whole_65 : decode cX6_whole 65 = .ok (.getfield 88, 3) := by decide +kernel
theorem dX6_whole_68 : decode cX6_whole 68 = .ok (.invokestatic 105, 3) := by decide +kernel
theorem dX6_whole_71 : decode cX6_whole 71 = .ok (.lstore 5, 2) := by decide +kernel
theorem dX6_whole_73 : decode cX6_whole 73 = .ok (.iload_n 1, 1) := by decide +kernel
theorem dX6_whole_74 : decode cX6_whole 74 = .ok (.aload_n 0, 1) := by decide +kernel
theorem dX6_whole_75 : decode cX6_whole 75 = .ok (.getfield 88, 3) := by decide +kernel
theorem dX6_whole_78 : decode cX6_whole 78 = .ok (.lload 5, 2) := by decide +kernel
theorem dX6_whole_80 : decode cX6_whole 80 = .ok (.iconst 0, 1) := by decide +kernel
theorem dX6_whole_81 : decode cX6_whole 81 = .ok (.iconst 0, 1) := by decide +kernel
theorem dX6_whole_82 : decode cX6_whole 82 = .ok (.iload 4, 2) := by decide +kernel
theorem dX6_whole_84 : decode cX6_whole 84 = .ok (.invokestatic 98, 3) := by decide +kernel
theorem dX6_whole_87 : decode cX6_whole 87 = .ok (.lreturn, 1) := by decide +kernel
theorem dX6_least_0 : decode cX6_least 0 = .ok (.aload_n 0, 1) := by decide +kernel
theorem dX6_least_1 : decode cX6_least 1 = .ok (.aload_n 0, 1) := by decide +kernel
theorem dX6_least_2 : decode cX6_least 2 = .ok (.iload_n 1, 1) := by decide +kernel
theorem dX6_least_3 : decode cX6_least 3 = .ok (.aload_n 0, 1) := by decide +kernel
theorem dX6_least_4 : decode cX6_least 4 = .ok (.getfield 7, 3) := by decide +kernel
theorem dX6_least_7 : decode cX6_least 7 = .ok (.invokevirtual 42, 3) := by decide +kernel
theorem dX6_least_10 : decode cX6_least 10 = .ok (.ifCond .eq 19, 3) := by decide +kernel
theorem dX6_least_13 : decode cX6_least 13 = .ok (.aload_n 0, 1) := by decide +kernel
theorem dX6_least_14 : decode cX6_least 14 = .ok (.iload_n 2, 1) := by decide +kernel
theorem dX6_least_15 : decode cX6_least 15 = .ok (.aload_n 0, 1) := by decide +kernel
theorem dX6_least_16 : decode cX6_least 16 = .ok (.getfield 7, 3) := by decide +kernel
theorem dX6_least_19 : decode cX6_least 19 = .ok (.invokevirtual 42, 3) := by decide +kernel
theorem dX6_least_22 : decode cX6_least 22 = .ok (.ifCond .eq 7, 3) := by decide +kernel
theorem dX6_least_25 : decode cX6_least 25 = .ok (.iconst 1, 1) := by decide +kernel
theorem dX6_least_26 : decode cX6_least 26 = .ok (.goto 4, 3) := by decide +kernel
theorem dX6_least_29 : decode cX6_least 29 = .ok (.iconst 0, 1) := by decide +kernel
theorem dX6_least_30 : decode cX6_least 30 = .ok (.invokevirtual 38, 3) := by decide +kernel
theorem dX6_least_33 : decode cX6_least 33 = .ok (.ifCond .ne 5, 3) := by decide +kernel
theorem dX6_least_36 : decode cX6_least 36 = .ok (.iconst 0, 1) := by decide +kernel
theorem dX6_least_37 : decode cX6_least 37 = .ok (.ireturn, 1) := by decide +kernel
theorem dX6_least_38 : decode cX6_least 38 = .ok (.aload_n 0, 1) := by decide +kernel
theorem dX6_least_39 : decode cX6_least 39 = .ok (.iload_n 3, 1) := by decide +kernel
theorem dX6_least_40 : decode cX6_least 40 = .ok (.ifCond .ne 7, 3) := by decide +kernel
theorem dX6_least_43 : decode cX6_least 43 = .ok (.iconst 1, 1) := by decide +kernel
theorem dX6_least_44 : decode cX6_least 44 = .ok (.goto 4, 3) := by decide +kernel
theorem dX6_least_47 : decode cX6_least 47 = .ok (.iconst 0, 1) := by decide +kernel
theorem dX6_least_48 : decode cX6_least 48 = .ok (.aload_n 0, 1) := by decide +kernel
theorem dX6_least_49 : decode cX6_least 49 = .ok (.iload_n 1, 1) := by decide +kernel
theorem dX6_least_50 : decode cX6_least 50 = .ok (.i2l, 1) := by decide +kernel
theorem dX6_least_51 : decode cX6_least 51 = .ok (.aload_n 0, 1) := by decide +kernel
theorem dX6_least_52 : decode cX6_least 52 = .ok (.getfield 7, 3) := by decide +kernel
theorem dX6_least_55 : decode cX6_least 55 = .ok (.invokevirtual 49, 3) := by decide +kernel
theorem dX6_least_58 : decode cX6_least 58 = .ok (.aload_n 0, 1) := by decide +kernel
theorem dX6_least_59 : decode cX6_least 59 = .ok (.iload_n 2, 1) := by decide +kernel
theorem dX6_least_60 : decode cX6_least 60 = .ok (.i2l, 1) := by decide +kernel
theorem dX6_least_61 : decode cX6_least 61 = .ok (.aload_n 0, 1) := by decide +kernel
theorem dX6_least_62 : decode cX6_least 62 = .ok (.getfield 7, 3) := by decide +kernel
theorem dX6_least_65 : decode cX6_least 65 = .ok (.invokevirtual 49, 3) := by decide +kernel
theorem dX6_least_68 : decode cX6_least 68 = .ok (.aload_n 0, 1) := by decide +kernel
theorem dX6_least_69 : decode cX6_least 69 = .ok (.getfield 7, 3) := by decide +kernel
theorem dX6_least_72 : decode cX6_least 72 = .ok (.invokevirtual 70, 3) := by decide +kernel
theorem dX6_least_75 : decode cX6_least 75 = .ok (.l2i, 1) := by decide +kernel
theorem dX6_least_76 : decode cX6_least 76 = .ok (.ireturn, 1) := by decide +kernel
theorem dX6_extreme_0 : decode cX6_extreme 0 = .ok (.aload_n 0, 1) := by decide +kernel
theorem dX6_extreme_1 : decode cX6_extreme 1 = .ok (.lload_n 2, 1) := by decide +kernel
theorem dX6_extreme_2 : decode cX6_extreme 2 = .ok (.iload 6, 2) := by decide +kernel
theorem dX6_extreme_4 : decode cX6_extreme 4 = .ok (.invokevirtual 60, 3) := by decide +kernel
theorem dX6_extreme_7 : decode cX6_extreme 7 = .ok (.aload_n 0, 1) := by decide +kernel
theorem dX6_extreme_8 : decode cX6_extreme 8 = .ok (.getfield 64, 3) := by decide +kernel
theorem dX6_extreme_11 : decode cX6_extreme 11 = .ok (.ifCond .eq 12, 3) := by decide +kernel
theorem dX6_extreme_14 : decode cX6_extreme 14 = .ok (.aload_n 0, 1) := by decide +kernel
theorem dX6_extreme_15 : decode cX6_extreme 15 = .ok (.lload 4, 2) := by decide +kernel
theorem dX6_extreme_17 : decode cX6_extreme 17 = .ok (.iload 6, 2) := by decide +kernel
theorem dX6_extreme_19 : decode cX6_extreme 19 = .ok (.invokevirtual 49, 3) := by decide +kernel
theorem dX6_extreme_22 : decode cX6_extreme 22 = .ok (.lreturn, 1) := by decide +kernel
theorem dX6_extreme_23 : decode cX6_extreme 23 = .ok (.aload_n 0, 1) := by decide +kernel
theorem dX6_extreme_24 : decode cX6_extreme 24 = .ok (.lload 4, 2) := by decide +kernel
theorem dX6_extreme_26 : decode cX6_extreme 26 = .ok (.iload 6, 2) := by decide +kernel
theorem dX6_extreme_28 : decode cX6_extreme 28 = .ok (.invokevirtual 60, 3) := by decide +kernel
theorem dX6_extreme_31 : decode cX6_extreme 31 = .ok (.aload_n 0, 1) := by decide +kernel
theorem dX6_extreme_32 : decode cX6_extreme 32 = .ok (.getfield 64, 3) := by decide +kernel
theorem dX6_extreme_35 : decode cX6_extreme 35 = .ok (.ifCond .eq 5, 3) := by decide +kernel
theorem dX6_extreme_38 : decode cX6_extreme 38 = .ok (.lload_n 2, 1) := by decide +kernel
theorem dX6_extreme_39 : decode cX6_extreme 39 = .ok (.lreturn, 1) := by decide +kernel
theorem dX6_extreme_40 : decode cX6_extreme 40 = .ok (.aload_n 0, 1) := by decide +kernel
theorem dX6_extreme_41 : decode cX6_extreme 41 = .ok (.lload_n 2, 1) := by decide +kernel
theorem dX6_extreme_42 : decode cX6_extreme 42 = .ok (.lload 4, 2) := by decide +kernel
theorem dX6_extreme_44 : decode cX6_extreme 44 = .ok (.iload 6, 2) := by decide +kernel
theorem dX6_extreme_46 : decode cX6_extreme 46 = .ok (.invokevirtual 121, 3) := by decide +kernel
theorem dX6_extreme_49 : decode cX6_extreme 49 = .ok (.istore 7, 2) := by decide +kernel
theorem dX6_extreme_51 : decode cX6_extreme 51 = .ok (.iload 7, 2) := by decide +kernel
theorem dX6_extreme_53 : decode cX6_extreme 53 = .ok (.ifCond .ne 8, 3) := by decide +kernel
theorem dX6_extreme_56 : decode cX6_extreme 56 = .ok (.lload 4, 2) := by decide +kernel
theorem dX6_extreme_58 : decode cX6_extreme 58 = .ok (.goto 23, 3) := by decide +kernel
theorem dX6_extreme_61 : decode cX6_extreme 61 = .ok (.iload 7, 2) := by decide +kernel
theorem dX6_extreme_63 : decode cX6_extreme 63 = .ok (.ifCond .ge 7, 3) := by decide +kernel
theorem dX6_extreme_66 : decode cX6_extreme 66 = .ok (.iconst 1, 1) := by decide +kernel
theorem dX6_extreme_67 : decode cX6_extreme 67 = .ok (.goto 4, 3) := by decide +kernel
theorem dX6_extreme_70 : decode cX6_extreme 70 = .ok (.iconst 0, 1) := by decide +kernel
theorem dX6_extreme_71 : decode cX6_extreme 71 = .ok (.iload_n 1, 1) := by decide +kernel
theorem dX6_extreme_72 : decode cX6_extreme 72 = .ok (.if_icmp .ne 7, 3) := by decide +kernel
theorem dX6_extreme_75 : decode cX6_extreme 75 = .ok (.lload_n 2, 1) := by decide +kernel
theorem dX6_extreme_76 : decode cX6_extreme 76 = .ok (.goto 5, 3) := by decide +kernel
theorem dX6_extreme_79 : decode cX6_extreme 79 = .ok (.lload 4, 2) := by decide +kernel
theorem dX6_extreme_81 : decode cX6_extreme 81 = .ok (.lreturn, 1) := by decide +kernel
theorem dX6_order_0 : decode cX6_order 0 = .ok (.aload_n 0, 1) := by decide +kernel
theorem dX6_order_1 : decode cX6_order 1 = .ok (.lload_n 1, 1) := by decide +kernel
theorem dX6_order_2 : decode cX6_order 2 = .ok (.iload 5, 2) := by decide +kernel
theorem dX6_order_4 : decode cX6_order 4 = .ok (.invokevirtual 60, 3) := by decide +kernel
theorem dX6_order_7 : decode cX6_order 7 = .ok (.aload_n 0, 1) := by decide +kernel
theorem dX6_order_8 : decode cX6_order 8 = .ok (.getfield 64, 3) := by decide +kernel
theorem dX6_order_11 : decode cX6_order 11 = .ok (.istore 6, 2) := by decide +kernel
theorem dX6_order_13 : decode cX6_order 13 = .ok (.aload_n 0, 1) := by decide +kernel
theorem dX6_order_14 : decode cX6_order 14 = .ok (.getfield 91, 3) := by decide +kernel
theorem dX6_order_17 : decode cX6_order 17 = .ok (.lconst 0, 1) := by decide +kernel
theorem dX6_order_18 : decode cX6_order 18 = .ok (.lcmp, 1) := by decide +kernel
theorem dX6_order_19 : decode cX6_order 19 = .ok (.ifCond .ne 14, 3) := by decide +kernel
theorem dX6_order_22 : decode cX6_order 22 = .ok (.aload_n 0, 1) := by decide +kernel
theorem dX6_order_23 : decode cX6_order 23 = .ok (.getfield 85, 3) := by decide +kernel
theorem dX6_order_26 : decode cX6_order 26 = .ok (.ifCond .ne 7, 3) := by decide +kernel
theorem dX6_order_29 : decode cX6_order 29 = .ok (.lconst 0, 1) := by decide +kernel
theorem dX6_order_30 : decode cX6_order 30 = .ok (.goto 28, 3) := by decide +kernel
theorem dX6_order_33 : decode cX6_order 33 = .ok (.aload_n 0, 1) := by decide +kernel
theorem dX6_order_34 : decode cX6_order 34 = .ok (.getfield 88, 3) := by decide +kernel
theorem dX6_order_37 : decode cX6_order 37 = .ok (.ifCond .eq 20, 3) := by decide +kernel
theorem dX6_order_40 : decode cX6_order 40 = .ok (.lconst 0, 1) := by decide +kernel
theorem dX6_order_41 : decode cX6_order 41 = .ok (.lload_n 1, 1) := by decide +kernel
theorem dX6_order_42 : decode cX6_order 42 = .ok (.iload 5, 2) := by decide +kernel
theorem dX6_order_44 : decode cX6_order 44 = .ok (.invokestatic 31, 3) := by decide +kernel
theorem dX6_order_47 : decode cX6_order 47 = .ok (.iconst 1, 1) := by decide +kernel
theorem dX6_order_48 : decode cX6_order 48 = .ok (.isub, 1) := by decide +kernel
theorem dX6_order_49 : decode cX6_order 49 = .ok (.invokestatic 27, 3) := by decide +kernel
theorem dX6_order_52 : decode cX6_order 52 = .ok (.land, 1) := by decide +kernel
theorem dX6_order_53 : decode cX6_order 53 = .ok (.lsub, 1) := by decide +kernel
theorem dX6_order_54 : decode cX6_order 54 = .ok (.goto 4, 3) := by decide +kernel
theorem dX6_order_57 : decode cX6_order 57 = .ok (.lload_n 1, 1) := by decide +kernel
theorem dX6_order_58 : decode cX6_order 58 = .ok (.lstore 7, 2) := by decide +kernel
theorem dX6_order_60 : decode cX6_order 60 = .ok (.aload_n 0, 1) := by decide +kernel
theorem dX6_order_61 : decode cX6_order 61 = .ok (.lload_n 3, 1) := by decide +kernel
theorem dX6_order_62 : decode cX6_order 62 = .ok (.iload 5, 2) := by decide +kernel
theorem dX6_order_64 : decode cX6_order 64 = .ok (.invokevirtual 60, 3) := by decide +kernel
theorem dX6_order_67 : decode cX6_order 67 = .ok (.aload_n 0, 1) := by decide +kernel
theorem dX6_order_68 : decode cX6_order 68 = .ok (.getfield 91, 3) := by decide +kernel
theorem dX6_order_71 : decode cX6_order 71 = .ok (.lconst 0, 1) := by decide +kernel
theorem dX6_order_72 : decode cX6_order 72 = .ok (.lcmp, 1) := by decide +kernel
theorem dX6_order_73 : decode cX6_order 73 = .ok (.ifCond .ne 14, 3) := by decide +kernel
