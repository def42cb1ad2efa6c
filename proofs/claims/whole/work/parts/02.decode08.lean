theorem dX6_ofWhole_106 : decode cX6_ofWhole 106 = .ok (.invokestatic 98, 3) := by decide +kernel
theorem dX6_ofWhole_109 : decode cX6_ofWhole 109 = .ok (.l2i, 1) := by decide +kernel
theorem dX6_ofWhole_110 : decode cX6_ofWhole 110 = .ok (.ireturn, 1) := by decide +kernel
theorem dX6_signed_0 : decode cX6_signed 0 = .ok (.lload_n 0, 1) := by decide +kernel
theorem dX6_signed_1 : decode cX6_signed 1 = .ok (.bipush 64, 2) := by decide +kernel
theorem dX6_signed_3 : decode cX6_signed 3 = .ok (.iload_n 2, 1) := by decide +kernel
theorem dX6_signed_4 : decode cX6_signed 4 = .ok (.isub, 1) := by decide +kernel
theorem dX6_signed_5 : decode cX6_signed 5 = .ok (.lshl, 1) := by decide +kernel
theorem dX6_signed_6 : decode cX6_signed 6 = .ok (.bipush 64, 2) := by decide +kernel
theorem dX6_signed_8 : decode cX6_signed 8 = .ok (.iload_n 2, 1) := by decide +kernel
theorem dX6_signed_9 : decode cX6_signed 9 = .ok (.isub, 1) := by decide +kernel
theorem dX6_signed_10 : decode cX6_signed 10 = .ok (.lshr, 1) := by decide +kernel
theorem dX6_signed_11 : decode cX6_signed 11 = .ok (.lreturn, 1) := by decide +kernel
theorem dX6_toWhole_0 : decode cX6_toWhole 0 = .ok (.aload_n 0, 1) := by decide +kernel
theorem dX6_toWhole_1 : decode cX6_toWhole 1 = .ok (.iload_n 1, 1) := by decide +kernel
theorem dX6_toWhole_2 : decode cX6_toWhole 2 = .ok (.iconst 0, 1) := by decide +kernel
theorem dX6_toWhole_3 : decode cX6_toWhole 3 = .ok (.iconst 4, 1) := by decide +kernel
theorem dX6_toWhole_4 : decode cX6_toWhole 4 = .ok (.invokestatic 16, 3) := by decide +kernel
theorem dX6_toWhole_7 : decode cX6_toWhole 7 = .ok (.ifCond .eq 29, 3) := by decide +kernel
theorem dX6_toWhole_10 : decode cX6_toWhole 10 = .ok (.aload_n 0, 1) := by decide +kernel
theorem dX6_toWhole_11 : decode cX6_toWhole 11 = .ok (.iload_n 2, 1) := by decide +kernel
theorem dX6_toWhole_12 : decode cX6_toWhole 12 = .ok (.aload_n 0, 1) := by decide +kernel
theorem dX6_toWhole_13 : decode cX6_toWhole 13 = .ok (.getfield 7, 3) := by decide +kernel
theorem dX6_toWhole_16 : decode cX6_toWhole 16 = .ok (.invokevirtual 42, 3) := by decide +kernel
theorem dX6_toWhole_19 : decode cX6_toWhole 19 = .ok (.ifCond .eq 17, 3) := by decide +kernel
theorem dX6_toWhole_22 : decode cX6_toWhole 22 = .ok (.iload_n 3, 1) := by decide +kernel
theorem dX6_toWhole_23 : decode cX6_toWhole 23 = .ok (.iconst 1, 1) := by decide +kernel
theorem dX6_toWhole_24 : decode cX6_toWhole 24 = .ok (.bipush 32, 2) := by decide +kernel
theorem dX6_toWhole_26 : decode cX6_toWhole 26 = .ok (.invokestatic 16, 3) := by decide +kernel
theorem dX6_toWhole_29 : decode cX6_toWhole 29 = .ok (.ifCond .eq 7, 3) := by decide +kernel
theorem dX6_toWhole_32 : decode cX6_toWhole 32 = .ok (.iconst 1, 1) := by decide +kernel
theorem dX6_toWhole_33 : decode cX6_toWhole 33 = .ok (.goto 4, 3) := by decide +kernel
theorem dX6_toWhole_36 : decode cX6_toWhole 36 = .ok (.iconst 0, 1) := by decide +kernel
theorem dX6_toWhole_37 : decode cX6_toWhole 37 = .ok (.invokevirtual 38, 3) := by decide +kernel
theorem dX6_toWhole_40 : decode cX6_toWhole 40 = .ok (.ifCond .ne 5, 3) := by decide +kernel
theorem dX6_toWhole_43 : decode cX6_toWhole 43 = .ok (.iconst 0, 1) := by decide +kernel
theorem dX6_toWhole_44 : decode cX6_toWhole 44 = .ok (.ireturn, 1) := by decide +kernel
theorem dX6_toWhole_45 : decode cX6_toWhole 45 = .ok (.aload_n 0, 1) := by decide +kernel
theorem dX6_toWhole_46 : decode cX6_toWhole 46 = .ok (.iload_n 2, 1) := by decide +kernel
theorem dX6_toWhole_47 : decode cX6_toWhole 47 = .ok (.i2l, 1) := by decide +kernel
theorem dX6_toWhole_48 : decode cX6_toWhole 48 = .ok (.aload_n 0, 1) := by decide +kernel
theorem dX6_toWhole_49 : decode cX6_toWhole 49 = .ok (.getfield 7, 3) := by decide +kernel
theorem dX6_toWhole_52 : decode cX6_toWhole 52 = .ok (.invokevirtual 60, 3) := by decide +kernel
theorem dX6_toWhole_55 : decode cX6_toWhole 55 = .ok (.aload_n 0, 1) := by decide +kernel
theorem dX6_toWhole_56 : decode cX6_toWhole 56 = .ok (.getfield 64, 3) := by decide +kernel
theorem dX6_toWhole_59 : decode cX6_toWhole 59 = .ok (.ifCond .ne 10, 3) := by decide +kernel
theorem dX6_toWhole_62 : decode cX6_toWhole 62 = .ok (.aload_n 0, 1) := by decide +kernel
theorem dX6_toWhole_63 : decode cX6_toWhole 63 = .ok (.getfield 85, 3) := by decide +kernel
theorem dX6_toWhole_66 : decode cX6_toWhole 66 = .ok (.ifCond .eq 5, 3) := by decide +kernel
theorem dX6_toWhole_69 : decode cX6_toWhole 69 = .ok (.iconst 0, 1) := by decide +kernel
theorem dX6_toWhole_70 : decode cX6_toWhole 70 = .ok (.ireturn, 1) := by decide +kernel
theorem dX6_toWhole_71 : decode cX6_toWhole 71 = .ok (.aload_n 0, 1) := by decide +kernel
theorem dX6_toWhole_72 : decode cX6_toWhole 72 = .ok (.getfield 95, 3) := by decide +kernel
theorem dX6_toWhole_75 : decode cX6_toWhole 75 = .ok (.ifCond .lt 15, 3) := by decide +kernel
theorem dX6_toWhole_78 : decode cX6_toWhole 78 = .ok (.aload_n 0, 1) := by decide +kernel
theorem dX6_toWhole_79 : decode cX6_toWhole 79 = .ok (.getfield 91, 3) := by decide +kernel
theorem dX6_toWhole_82 : decode cX6_toWhole 82 = .ok (.aload_n 0, 1) := by decide +kernel
theorem dX6_toWhole_83 : decode cX6_toWhole 83 = .ok (.getfield 95, 3) := by decide +kernel
theorem dX6_toWhole_86 : decode cX6_toWhole 86 = .ok (.lshl, 1) := by decide +kernel
theorem dX6_toWhole_87 : decode cX6_toWhole 87 = .ok (.goto 21, 3) := by decide +kernel
theorem dX6_toWhole_90 : decode cX6_toWhole 90 = .ok (.aload_n 0, 1) := by decide +kernel
theorem dX6_toWhole_91 : decode cX6_toWhole 91 = .ok (.getfield 91, 3) := by decide +kernel
theorem dX6_toWhole_94 : decode cX6_toWhole 94 = .ok (.aload_n 0, 1) := by decide +kernel
theorem dX6_toWhole_95 : decode cX6_toWhole 95 = .ok (.getfield 95, 3) := by decide +kernel
theorem dX6_toWhole_98 : decode cX6_toWhole 98 = .ok (.ineg, 1) := by decide +kernel
theorem dX6_toWhole_99 : decode cX6_toWhole 99 = .ok (.iconst 0, 1) := by decide +kernel
theorem dX6_toWhole_100 : decode cX6_toWhole 100 = .ok (.iload_n 1, 1) := by decide +kernel
theorem dX6_toWhole_101 : decode cX6_toWhole 101 = .ok (.aload_n 0, 1) := by decide +kernel
theorem dX6_toWhole_102 : decode cX6_toWhole 102 = .ok (.getfield 88, 3) := by decide +kernel
theorem dX6_toWhole_105 : decode cX6_toWhole 105 = .ok (.invokestatic 105, 3) := by decide +kernel
theorem dX6_toWhole_108 : decode cX6_toWhole 108 = .ok (.lstore 5, 2) := by decide +kernel
theorem dX6_toWhole_110 : decode cX6_toWhole 110 = .ok (.iload 4, 2) := by decide +kernel
theorem dX6_toWhole_112 : decode cX6_toWhole 112 = .ok (.ifCond .eq 12, 3) := by decide +kernel
theorem dX6_toWhole_115 : decode cX6_toWhole 115 = .ok (.iload_n 3, 1) := by decide +kernel
theorem dX6_toWhole_116 : decode cX6_toWhole 116 = .ok (.iconst 1, 1) := by decide +kernel
theorem dX6_toWhole_117 : decode cX6_toWhole 117 = .ok (.isub, 1) := by decide +kernel
theorem dX6_toWhole_118 : decode cX6_toWhole 118 = .ok (.invokestatic 27, 3) := by decide +kernel
theorem dX6_toWhole_121 : decode cX6_toWhole 121 = .ok (.goto 7, 3) := by decide +kernel
theorem dX6_toWhole_124 : decode cX6_toWhole 124 = .ok (.iload_n 3, 1) := by decide +kernel
theorem dX6_toWhole_125 : decode cX6_toWhole 125 = .ok (.invokestatic 27, 3) := by decide +kernel
theorem dX6_toWhole_128 : decode cX6_toWhole 128 = .ok (.lstore 7, 2) := by decide +kernel
theorem dX6_toWhole_130 : decode cX6_toWhole 130 = .ok (.aload_n 0, 1) := by decide +kernel
theorem dX6_toWhole_131 : decode cX6_toWhole 131 = .ok (.getfield 88, 3) := by decide +kernel
theorem dX6_toWhole_134 : decode cX6_toWhole 134 = .ok (.ifCond .eq 31, 3) := by decide +kernel
theorem dX6_toWhole_137 : decode cX6_toWhole 137 = .ok (.iload 4, 2) := by decide +kernel
theorem dX6_toWhole_139 : decode cX6_toWhole 139 = .ok (.ifCond .eq 16, 3) := by decide +kernel
theorem dX6_toWhole_142 : decode cX6_toWhole 142 = .ok (.lload 5, 2) := by decide +kernel
theorem dX6_toWhole_144 : decode cX6_toWhole 144 = .ok (.lload 7, 2) := by decide +kernel
theorem dX6_toWhole_146 : decode cX6_toWhole 146 = .ok (.lconst 1, 1) := by decide +kernel
theorem dX6_toWhole_147 : decode cX6_toWhole 147 = .ok (.ladd, 1) := by decide +kernel
theorem dX6_toWhole_148 : decode cX6_toWhole 148 = .ok (.lcmp, 1) := by decide +kernel
theorem dX6_toWhole_149 : decode cX6_toWhole 149 = .ok (.ifCond .le 26, 3) := by decide +kernel
theorem dX6_toWhole_152 : decode cX6_toWhole 152 = .ok (.goto 21, 3) := by decide +kernel
theorem dX6_toWhole_155 : decode cX6_toWhole 155 = .ok (.lload 5, 2) := by decide +kernel
theorem dX6_toWhole_157 : decode cX6_toWhole 157 = .ok (.lconst 0, 1) := by decide +kernel
theorem dX6_toWhole_158 : decode cX6_toWhole 158 = .ok (.lcmp, 1) := by decide +kernel
theorem dX6_toWhole_159 : decode cX6_toWhole 159 = .ok (.ifCond .eq 16, 3) := by decide +kernel
theorem dX6_toWhole_162 : decode cX6_toWhole 162 = .ok (.goto 11, 3) := by decide +kernel
theorem dX6_toWhole_165 : decode cX6_toWhole 165 = .ok (.lload 5, 2) := by decide +kernel
theorem dX6_toWhole_167 : decode cX6_toWhole 167 = .ok (.lload 7, 2) := by decide +kernel
theorem dX6_toWhole_169 : decode cX6_toWhole 169 = .ok (.lcmp, 1) := by decide +kernel
theorem dX6_toWhole_170 : decode cX6_toWhole 170 = .ok (.ifCond .le 5, 3) := by decide +kernel
theorem dX6_toWhole_173 : decode cX6_toWhole 173 = .ok (.iconst 0, 1) := by decide +kernel
theorem dX6_toWhole_174 : decode cX6_toWhole 174 = .ok (.ireturn, 1) := by decide +kernel
theorem dX6_toWhole_175 : decode cX6_toWhole 175 = .ok (.aload_n 0, 1) := by decide +kernel
theorem dX6_toWhole_176 : decode cX6_toWhole 176 = .ok (.getfield 88, 3) := by decide +kernel
theorem dX6_toWhole_179 : decode cX6_toWhole 179 = .ok (.ifCond .eq 10, 3) := by decide +kernel
theorem dX6_toWhole_182 : decode cX6_toWhole 182 = .ok (.lconst 0, 1) := by decide +kernel
theorem dX6_toWhole_183 : decode cX6_toWhole 183 = .ok (.lload 5, 2) := by decide +kernel
theorem dX6_toWhole_185 : decode cX6_toWhole 185 = .ok (.lsub, 1) := by decide +kernel
theorem dX6_toWhole_186 : decode cX6_toWhole 186 = .ok (.goto 5, 3) := by decide +kernel
theorem dX6_toWhole_189 : decode cX6_toWhole 189 = .ok (.lload 5, 2) := by decide +kernel
theorem dX6_toWhole_191 : decode cX6_toWhole 191 = .ok (.iload_n 3, 1) := by decide +kernel
theorem dX6_toWhole_192 : decode cX6_toWhole 192 = .ok (.invokestatic 27, 3) := by decide +kernel
theorem dX6_toWhole_195 : decode cX6_toWhole 195 = .ok (.land, 1) := by decide +kernel
theorem dX6_toWhole_196 : decode cX6_toWhole 196 = .ok (.l2i, 1) := by decide +kernel
theorem dX6_toWhole_197 : decode cX6_toWhole 197 = .ok (.ireturn, 1) := by decide +kernel
theorem dL_law_0 : decode cL_law 0 = .ok (.new 8, 3) := by decide +kernel
theorem dL_law_3 : decode cL_law 3 = .ok (.dup, 1) := by decide +kernel
theorem dL_law_4 : decode cL_law 4 = .ok (.invokespecial 45, 3) := by decide +kernel
theorem dL_law_7 : decode cL_law 7 = .ok (.astore_n 1, 1) := by decide +kernel
theorem dL_law_8 : decode cL_law 8 = .ok (.new 46, 3) := by decide +kernel
theorem dL_law_11 : decode cL_law 11 = .ok (.dup, 1) := by decide +kernel
theorem dL_law_12 : decode cL_law 12 = .ok (.invokespecial 48, 3) := by decide +kernel
theorem dL_law_15 : decode cL_law 15 = .ok (.astore_n 2, 1) := by decide +kernel
theorem dL_law_16 : decode cL_law 16 = .ok (.iconst 1, 1) := by decide +kernel
theorem dL_law_17 : decode cL_law 17 = .ok (.newarray .long, 2) := by decide +kernel
theorem dL_law_19 : decode cL_law 19 = .ok (.astore_n 3, 1) := by decide +kernel
theorem dL_law_20 : decode cL_law 20 = .ok (.iconst 0, 1) := by decide +kernel
theorem dL_law_21 : decode cL_law 21 = .ok (.istore 4, 2) := by decide +kernel
theorem dL_law_23 : decode cL_law 23 = .ok (.iload 4, 2) := by decide +kernel
theorem dL_law_25 : decode cL_law 25 = .ok (.aload_n 0, 1) := by decide +kernel
theorem dL_law_26 : decode cL_law 26 = .ok (.arraylength, 1) := by decide +kernel
theorem dL_law_27 : decode cL_law 27 = .ok (.iconst 5, 1) := by decide +kernel
theorem dL_law_28 : decode cL_law 28 = .ok (.isub, 1) := by decide +kernel
theorem dL_law_29 : decode cL_law 29 = .ok (.if_icmp .gt 871, 3) := by decide +kernel
theorem dL_law_32 : decode cL_law 32 = .ok (.aload_n 0, 1) := by decide +kernel
theorem dL_law_33 : decode cL_law 33 = .ok (.iload 4, 2) := by decide +kernel
theorem dL_law_35 : decode cL_law 35 = .ok (.iaload, 1) := by decide +kernel
theorem dL_law_36 : decode cL_law 36 = .ok (.bipush 15, 2) := by decide +kernel
theorem dL_law_38 : decode cL_law 38 = .ok (.iand, 1) := by decide +kernel
theorem dL_law_39 : decode cL_law 39 = .ok (.tableswitch 855 0 8 #[49, 117, 209, 289, 385, 472, 547, 639, 747], 49) := by decide +kernel
theorem dL_law_88 : decode cL_law 88 = .ok (.aload_n 1, 1) := by decide +kernel
theorem dL_law_89 : decode cL_law 89 = .ok (.aload_n 0, 1) := by decide +kernel
theorem dL_law_90 : decode cL_law 90 = .ok (.iload 4, 2) := by decide +kernel
theorem dL_law_92 : decode cL_law 92 = .ok (.iconst 1, 1) := by decide +kernel
theorem dL_law_93 : decode cL_law 93 = .ok (.iadd, 1) := by decide +kernel
theorem dL_law_94 : decode cL_law 94 = .ok (.iaload, 1) := by decide +kernel
theorem dL_law_95 : decode cL_law 95 = .ok (.aload_n 0, 1) := by decide +kernel
theorem dL_law_96 : decode cL_law 96 = .ok (.iload 4, 2) := by decide +kernel
theorem dL_law_98 : decode cL_law 98 = .ok (.iconst 2, 1) := by decide +kernel
theorem dL_law_99 : decode cL_law 99 = .ok (.iadd, 1) := by decide +kernel
theorem dL_law_100 : decode cL_law 100 = .ok (.iaload, 1) := by decide +kernel
theorem dL_law_101 : decode cL_law 101 = .ok (.aload_n 3, 1) := by decide +kernel
theorem dL_law_102 : decode cL_law 102 = .ok (.invokestatic 49, 3) := by decide +kernel
theorem dL_law_105 : decode cL_law 105 = .ok (.istore 5, 2) := by decide +kernel
theorem dL_law_107 : decode cL_law 107 = .ok (.aload_n 2, 1) := by decide +kernel
theorem dL_law_108 : decode cL_law 108 = .ok (.aload_n 0, 1) := by decide +kernel
theorem dL_law_109 : decode cL_law 109 = .ok (.iload 4, 2) := by decide +kernel
theorem dL_law_111 : decode cL_law 111 = .ok (.iconst 1, 1) := by decide +kernel
theorem dL_law_112 : decode cL_law 112 = .ok (.iadd, 1) := by decide +kernel
theorem dL_law_113 : decode cL_law 113 = .ok (.iaload, 1) := by decide +kernel
theorem dL_law_114 : decode cL_law 114 = .ok (.aload_n 0, 1) := by decide +kernel
theorem dL_law_115 : decode cL_law 115 = .ok (.iload 4, 2) := by decide +kernel
theorem dL_law_117 : decode cL_law 117 = .ok (.iconst 2, 1) := by decide +kernel
theorem dL_law_118 : decode cL_law 118 = .ok (.iadd, 1) := by decide +kernel
theorem dL_law_119 : decode cL_law 119 = .ok (.iaload, 1) := by decide +kernel
theorem dL_law_120 : decode cL_law 120 = .ok (.invokevirtual 54, 3) := by decide +kernel
theorem dL_law_123 : decode cL_law 123 = .ok (.istore 6, 2) := by decide +kernel
theorem dL_law_125 : decode cL_law 125 = .ok (.aload_n 2, 1) := by decide +kernel
theorem dL_law_126 : decode cL_law 126 = .ok (.invokevirtual 55, 3) := by decide +kernel
theorem dL_law_129 : decode cL_law 129 = .ok (.iload 5, 2) := by decide +kernel
theorem dL_law_131 : decode cL_law 131 = .ok (.if_icmp .eq 5, 3) := by decide +kernel
theorem dL_law_134 : decode cL_law 134 = .ok (.iconst 0, 1) := by decide +kernel
theorem dL_law_135 : decode cL_law 135 = .ok (.ireturn, 1) := by decide +kernel
theorem dL_law_136 : decode cL_law 136 = .ok (.iload 5, 2) := by decide +kernel
theorem dL_law_138 : decode cL_law 138 = .ok (.ifCond .ne 15, 3) := by decide +kernel
theorem dL_law_141 : decode cL_law 141 = .ok (.aload_n 3, 1) := by decide +kernel
theorem dL_law_142 : decode cL_law 142 = .ok (.iconst 0, 1) := by decide +kernel
theorem dL_law_143 : decode cL_law 143 = .ok (.laload, 1) := by decide +kernel
theorem dL_law_144 : decode cL_law 144 = .ok (.iload 6, 2) := by decide +kernel
theorem dL_law_146 : decode cL_law 146 = .ok (.i2l, 1) := by decide +kernel
theorem dL_law_147 : decode cL_law 147 = .ok (.lcmp, 1) := by decide +kernel
theorem dL_law_148 : decode cL_law 148 = .ok (.ifCond .eq 5, 3) := by decide +kernel
theorem dL_law_151 : decode cL_law 151 = .ok (.iconst 0, 1) := by decide +kernel
theorem dL_law_152 : decode cL_law 152 = .ok (.ireturn, 1) := by decide +kernel
theorem dL_law_153 : decode cL_law 153 = .ok (.goto 741, 3) := by decide +kernel
theorem dL_law_156 : decode cL_law 156 = .ok (.aload_n 1, 1) := by decide +kernel
theorem dL_law_157 : decode cL_law 157 = .ok (.aload_n 0, 1) := by decide +kernel
theorem dL_law_158 : decode cL_law 158 = .ok (.iload 4, 2) := by decide +kernel
theorem dL_law_160 : decode cL_law 160 = .ok (.iconst 1, 1) := by decide +kernel
theorem dL_law_161 : decode cL_law 161 = .ok (.iadd, 1) := by decide +kernel
theorem dL_law_162 : decode cL_law 162 = .ok (.iaload, 1) := by decide +kernel
theorem dL_law_163 : decode cL_law 163 = .ok (.aload_n 0, 1) := by decide +kernel
theorem dL_law_164 : decode cL_law 164 = .ok (.iload 4, 2) := by decide +kernel
theorem dL_law_166 : decode cL_law 166 = .ok (.iconst 2, 1) := by decide +kernel
theorem dL_law_167 : decode cL_law 167 = .ok (.iadd, 1) := by decide +kernel
theorem dL_law_168 : decode cL_law 168 = .ok (.iaload, 1) := by decide +kernel
theorem dL_law_169 : decode cL_law 169 = .ok (.aload_n 0, 1) := by decide +kernel
theorem dL_law_170 : decode cL_law 170 = .ok (.iload 4, 2) := by decide +kernel
theorem dL_law_172 : decode cL_law 172 = .ok (.iconst 3, 1) := by decide +kernel
theorem dL_law_173 : decode cL_law 173 = .ok (.iadd, 1) := by decide +kernel
theorem dL_law_174 : decode cL_law 174 = .ok (.iaload, 1) := by decide +kernel
theorem dL_law_175 : decode cL_law 175 = .ok (.aload_n 0, 1) := by decide +kernel
theorem dL_law_176 : decode cL_law 176 = .ok (.iload 4, 2) := by decide +kernel
theorem dL_law_178 : decode cL_law 178 = .ok (.iconst 4, 1) := by decide +kernel
theorem dL_law_179 : decode cL_law 179 = .ok (.iadd, 1) := by decide +kernel
theorem dL_law_180 : decode cL_law 180 = .ok (.iaload, 1) := by decide +kernel
theorem dL_law_181 : decode cL_law 181 = .ok (.aload_n 3, 1) := by decide +kernel
theorem dL_law_182 : decode cL_law 182 = .ok (.invokestatic 59, 3) := by decide +kernel
theorem dL_law_185 : decode cL_law 185 = .ok (.istore 5, 2) := by decide +kernel
theorem dL_law_187 : decode cL_law 187 = .ok (.aload_n 2, 1) := by decide +kernel
theorem dL_law_188 : decode cL_law 188 = .ok (.aload_n 0, 1) := by decide +kernel
theorem dL_law_189 : decode cL_law 189 = .ok (.iload 4, 2) := by decide +kernel
theorem dL_law_191 : decode cL_law 191 = .ok (.iconst 1, 1) := by decide +kernel
theorem dL_law_192 : decode cL_law 192 = .ok (.iadd, 1) := by decide +kernel
theorem dL_law_193 : decode cL_law 193 = .ok (.iaload, 1) := by decide +kernel
theorem dL_law_194 : decode cL_law 194 = .ok (.aload_n 0, 1) := by decide +kernel
theorem dL_law_195 : decode cL_law 195 = .ok (.iload 4, 2) := by decide +kernel
theorem dL_law_197 : decode cL_law 197 = .ok (.iconst 2, 1) := by decide +kernel
theorem dL_law_198 : decode cL_law 198 = .ok (.iadd, 1) := by decide +kernel
theorem dL_law_199 : decode cL_law 199 = .ok (.iaload, 1) := by decide +kernel
theorem dL_law_200 : decode cL_law 200 = .ok (.aload_n 0, 1) := by decide +kernel
theorem dL_law_201 : decode cL_law 201 = .ok (.iload 4, 2) := by decide +kernel
theorem dL_law_203 : decode cL_law 203 = .ok (.iconst 3, 1) := by decide +kernel
theorem dL_law_204 : decode cL_law 204 = .ok (.iadd, 1) := by decide +kernel
theorem dL_law_205 : decode cL_law 205 = .ok (.iaload, 1) := by decide +kernel
theorem dL_law_206 : decode cL_law 206 = .ok (.aload_n 0, 1) := by decide +kernel
theorem dL_law_207 : decode cL_law 207 = .ok (.iload 4, 2) := by decide +kernel
theorem dL_law_209 : decode cL_law 209 = .ok (.iconst 4, 1) := by decide +kernel
theorem dL_law_210 : decode cL_law 210 = .ok (.iadd, 1) := by decide +kernel
theorem dL_law_211 : decode cL_law 211 = .ok (.iaload, 1) := by decide +kernel
theorem dL_law_212 : decode cL_law 212 = .ok (.invokevirtual 62, 3) := by decide +kernel
theorem dL_law_215 : decode cL_law 215 = .ok (.istore 6, 2) := by decide +kernel
theorem dL_law_217 : decode cL_law 217 = .ok (.aload_n 2, 1) := by decide +kernel
theorem dL_law_218 : decode cL_law 218 = .ok (.invokevirtual 55, 3) := by decide +kernel
theorem dL_law_221 : decode cL_law 221 = .ok (.iload 5, 2) := by decide +kernel
theorem dL_law_223 : decode cL_law 223 = .ok (.if_icmp .eq 5, 3) := by decide +kernel
theorem dL_law_226 : decode cL_law 226 = .ok (.iconst 0, 1) := by decide +kernel
theorem dL_law_227 : decode cL_law 227 = .ok (.ireturn, 1) := by decide +kernel
theorem dL_law_228 : decode cL_law 228 = .ok (.iload 5, 2) := by decide +kernel
theorem dL_law_230 : decode cL_law 230 = .ok (.ifCond .ne 15, 3) := by decide +kernel
theorem dL_law_233 : decode cL_law 233 = .ok (.aload_n 3, 1) := by decide +kernel
theorem dL_law_234 : decode cL_law 234 = .ok (.iconst 0, 1) := by decide +kernel
theorem dL_law_235 : decode cL_law 235 = .ok (.laload, 1) := by decide +kernel
theorem dL_law_236 : decode cL_law 236 = .ok (.iload 6, 2) := by decide +kernel
theorem dL_law_238 : decode cL_law 238 = .ok (.i2l, 1) := by decide +kernel
theorem dL_law_239 : decode cL_law 239 = .ok (.lcmp, 1) := by decide +kernel
theorem dL_law_240 : decode cL_law 240 = .ok (.ifCond .eq 5, 3) := by decide +kernel
theorem dL_law_243 : decode cL_law 243 = .ok (.iconst 0, 1) := by decide +kernel
theorem dL_law_244 : decode cL_law 244 = .ok (.ireturn, 1) := by decide +kernel
theorem dL_law_245 : decode cL_law 245 = .ok (.goto 649, 3) := by decide +kernel
theorem dL_law_248 : decode cL_law 248 = .ok (.aload_n 1, 1) := by decide +kernel
theorem dL_law_249 : decode cL_law 249 = .ok (.aload_n 0, 1) := by decide +kernel
theorem dL_law_250 : decode cL_law 250 = .ok (.iload 4, 2) := by decide +kernel
theorem dL_law_252 : decode cL_law 252 = .ok (.iconst 1, 1) := by decide +kernel
theorem dL_law_253 : decode cL_law 253 = .ok (.iadd, 1) := by decide +kernel
theorem dL_law_254 : decode cL_law 254 = .ok (.iaload, 1) := by decide +kernel
theorem dL_law_255 : decode cL_law 255 = .ok (.aload_n 0, 1) := by decide +kernel
theorem dL_law_256 : decode cL_law 256 = .ok (.iload 4, 2) := by decide +kernel
theorem dL_law_258 : decode cL_law 258 = .ok (.iconst 2, 1) := by decide +kernel
theorem dL_law_259 : decode cL_law 259 = .ok (.iadd, 1) := by decide +kernel
theorem dL_law_260 : decode cL_law 260 = .ok (.iaload, 1) := by decide +kernel
theorem dL_law_261 : decode cL_law 261 = .ok (.aload_n 0, 1) := by decide +kernel
theorem dL_law_262 : decode cL_law 262 = .ok (.iload 4, 2) := by decide +kernel
theorem dL_law_264 : decode cL_law 264 = .ok (.iconst 3, 1) := by decide +kernel
theorem dL_law_265 : decode cL_law 265 = .ok (.iadd, 1) := by decide +kernel
theorem dL_law_266 : decode cL_law 266 = .ok (.iaload, 1) := by decide +kernel
theorem dL_law_267 : decode cL_law 267 = .ok (.aload_n 3, 1) := by decide +kernel
theorem dL_law_268 : decode cL_law 268 = .ok (.invokestatic 63, 3) := by decide +kernel
theorem dL_law_271 : decode cL_law 271 = .ok (.istore 5, 2) := by decide +kernel
theorem dL_law_273 : decode cL_law 273 = .ok (.aload_n 2, 1) := by decide +kernel
theorem dL_law_274 : decode cL_law 274 = .ok (.aload_n 0, 1) := by decide +kernel
theorem dL_law_275 : decode cL_law 275 = .ok (.iload 4, 2) := by decide +kernel
theorem dL_law_277 : decode cL_law 277 = .ok (.iconst 1, 1) := by decide +kernel
theorem dL_law_278 : decode cL_law 278 = .ok (.iadd, 1) := by decide +kernel
theorem dL_law_279 : decode cL_law 279 = .ok (.iaload, 1) := by decide +kernel
theorem dL_law_280 : decode cL_law 280 = .ok (.aload_n 0, 1) := by decide +kernel
theorem dL_law_281 : decode cL_law 281 = .ok (.iload 4, 2) := by decide +kernel
theorem dL_law_283 : decode cL_law 283 = .ok (.iconst 2, 1) := by decide +kernel
theorem dL_law_284 : decode cL_law 284 = .ok (.iadd, 1) := by decide +kernel
theorem dL_law_285 : decode cL_law 285 = .ok (.iaload, 1) := by decide +kernel
theorem dL_law_286 : decode cL_law 286 = .ok (.aload_n 0, 1) := by decide +kernel
theorem dL_law_287 : decode cL_law 287 = .ok (.iload 4, 2) := by decide +kernel
theorem dL_law_289 : decode cL_law 289 = .ok (.iconst 3, 1) := by decide +kernel
theorem dL_law_290 : decode cL_law 290 = .ok (.iadd, 1) := by decide +kernel
theorem dL_law_291 : decode cL_law 291 = .ok (.iaload, 1) := by decide +kernel
theorem dL_law_292 : decode cL_law 292 = .ok (.invokevirtual 66, 3) := by decide +kernel
theorem dL_law_295 : decode cL_law 295 = .ok (.istore 6, 2) := by decide +kernel
theorem dL_law_297 : decode cL_law 297 = .ok (.aload_n 2, 1) := by decide +kernel
theorem dL_law_298 : decode cL_law 298 = .ok (.invokevirtual 55, 3) := by decide +kernel
theorem dL_law_301 : decode cL_law 301 = .ok (.iload 5, 2) := by decide +kernel
theorem dL_law_303 : decode cL_law 303 = .ok (.if_icmp .eq 5, 3) := by decide +kernel
theorem dL_law_306 : decode cL_law 306 = .ok (.iconst 0, 1) := by decide +kernel
theorem dL_law_307 : decode cL_law 307 = .ok (.ireturn, 1) := by decide +kernel
theorem dL_law_308 : decode cL_law 308 = .ok (.iload 5, 2) := by decide +kernel
theorem dL_law_310 : decode cL_law 310 = .ok (.ifCond .ne 15, 3) := by decide +kernel
theorem dL_law_313 : decode cL_law 313 = .ok (.aload_n 3, 1) := by decide +kernel
theorem dL_law_314 : decode cL_law 314 = .ok (.iconst 0, 1) := by decide +kernel
theorem dL_law_315 : decode cL_law 315 = .ok (.laload, 1) := by decide +kernel
theorem dL_law_316 : decode cL_law 316 = .ok (.iload 6, 2) := by decide +kernel
theorem dL_law_318 : decode cL_law 318 = .ok (.i2l, 1) := by decide +kernel
theorem dL_law_319 : decode cL_law 319 = .ok (.lcmp, 1) := by decide +kernel
theorem dL_law_320 : decode cL_law 320 = .ok (.ifCond .eq 5, 3) := by decide +kernel
theorem dL_law_323 : decode cL_law 323 = .ok (.iconst 0, 1) := by decide +kernel
theorem dL_law_324 : decode cL_law 324 = .ok (.ireturn, 1) := by decide +kernel
theorem dL_law_325 : decode cL_law 325 = .ok (.goto 569, 3) := by decide +kernel
theorem dL_law_328 : decode cL_law 328 = .ok (.aload_n 1, 1) := by decide +kernel
theorem dL_law_329 : decode cL_law 329 = .ok (.aload_n 0, 1) := by decide +kernel
theorem dL_law_330 : decode cL_law 330 = .ok (.iload 4, 2) := by decide +kernel
theorem dL_law_332 : decode cL_law 332 = .ok (.iconst 1, 1) := by decide +kernel
theorem dL_law_333 : decode cL_law 333 = .ok (.iadd, 1) := by decide +kernel
theorem dL_law_334 : decode cL_law 334 = .ok (.iaload, 1) := by decide +kernel
theorem dL_law_335 : decode cL_law 335 = .ok (.aload_n 0, 1) := by decide +kernel
theorem dL_law_336 : decode cL_law 336 = .ok (.iload 4, 2) := by decide +kernel
theorem dL_law_338 : decode cL_law 338 = .ok (.iconst 2, 1) := by decide +kernel
theorem dL_law_339 : decode cL_law 339 = .ok (.iadd, 1) := by decide +kernel
theorem dL_law_340 : decode cL_law 340 = .ok (.iaload, 1) := by decide +kernel
theorem dL_law_341 : decode cL_law 341 = .ok (.aload_n 0, 1) := by decide +kernel
theorem dL_law_342 : decode cL_law 342 = .ok (.iload 4, 2) := by decide +kernel
theorem dL_law_344 : decode cL_law 344 = .ok (.iconst 3, 1) := by decide +kernel
theorem dL_law_345 : decode cL_law 345 = .ok (.iadd, 1) := by decide +kernel
theorem dL_law_346 : decode cL_law 346 = .ok (.iaload, 1) := by decide +kernel
theorem dL_law_347 : decode cL_law 347 = .ok (.ifCond .eq 7, 3) := by decide +kernel
theorem dL_law_350 : decode cL_law 350 = .ok (.iconst 1, 1) := by decide +kernel
theorem dL_law_351 : decode cL_law 351 = .ok (.goto 4, 3) := by decide +kernel
theorem dL_law_354 : decode cL_law 354 = .ok (.iconst 0, 1) := by decide +kernel
theorem dL_law_355 : decode cL_law 355 = .ok (.aload_n 3, 1) := by decide +kernel
theorem dL_law_356 : decode cL_law 356 = .ok (.invokestatic 67, 3) := by decide +kernel
theorem dL_law_359 : decode cL_law 359 = .ok (.istore 5, 2) := by decide +kernel
theorem dL_law_361 : decode cL_law 361 = .ok (.aload_n 2, 1) := by decide +kernel
theorem dL_law_362 : decode cL_law 362 = .ok (.aload_n 0, 1) := by decide +kernel
theorem dL_law_363 : decode cL_law 363 = .ok (.iload 4, 2) := by decide +kernel
theorem dL_law_365 : decode cL_law 365 = .ok (.iconst 1, 1) := by decide +kernel
theorem dL_law_366 : decode cL_law 366 = .ok (.iadd, 1) := by decide +kernel
theorem dL_law_367 : decode cL_law 367 = .ok (.iaload, 1) := by decide +kernel
theorem dL_law_368 : decode cL_law 368 = .ok (.aload_n 0, 1) := by decide +kernel
theorem dL_law_369 : decode cL_law 369 = .ok (.iload 4, 2) := by decide +kernel
theorem dL_law_371 : decode cL_law 371 = .ok (.iconst 2, 1) := by decide +kernel
theorem dL_law_372 : decode cL_law 372 = .ok (.iadd, 1) := by decide +kernel
theorem dL_law_373 : decode cL_law 373 = .ok (.iaload, 1) := by decide +kernel
theorem dL_law_374 : decode cL_law 374 = .ok (.aload_n 0, 1) := by decide +kernel
theorem dL_law_375 : decode cL_law 375 = .ok (.iload 4, 2) := by decide +kernel
theorem dL_law_377 : decode cL_law 377 = .ok (.iconst 3, 1) := by decide +kernel
theorem dL_law_378 : decode cL_law 378 = .ok (.iadd, 1) := by decide +kernel
theorem dL_law_379 : decode cL_law 379 = .ok (.iaload, 1) := by decide +kernel
theorem dL_law_380 : decode cL_law 380 = .ok (.ifCond .eq 7, 3) := by decide +kernel
theorem dL_law_383 : decode cL_law 383 = .ok (.iconst 1, 1) := by decide +kernel
theorem dL_law_384 : decode cL_law 384 = .ok (.goto 4, 3) := by decide +kernel
theorem dL_law_387 : decode cL_law 387 = .ok (.iconst 0, 1) := by decide +kernel
theorem dL_law_388 : decode cL_law 388 = .ok (.invokevirtual 70, 3) := by decide +kernel
theorem dL_law_391 : decode cL_law 391 = .ok (.istore 6, 2) := by decide +kernel
theorem dL_law_393 : decode cL_law 393 = .ok (.aload_n 2, 1) := by decide +kernel
theorem dL_law_394 : decode cL_law 394 = .ok (.invokevirtual 55, 3) := by decide +kernel
theorem dL_law_397 : decode cL_law 397 = .ok (.iload 5, 2) := by decide +kernel
theorem dL_law_399 : decode cL_law 399 = .ok (.if_icmp .eq 5, 3) := by decide +kernel
theorem dL_law_402 : decode cL_law 402 = .ok (.iconst 0, 1) := by decide +kernel
theorem dL_law_403 : decode cL_law 403 = .ok (.ireturn, 1) := by decide +kernel
theorem dL_law_404 : decode cL_law 404 = .ok (.iload 5, 2) := by decide +kernel
theorem dL_law_406 : decode cL_law 406 = .ok (.ifCond .ne 15, 3) := by decide +kernel
theorem dL_law_409 : decode cL_law 409 = .ok (.aload_n 3, 1) := by decide +kernel
theorem dL_law_410 : decode cL_law 410 = .ok (.iconst 0, 1) := by decide +kernel
theorem dL_law_411 : decode cL_law 411 = .ok (.laload, 1) := by decide +kernel
theorem dL_law_412 : decode cL_law 412 = .ok (.iload 6, 2) := by decide +kernel
theorem dL_law_414 : decode cL_law 414 = .ok (.i2l, 1) := by decide +kernel
theorem dL_law_415 : decode cL_law 415 = .ok (.lcmp, 1) := by decide +kernel
theorem dL_law_416 : decode cL_law 416 = .ok (.ifCond .eq 5, 3) := by decide +kernel
theorem dL_law_419 : decode cL_law 419 = .ok (.iconst 0, 1) := by decide +kernel
theorem dL_law_420 : decode cL_law 420 = .ok (.ireturn, 1) := by decide +kernel
theorem dL_law_421 : decode cL_law 421 = .ok (.goto 473, 3) := by decide +kernel
theorem dL_law_424 : decode cL_law 424 = .ok (.aload_n 1, 1) := by decide +kernel
theorem dL_law_425 : decode cL_law 425 = .ok (.aload_n 0, 1) := by decide +kernel
theorem dL_law_426 : decode cL_law 426 = .ok (.iload 4, 2) := by decide +kernel
theorem dL_law_428 : decode cL_law 428 = .ok (.iconst 1, 1) := by decide +kernel
theorem dL_law_429 : decode cL_law 429 = .ok (.iadd, 1) := by decide +kernel
theorem dL_law_430 : decode cL_law 430 = .ok (.iaload, 1) := by decide +kernel
theorem dL_law_431 : decode cL_law 431 = .ok (.aload_n 0, 1) := by decide +kernel
theorem dL_law_432 : decode cL_law 432 = .ok (.iload 4, 2) := by decide +kernel
theorem dL_law_434 : decode cL_law 434 = .ok (.iconst 2, 1) := by decide +kernel
theorem dL_law_435 : decode cL_law 435 = .ok (.iadd, 1) := by decide +kernel
theorem dL_law_436 : decode cL_law 436 = .ok (.iaload, 1) := by decide +kernel
theorem dL_law_437 : decode cL_law 437 = .ok (.aload_n 0, 1) := by decide +kernel
theorem dL_law_438 : decode cL_law 438 = .ok (.iload 4, 2) := by decide +kernel
theorem dL_law_440 : decode cL_law 440 = .ok (.iconst 3, 1) := by decide +kernel
theorem dL_law_441 : decode cL_law 441 = .ok (.iadd, 1) := by decide +kernel
theorem dL_law_442 : decode cL_law 442 = .ok (.iaload, 1) := by decide +kernel
theorem dL_law_443 : decode cL_law 443 = .ok (.aload_n 3, 1) := by decide +kernel
theorem dL_law_444 : decode cL_law 444 = .ok (.invokestatic 71, 3) := by decide +kernel
theorem dL_law_447 : decode cL_law 447 = .ok (.istore 5, 2) := by decide +kernel
theorem dL_law_449 : decode cL_law 449 = .ok (.aload_n 2, 1) := by decide +kernel
theorem dL_law_450 : decode cL_law 450 = .ok (.aload_n 0, 1) := by decide +kernel
theorem dL_law_451 : decode cL_law 451 = .ok (.iload 4, 2) := by decide +kernel
theorem dL_law_453 : decode cL_law 453 = .ok (.iconst 1, 1) := by decide +kernel
theorem dL_law_454 : decode cL_law 454 = .ok (.iadd, 1) := by decide +kernel
theorem dL_law_455 : decode cL_law 455 = .ok (.iaload, 1) := by decide +kernel
theorem dL_law_456 : decode cL_law 456 = .ok (.aload_n 0, 1) := by decide +kernel
theorem dL_law_457 : decode cL_law 457 = .ok (.iload 4, 2) := by decide +kernel
theorem dL_law_459 : decode cL_law 459 = .ok (.iconst 2, 1) := by decide +kernel
theorem dL_law_460 : decode cL_law 460 = .ok (.iadd, 1) := by decide +kernel
theorem dL_law_461 : decode cL_law 461 = .ok (.iaload, 1) := by decide +kernel
theorem dL_law_462 : decode cL_law 462 = .ok (.aload_n 0, 1) := by decide +kernel
theorem dL_law_463 : decode cL_law 463 = .ok (.iload 4, 2) := by decide +kernel
theorem dL_law_465 : decode cL_law 465 = .ok (.iconst 3, 1) := by decide +kernel
theorem dL_law_466 : decode cL_law 466 = .ok (.iadd, 1) := by decide +kernel
theorem dL_law_467 : decode cL_law 467 = .ok (.iaload, 1) := by decide +kernel
theorem dL_law_468 : decode cL_law 468 = .ok (.invokevirtual 73, 3) := by decide +kernel
theorem dL_law_471 : decode cL_law 471 = .ok (.istore 6, 2) := by decide +kernel
theorem dL_law_473 : decode cL_law 473 = .ok (.aload_n 2, 1) := by decide +kernel
theorem dL_law_474 : decode cL_law 474 = .ok (.invokevirtual 55, 3) := by decide +kernel
theorem dL_law_477 : decode cL_law 477 = .ok (.iload 5, 2) := by decide +kernel
theorem dL_law_479 : decode cL_law 479 = .ok (.if_icmp .eq 5, 3) := by decide +kernel
theorem dL_law_482 : decode cL_law 482 = .ok (.iconst 0, 1) := by decide +kernel
theorem dL_law_483 : decode cL_law 483 = .ok (.ireturn, 1) := by decide +kernel
theorem dL_law_484 : decode cL_law 484 = .ok (.iload 5, 2) := by decide +kernel
theorem dL_law_486 : decode cL_law 486 = .ok (.ifCond .ne 22, 3) := by decide +kernel
theorem dL_law_489 : decode cL_law 489 = .ok (.aload_n 3, 1) := by decide +kernel
theorem dL_law_490 : decode cL_law 490 = .ok (.iconst 0, 1) := by decide +kernel
theorem dL_law_491 : decode cL_law 491 = .ok (.laload, 1) := by decide +kernel
theorem dL_law_492 : decode cL_law 492 = .ok (.iload 6, 2) := by decide +kernel
theorem dL_law_494 : decode cL_law 494 = .ok (.ifCond .eq 7, 3) := by decide +kernel
theorem dL_law_497 : decode cL_law 497 = .ok (.lconst 1, 1) := by decide +kernel
theorem dL_law_498 : decode cL_law 498 = .ok (.goto 4, 3) := by decide +kernel
theorem dL_law_501 : decode cL_law 501 = .ok (.lconst 0, 1) := by decide +kernel
theorem dL_law_502 : decode cL_law 502 = .ok (.lcmp, 1) := by decide +kernel
theorem dL_law_503 : decode cL_law 503 = .ok (.ifCond .eq 5, 3) := by decide +kernel
theorem dL_law_506 : decode cL_law 506 = .ok (.iconst 0, 1) := by decide +kernel
theorem dL_law_507 : decode cL_law 507 = .ok (.ireturn, 1) := by decide +kernel
theorem dL_law_508 : decode cL_law 508 = .ok (.goto 386, 3) := by decide +kernel
theorem dL_law_511 : decode cL_law 511 = .ok (.aload_n 1, 1) := by decide +kernel
theorem dL_law_512 : decode cL_law 512 = .ok (.aload_n 0, 1) := by decide +kernel
theorem dL_law_513 : decode cL_law 513 = .ok (.iload 4, 2) := by decide +kernel
theorem dL_law_515 : decode cL_law 515 = .ok (.iconst 1, 1) := by decide +kernel
theorem dL_law_516 : decode cL_law 516 = .ok (.iadd, 1) := by decide +kernel
theorem dL_law_517 : decode cL_law 517 = .ok (.iaload, 1) := by decide +kernel
theorem dL_law_518 : decode cL_law 518 = .ok (.aload_n 0, 1) := by decide +kernel
theorem dL_law_519 : decode cL_law 519 = .ok (.iload 4, 2) := by decide +kernel
theorem dL_law_521 : decode cL_law 521 = .ok (.iconst 2, 1) := by decide +kernel
theorem dL_law_522 : decode cL_law 522 = .ok (.iadd, 1) := by decide +kernel
theorem dL_law_523 : decode cL_law 523 = .ok (.iaload, 1) := by decide +kernel
theorem dL_law_524 : decode cL_law 524 = .ok (.aload_n 3, 1) := by decide +kernel
theorem dL_law_525 : decode cL_law 525 = .ok (.invokestatic 74, 3) := by decide +kernel
theorem dL_law_528 : decode cL_law 528 = .ok (.istore 5, 2) := by decide +kernel
theorem dL_law_530 : decode cL_law 530 = .ok (.aload_n 2, 1) := by decide +kernel
theorem dL_law_531 : decode cL_law 531 = .ok (.aload_n 0, 1) := by decide +kernel
theorem dL_law_532 : decode cL_law 532 = .ok (.iload 4, 2) := by decide +kernel
theorem dL_law_534 : decode cL_law 534 = .ok (.iconst 1, 1) := by decide +kernel
theorem dL_law_535 : decode cL_law 535 = .ok (.iadd, 1) := by decide +kernel
theorem dL_law_536 : decode cL_law 536 = .ok (.iaload, 1) := by decide +kernel
theorem dL_law_537 : decode cL_law 537 = .ok (.aload_n 0, 1) := by decide +kernel
theorem dL_law_538 : decode cL_law 538 = .ok (.iload 4, 2) := by decide +kernel
