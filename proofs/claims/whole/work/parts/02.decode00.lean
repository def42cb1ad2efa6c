theorem dX5_init_0 : decode cX5_init 0 = .ok (.aload_n 0, 1) := by decide +kernel
theorem dX5_init_1 : decode cX5_init 1 = .ok (.invokespecial 1, 3) := by decide +kernel
theorem dX5_init_4 : decode cX5_init 4 = .ok (.aload_n 0, 1) := by decide +kernel
theorem dX5_init_5 : decode cX5_init 5 = .ok (.new 7, 3) := by decide +kernel
theorem dX5_init_8 : decode cX5_init 8 = .ok (.dup, 1) := by decide +kernel
theorem dX5_init_9 : decode cX5_init 9 = .ok (.iconst 5, 1) := by decide +kernel
theorem dX5_init_10 : decode cX5_init 10 = .ok (.bipush 11, 2) := by decide +kernel
theorem dX5_init_12 : decode cX5_init 12 = .ok (.invokespecial 9, 3) := by decide +kernel
theorem dX5_init_15 : decode cX5_init 15 = .ok (.putfield 12, 3) := by decide +kernel
theorem dX5_init_18 : decode cX5_init 18 = .ok (.return_, 1) := by decide +kernel
theorem dX0_init_0 : decode cX0_init 0 = .ok (.aload_n 0, 1) := by decide +kernel
theorem dX0_init_1 : decode cX0_init 1 = .ok (.invokespecial 1, 3) := by decide +kernel
theorem dX0_init_4 : decode cX0_init 4 = .ok (.aload_n 0, 1) := by decide +kernel
theorem dX0_init_5 : decode cX0_init 5 = .ok (.iload_n 1, 1) := by decide +kernel
theorem dX0_init_6 : decode cX0_init 6 = .ok (.iload_n 2, 1) := by decide +kernel
theorem dX0_init_7 : decode cX0_init 7 = .ok (.iadd, 1) := by decide +kernel
theorem dX0_init_8 : decode cX0_init 8 = .ok (.putfield 7, 3) := by decide +kernel
theorem dX0_init_11 : decode cX0_init 11 = .ok (.aload_n 0, 1) := by decide +kernel
theorem dX0_init_12 : decode cX0_init 12 = .ok (.iload_n 2, 1) := by decide +kernel
theorem dX0_init_13 : decode cX0_init 13 = .ok (.iconst 1, 1) := by decide +kernel
theorem dX0_init_14 : decode cX0_init 14 = .ok (.isub, 1) := by decide +kernel
theorem dX0_init_15 : decode cX0_init 15 = .ok (.putfield 13, 3) := by decide +kernel
theorem dX0_init_18 : decode cX0_init 18 = .ok (.aload_n 0, 1) := by decide +kernel
theorem dX0_init_19 : decode cX0_init 19 = .ok (.iconst 1, 1) := by decide +kernel
theorem dX0_init_20 : decode cX0_init 20 = .ok (.aload_n 0, 1) := by decide +kernel
theorem dX0_init_21 : decode cX0_init 21 = .ok (.getfield 7, 3) := by decide +kernel
theorem dX0_init_24 : decode cX0_init 24 = .ok (.iconst 1, 1) := by decide +kernel
theorem dX0_init_25 : decode cX0_init 25 = .ok (.isub, 1) := by decide +kernel
theorem dX0_init_26 : decode cX0_init 26 = .ok (.ishl, 1) := by decide +kernel
theorem dX0_init_27 : decode cX0_init 27 = .ok (.putfield 16, 3) := by decide +kernel
theorem dX0_init_30 : decode cX0_init 30 = .ok (.aload_n 0, 1) := by decide +kernel
theorem dX0_init_31 : decode cX0_init 31 = .ok (.iconst 1, 1) := by decide +kernel
theorem dX0_init_32 : decode cX0_init 32 = .ok (.iload_n 1, 1) := by decide +kernel
theorem dX0_init_33 : decode cX0_init 33 = .ok (.ishl, 1) := by decide +kernel
theorem dX0_init_34 : decode cX0_init 34 = .ok (.iconst 1, 1) := by decide +kernel
theorem dX0_init_35 : decode cX0_init 35 = .ok (.isub, 1) := by decide +kernel
theorem dX0_init_36 : decode cX0_init 36 = .ok (.aload_n 0, 1) := by decide +kernel
theorem dX0_init_37 : decode cX0_init 37 = .ok (.getfield 13, 3) := by decide +kernel
theorem dX0_init_40 : decode cX0_init 40 = .ok (.ishl, 1) := by decide +kernel
theorem dX0_init_41 : decode cX0_init 41 = .ok (.putfield 19, 3) := by decide +kernel
theorem dX0_init_44 : decode cX0_init 44 = .ok (.aload_n 0, 1) := by decide +kernel
theorem dX0_init_45 : decode cX0_init 45 = .ok (.aload_n 0, 1) := by decide +kernel
theorem dX0_init_46 : decode cX0_init 46 = .ok (.getfield 19, 3) := by decide +kernel
theorem dX0_init_49 : decode cX0_init 49 = .ok (.iconst 1, 1) := by decide +kernel
theorem dX0_init_50 : decode cX0_init 50 = .ok (.aload_n 0, 1) := by decide +kernel
theorem dX0_init_51 : decode cX0_init 51 = .ok (.getfield 13, 3) := by decide +kernel
theorem dX0_init_54 : decode cX0_init 54 = .ok (.iconst 1, 1) := by decide +kernel
theorem dX0_init_55 : decode cX0_init 55 = .ok (.isub, 1) := by decide +kernel
theorem dX0_init_56 : decode cX0_init 56 = .ok (.ishl, 1) := by decide +kernel
theorem dX0_init_57 : decode cX0_init 57 = .ok (.ior, 1) := by decide +kernel
theorem dX0_init_58 : decode cX0_init 58 = .ok (.putfield 22, 3) := by decide +kernel
theorem dX0_init_61 : decode cX0_init 61 = .ok (.iconst 1, 1) := by decide +kernel
theorem dX0_init_62 : decode cX0_init 62 = .ok (.iload_n 1, 1) := by decide +kernel
theorem dX0_init_63 : decode cX0_init 63 = .ok (.iconst 1, 1) := by decide +kernel
theorem dX0_init_64 : decode cX0_init 64 = .ok (.isub, 1) := by decide +kernel
theorem dX0_init_65 : decode cX0_init 65 = .ok (.ishl, 1) := by decide +kernel
theorem dX0_init_66 : decode cX0_init 66 = .ok (.iconst 1, 1) := by decide +kernel
theorem dX0_init_67 : decode cX0_init 67 = .ok (.isub, 1) := by decide +kernel
theorem dX0_init_68 : decode cX0_init 68 = .ok (.istore_n 3, 1) := by decide +kernel
theorem dX0_init_69 : decode cX0_init 69 = .ok (.aload_n 0, 1) := by decide +kernel
theorem dX0_init_70 : decode cX0_init 70 = .ok (.iconst 1, 1) := by decide +kernel
theorem dX0_init_71 : decode cX0_init 71 = .ok (.iload_n 3, 1) := by decide +kernel
theorem dX0_init_72 : decode cX0_init 72 = .ok (.isub, 1) := by decide +kernel
theorem dX0_init_73 : decode cX0_init 73 = .ok (.aload_n 0, 1) := by decide +kernel
theorem dX0_init_74 : decode cX0_init 74 = .ok (.getfield 13, 3) := by decide +kernel
theorem dX0_init_77 : decode cX0_init 77 = .ok (.isub, 1) := by decide +kernel
theorem dX0_init_78 : decode cX0_init 78 = .ok (.putfield 25, 3) := by decide +kernel
theorem dX0_init_81 : decode cX0_init 81 = .ok (.return_, 1) := by decide +kernel
theorem dL_format_0 : decode cL_format 0 = .ok (.aload_n 3, 1) := by decide +kernel
theorem dL_format_1 : decode cL_format 1 = .ok (.iconst 0, 1) := by decide +kernel
theorem dL_format_2 : decode cL_format 2 = .ok (.aload_n 0, 1) := by decide +kernel
theorem dL_format_3 : decode cL_format 3 = .ok (.iload_n 1, 1) := by decide +kernel
theorem dL_format_4 : decode cL_format 4 = .ok (.iload_n 2, 1) := by decide +kernel
theorem dL_format_5 : decode cL_format 5 = .ok (.invokevirtual 7, 3) := by decide +kernel
theorem dL_format_8 : decode cL_format 8 = .ok (.i2l, 1) := by decide +kernel
theorem dL_format_9 : decode cL_format 9 = .ok (.lastore, 1) := by decide +kernel
theorem dL_format_10 : decode cL_format 10 = .ok (.goto 7, 3) := by decide +kernel
theorem dL_format_13 : decode cL_format 13 = .ok (.astore 4, 2) := by decide +kernel
theorem dL_format_15 : decode cL_format 15 = .ok (.iconst 1, 1) := by decide +kernel
theorem dL_format_16 : decode cL_format 16 = .ok (.ireturn, 1) := by decide +kernel
theorem dL_format_17 : decode cL_format 17 = .ok (.iconst 0, 1) := by decide +kernel
theorem dL_format_18 : decode cL_format 18 = .ok (.ireturn, 1) := by decide +kernel
theorem dX5_format_0 : decode cX5_format 0 = .ok (.iload_n 1, 1) := by decide +kernel
theorem dX5_format_1 : decode cX5_format 1 = .ok (.iload_n 2, 1) := by decide +kernel
theorem dX5_format_2 : decode cX5_format 2 = .ok (.invokestatic 18, 3) := by decide +kernel
theorem dX5_format_5 : decode cX5_format 5 = .ok (.invokestatic 22, 3) := by decide +kernel
theorem dX5_format_8 : decode cX5_format 8 = .ok (.aload_n 0, 1) := by decide +kernel
theorem dX5_format_9 : decode cX5_format 9 = .ok (.new 7, 3) := by decide +kernel
theorem dX5_format_12 : decode cX5_format 12 = .ok (.dup, 1) := by decide +kernel
theorem dX5_format_13 : decode cX5_format 13 = .ok (.iload_n 1, 1) := by decide +kernel
theorem dX5_format_14 : decode cX5_format 14 = .ok (.iload_n 2, 1) := by decide +kernel
theorem dX5_format_15 : decode cX5_format 15 = .ok (.invokespecial 9, 3) := by decide +kernel
theorem dX5_format_18 : decode cX5_format 18 = .ok (.putfield 12, 3) := by decide +kernel
theorem dX5_format_21 : decode cX5_format 21 = .ok (.aload_n 0, 1) := by decide +kernel
theorem dX5_format_22 : decode cX5_format 22 = .ok (.getfield 12, 3) := by decide +kernel
theorem dX5_format_25 : decode cX5_format 25 = .ok (.getfield 26, 3) := by decide +kernel
theorem dX5_format_28 : decode cX5_format 28 = .ok (.ireturn, 1) := by decide +kernel
theorem dX5_isFormat_0 : decode cX5_isFormat 0 = .ok (.iload_n 0, 1) := by decide +kernel
theorem dX5_isFormat_1 : decode cX5_isFormat 1 = .ok (.iconst 2, 1) := by decide +kernel
theorem dX5_isFormat_2 : decode cX5_isFormat 2 = .ok (.iconst 5, 1) := by decide +kernel
theorem dX5_isFormat_3 : decode cX5_isFormat 3 = .ok (.invokestatic 30, 3) := by decide +kernel
theorem dX5_isFormat_6 : decode cX5_isFormat 6 = .ok (.ifCond .eq 17, 3) := by decide +kernel
theorem dX5_isFormat_9 : decode cX5_isFormat 9 = .ok (.iload_n 1, 1) := by decide +kernel
theorem dX5_isFormat_10 : decode cX5_isFormat 10 = .ok (.iconst 2, 1) := by decide +kernel
theorem dX5_isFormat_11 : decode cX5_isFormat 11 = .ok (.bipush 11, 2) := by decide +kernel
theorem dX5_isFormat_13 : decode cX5_isFormat 13 = .ok (.invokestatic 30, 3) := by decide +kernel
theorem dX5_isFormat_16 : decode cX5_isFormat 16 = .ok (.ifCond .eq 7, 3) := by decide +kernel
theorem dX5_isFormat_19 : decode cX5_isFormat 19 = .ok (.iconst 1, 1) := by decide +kernel
theorem dX5_isFormat_20 : decode cX5_isFormat 20 = .ok (.goto 4, 3) := by decide +kernel
theorem dX5_isFormat_23 : decode cX5_isFormat 23 = .ok (.iconst 0, 1) := by decide +kernel
theorem dX5_isFormat_24 : decode cX5_isFormat 24 = .ok (.ireturn, 1) := by decide +kernel
theorem dX5_isWithin_0 : decode cX5_isWithin 0 = .ok (.iload_n 1, 1) := by decide +kernel
theorem dX5_isWithin_1 : decode cX5_isWithin 1 = .ok (.iload_n 0, 1) := by decide +kernel
theorem dX5_isWithin_2 : decode cX5_isWithin 2 = .ok (.if_icmp .gt 12, 3) := by decide +kernel
theorem dX5_isWithin_5 : decode cX5_isWithin 5 = .ok (.iload_n 0, 1) := by decide +kernel
theorem dX5_isWithin_6 : decode cX5_isWithin 6 = .ok (.iload_n 2, 1) := by decide +kernel
theorem dX5_isWithin_7 : decode cX5_isWithin 7 = .ok (.if_icmp .gt 7, 3) := by decide +kernel
theorem dX5_isWithin_10 : decode cX5_isWithin 10 = .ok (.iconst 1, 1) := by decide +kernel
theorem dX5_isWithin_11 : decode cX5_isWithin 11 = .ok (.goto 4, 3) := by decide +kernel
theorem dX5_isWithin_14 : decode cX5_isWithin 14 = .ok (.iconst 0, 1) := by decide +kernel
theorem dX5_isWithin_15 : decode cX5_isWithin 15 = .ok (.ireturn, 1) := by decide +kernel
theorem dX5_require_0 : decode cX5_require 0 = .ok (.iload_n 0, 1) := by decide +kernel
theorem dX5_require_1 : decode cX5_require 1 = .ok (.ifCond .ne 11, 3) := by decide +kernel
theorem dX5_require_4 : decode cX5_require 4 = .ok (.new 138, 3) := by decide +kernel
theorem dX5_require_7 : decode cX5_require 7 = .ok (.dup, 1) := by decide +kernel
theorem dX5_require_8 : decode cX5_require 8 = .ok (.invokespecial 140, 3) := by decide +kernel
theorem dX5_require_11 : decode cX5_require 11 = .ok (.athrow, 1) := by decide +kernel
theorem dX5_require_12 : decode cX5_require 12 = .ok (.return_, 1) := by decide +kernel
theorem dL_reckon_0 : decode cL_reckon 0 = .ok (.aload 5, 2) := by decide +kernel
theorem dL_reckon_2 : decode cL_reckon 2 = .ok (.iconst 0, 1) := by decide +kernel
theorem dL_reckon_3 : decode cL_reckon 3 = .ok (.aload_n 0, 1) := by decide +kernel
theorem dL_reckon_4 : decode cL_reckon 4 = .ok (.iload_n 1, 1) := by decide +kernel
theorem dL_reckon_5 : decode cL_reckon 5 = .ok (.iload_n 2, 1) := by decide +kernel
theorem dL_reckon_6 : decode cL_reckon 6 = .ok (.iload_n 3, 1) := by decide +kernel
theorem dL_reckon_7 : decode cL_reckon 7 = .ok (.iload 4, 2) := by decide +kernel
theorem dL_reckon_9 : decode cL_reckon 9 = .ok (.invokevirtual 15, 3) := by decide +kernel
theorem dL_reckon_12 : decode cL_reckon 12 = .ok (.i2l, 1) := by decide +kernel
theorem dL_reckon_13 : decode cL_reckon 13 = .ok (.lastore, 1) := by decide +kernel
theorem dL_reckon_14 : decode cL_reckon 14 = .ok (.goto 7, 3) := by decide +kernel
theorem dL_reckon_17 : decode cL_reckon 17 = .ok (.astore 6, 2) := by decide +kernel
theorem dL_reckon_19 : decode cL_reckon 19 = .ok (.iconst 1, 1) := by decide +kernel
theorem dL_reckon_20 : decode cL_reckon 20 = .ok (.ireturn, 1) := by decide +kernel
theorem dL_reckon_21 : decode cL_reckon 21 = .ok (.iconst 0, 1) := by decide +kernel
theorem dL_reckon_22 : decode cL_reckon 22 = .ok (.ireturn, 1) := by decide +kernel
theorem dX5_reckon_0 : decode cX5_reckon 0 = .ok (.iload_n 1, 1) := by decide +kernel
theorem dX5_reckon_1 : decode cX5_reckon 1 = .ok (.iconst 0, 1) := by decide +kernel
theorem dX5_reckon_2 : decode cX5_reckon 2 = .ok (.iconst 3, 1) := by decide +kernel
theorem dX5_reckon_3 : decode cX5_reckon 3 = .ok (.invokestatic 30, 3) := by decide +kernel
theorem dX5_reckon_6 : decode cX5_reckon 6 = .ok (.ifCond .eq 37, 3) := by decide +kernel
theorem dX5_reckon_9 : decode cX5_reckon 9 = .ok (.iload_n 2, 1) := by decide +kernel
theorem dX5_reckon_10 : decode cX5_reckon 10 = .ok (.invokestatic 34, 3) := by decide +kernel
theorem dX5_reckon_13 : decode cX5_reckon 13 = .ok (.ifCond .eq 30, 3) := by decide +kernel
theorem dX5_reckon_16 : decode cX5_reckon 16 = .ok (.aload_n 0, 1) := by decide +kernel
theorem dX5_reckon_17 : decode cX5_reckon 17 = .ok (.getfield 12, 3) := by decide +kernel
theorem dX5_reckon_20 : decode cX5_reckon 20 = .ok (.iload_n 3, 1) := by decide +kernel
theorem dX5_reckon_21 : decode cX5_reckon 21 = .ok (.invokevirtual 38, 3) := by decide +kernel
theorem dX5_reckon_24 : decode cX5_reckon 24 = .ok (.ifCond .eq 19, 3) := by decide +kernel
theorem dX5_reckon_27 : decode cX5_reckon 27 = .ok (.aload_n 0, 1) := by decide +kernel
theorem dX5_reckon_28 : decode cX5_reckon 28 = .ok (.getfield 12, 3) := by decide +kernel
theorem dX5_reckon_31 : decode cX5_reckon 31 = .ok (.iload 4, 2) := by decide +kernel
theorem dX5_reckon_33 : decode cX5_reckon 33 = .ok (.invokevirtual 38, 3) := by decide +kernel
theorem dX5_reckon_36 : decode cX5_reckon 36 = .ok (.ifCond .eq 7, 3) := by decide +kernel
theorem dX5_reckon_39 : decode cX5_reckon 39 = .ok (.iconst 1, 1) := by decide +kernel
theorem dX5_reckon_40 : decode cX5_reckon 40 = .ok (.goto 4, 3) := by decide +kernel
theorem dX5_reckon_43 : decode cX5_reckon 43 = .ok (.iconst 0, 1) := by decide +kernel
theorem dX5_reckon_44 : decode cX5_reckon 44 = .ok (.invokestatic 22, 3) := by decide +kernel
theorem dX5_reckon_47 : decode cX5_reckon 47 = .ok (.aload_n 0, 1) := by decide +kernel
theorem dX5_reckon_48 : decode cX5_reckon 48 = .ok (.getfield 12, 3) := by decide +kernel
theorem dX5_reckon_51 : decode cX5_reckon 51 = .ok (.iload_n 3, 1) := by decide +kernel
theorem dX5_reckon_52 : decode cX5_reckon 52 = .ok (.invokevirtual 41, 3) := by decide +kernel
theorem dX5_reckon_55 : decode cX5_reckon 55 = .ok (.astore 5, 2) := by decide +kernel
theorem dX5_reckon_57 : decode cX5_reckon 57 = .ok (.aload_n 0, 1) := by decide +kernel
theorem dX5_reckon_58 : decode cX5_reckon 58 = .ok (.getfield 12, 3) := by decide +kernel
theorem dX5_reckon_61 : decode cX5_reckon 61 = .ok (.iload 4, 2) := by decide +kernel
theorem dX5_reckon_63 : decode cX5_reckon 63 = .ok (.invokevirtual 41, 3) := by decide +kernel
theorem dX5_reckon_66 : decode cX5_reckon 66 = .ok (.astore 6, 2) := by decide +kernel
theorem dX5_reckon_68 : decode cX5_reckon 68 = .ok (.iload_n 1, 1) := by decide +kernel
theorem dX5_reckon_69 : decode cX5_reckon 69 = .ok (.tableswitch 80 0 2 #[27, 44, 64], 27) := by decide +kernel
theorem dX5_reckon_96 : decode cX5_reckon 96 = .ok (.aload_n 0, 1) := by decide +kernel
theorem dX5_reckon_97 : decode cX5_reckon 97 = .ok (.getfield 12, 3) := by decide +kernel
theorem dX5_reckon_100 : decode cX5_reckon 100 = .ok (.iload_n 2, 1) := by decide +kernel
theorem dX5_reckon_101 : decode cX5_reckon 101 = .ok (.iload_n 2, 1) := by decide +kernel
theorem dX5_reckon_102 : decode cX5_reckon 102 = .ok (.aload 5, 2) := by decide +kernel
theorem dX5_reckon_104 : decode cX5_reckon 104 = .ok (.aload 6, 2) := by decide +kernel
theorem dX5_reckon_106 : decode cX5_reckon 106 = .ok (.invokestatic 45, 3) := by decide +kernel
theorem dX5_reckon_109 : decode cX5_reckon 109 = .ok (.invokevirtual 51, 3) := by decide +kernel
theorem dX5_reckon_112 : decode cX5_reckon 112 = .ok (.ireturn, 1) := by decide +kernel
theorem dX5_reckon_113 : decode cX5_reckon 113 = .ok (.aload_n 0, 1) := by decide +kernel
theorem dX5_reckon_114 : decode cX5_reckon 114 = .ok (.getfield 12, 3) := by decide +kernel
theorem dX5_reckon_117 : decode cX5_reckon 117 = .ok (.iload_n 2, 1) := by decide +kernel
theorem dX5_reckon_118 : decode cX5_reckon 118 = .ok (.iload_n 2, 1) := by decide +kernel
theorem dX5_reckon_119 : decode cX5_reckon 119 = .ok (.aload 5, 2) := by decide +kernel
theorem dX5_reckon_121 : decode cX5_reckon 121 = .ok (.aload 6, 2) := by decide +kernel
theorem dX5_reckon_123 : decode cX5_reckon 123 = .ok (.invokevirtual 55, 3) := by decide +kernel
theorem dX5_reckon_126 : decode cX5_reckon 126 = .ok (.invokestatic 45, 3) := by decide +kernel
theorem dX5_reckon_129 : decode cX5_reckon 129 = .ok (.invokevirtual 51, 3) := by decide +kernel
theorem dX5_reckon_132 : decode cX5_reckon 132 = .ok (.ireturn, 1) := by decide +kernel
theorem dX5_reckon_133 : decode cX5_reckon 133 = .ok (.aload_n 0, 1) := by decide +kernel
theorem dX5_reckon_134 : decode cX5_reckon 134 = .ok (.getfield 12, 3) := by decide +kernel
theorem dX5_reckon_137 : decode cX5_reckon 137 = .ok (.iload_n 2, 1) := by decide +kernel
theorem dX5_reckon_138 : decode cX5_reckon 138 = .ok (.aload 5, 2) := by decide +kernel
theorem dX5_reckon_140 : decode cX5_reckon 140 = .ok (.aload 6, 2) := by decide +kernel
theorem dX5_reckon_142 : decode cX5_reckon 142 = .ok (.invokestatic 61, 3) := by decide +kernel
theorem dX5_reckon_145 : decode cX5_reckon 145 = .ok (.invokevirtual 51, 3) := by decide +kernel
theorem dX5_reckon_148 : decode cX5_reckon 148 = .ok (.ireturn, 1) := by decide +kernel
theorem dX5_reckon_149 : decode cX5_reckon 149 = .ok (.aload_n 0, 1) := by decide +kernel
theorem dX5_reckon_150 : decode cX5_reckon 150 = .ok (.getfield 12, 3) := by decide +kernel
theorem dX5_reckon_153 : decode cX5_reckon 153 = .ok (.iload_n 2, 1) := by decide +kernel
theorem dX5_reckon_154 : decode cX5_reckon 154 = .ok (.aload 5, 2) := by decide +kernel
theorem dX5_reckon_156 : decode cX5_reckon 156 = .ok (.aload 6, 2) := by decide +kernel
theorem dX5_reckon_158 : decode cX5_reckon 158 = .ok (.invokestatic 65, 3) := by decide +kernel
theorem dX5_reckon_161 : decode cX5_reckon 161 = .ok (.invokevirtual 51, 3) := by decide +kernel
theorem dX5_reckon_164 : decode cX5_reckon 164 = .ok (.ireturn, 1) := by decide +kernel
theorem dX5_isMode_0 : decode cX5_isMode 0 = .ok (.iload_n 0, 1) := by decide +kernel
theorem dX5_isMode_1 : decode cX5_isMode 1 = .ok (.iconst 0, 1) := by decide +kernel
theorem dX5_isMode_2 : decode cX5_isMode 2 = .ok (.iconst 4, 1) := by decide +kernel
theorem dX5_isMode_3 : decode cX5_isMode 3 = .ok (.invokestatic 30, 3) := by decide +kernel
theorem dX5_isMode_6 : decode cX5_isMode 6 = .ok (.ireturn, 1) := by decide +kernel
theorem dX0_holds_0 : decode cX0_holds 0 = .ok (.iload_n 1, 1) := by decide +kernel
theorem dX0_holds_1 : decode cX0_holds 1 = .ok (.iconst 0, 1) := by decide +kernel
theorem dX0_holds_2 : decode cX0_holds 2 = .ok (.iconst 1, 1) := by decide +kernel
theorem dX0_holds_3 : decode cX0_holds 3 = .ok (.aload_n 0, 1) := by decide +kernel
theorem dX0_holds_4 : decode cX0_holds 4 = .ok (.getfield 7, 3) := by decide +kernel
theorem dX0_holds_7 : decode cX0_holds 7 = .ok (.ishl, 1) := by decide +kernel
theorem dX0_holds_8 : decode cX0_holds 8 = .ok (.iconst 1, 1) := by decide +kernel
theorem dX0_holds_9 : decode cX0_holds 9 = .ok (.isub, 1) := by decide +kernel
theorem dX0_holds_10 : decode cX0_holds 10 = .ok (.invokestatic 28, 3) := by decide +kernel
theorem dX0_holds_13 : decode cX0_holds 13 = .ok (.ireturn, 1) := by decide +kernel
theorem dX0_unpack_0 : decode cX0_unpack 0 = .ok (.aload_n 0, 1) := by decide +kernel
theorem dX0_unpack_1 : decode cX0_unpack 1 = .ok (.iload_n 1, 1) := by decide +kernel
theorem dX0_unpack_2 : decode cX0_unpack 2 = .ok (.invokevirtual 51, 3) := by decide +kernel
theorem dX0_unpack_5 : decode cX0_unpack 5 = .ok (.lstore_n 2, 1) := by decide +kernel
theorem dX0_unpack_6 : decode cX0_unpack 6 = .ok (.aload_n 0, 1) := by decide +kernel
theorem dX0_unpack_7 : decode cX0_unpack 7 = .ok (.iload_n 1, 1) := by decide +kernel
theorem dX0_unpack_8 : decode cX0_unpack 8 = .ok (.invokevirtual 54, 3) := by decide +kernel
theorem dX0_unpack_11 : decode cX0_unpack 11 = .ok (.ifCond .eq 7, 3) := by decide +kernel
theorem dX0_unpack_14 : decode cX0_unpack 14 = .ok (.invokestatic 58, 3) := by decide +kernel
theorem dX0_unpack_17 : decode cX0_unpack 17 = .ok (.areturn, 1) := by decide +kernel
theorem dX0_unpack_18 : decode cX0_unpack 18 = .ok (.aload_n 0, 1) := by decide +kernel
theorem dX0_unpack_19 : decode cX0_unpack 19 = .ok (.iload_n 1, 1) := by decide +kernel
theorem dX0_unpack_20 : decode cX0_unpack 20 = .ok (.invokevirtual 34, 3) := by decide +kernel
theorem dX0_unpack_23 : decode cX0_unpack 23 = .ok (.aload_n 0, 1) := by decide +kernel
theorem dX0_unpack_24 : decode cX0_unpack 24 = .ok (.getfield 19, 3) := by decide +kernel
theorem dX0_unpack_27 : decode cX0_unpack 27 = .ok (.i2l, 1) := by decide +kernel
theorem dX0_unpack_28 : decode cX0_unpack 28 = .ok (.lxor, 1) := by decide +kernel
theorem dX0_unpack_29 : decode cX0_unpack 29 = .ok (.invokestatic 44, 3) := by decide +kernel
theorem dX0_unpack_32 : decode cX0_unpack 32 = .ok (.lconst 0, 1) := by decide +kernel
theorem dX0_unpack_33 : decode cX0_unpack 33 = .ok (.lcmp, 1) := by decide +kernel
theorem dX0_unpack_34 : decode cX0_unpack 34 = .ok (.ifCond .ne 8, 3) := by decide +kernel
theorem dX0_unpack_37 : decode cX0_unpack 37 = .ok (.lload_n 2, 1) := by decide +kernel
theorem dX0_unpack_38 : decode cX0_unpack 38 = .ok (.invokestatic 64, 3) := by decide +kernel
theorem dX0_unpack_41 : decode cX0_unpack 41 = .ok (.areturn, 1) := by decide +kernel
theorem dX0_unpack_42 : decode cX0_unpack 42 = .ok (.aload_n 0, 1) := by decide +kernel
theorem dX0_unpack_43 : decode cX0_unpack 43 = .ok (.iload_n 1, 1) := by decide +kernel
theorem dX0_unpack_44 : decode cX0_unpack 44 = .ok (.invokevirtual 34, 3) := by decide +kernel
theorem dX0_unpack_47 : decode cX0_unpack 47 = .ok (.aload_n 0, 1) := by decide +kernel
theorem dX0_unpack_48 : decode cX0_unpack 48 = .ok (.getfield 13, 3) := by decide +kernel
theorem dX0_unpack_51 : decode cX0_unpack 51 = .ok (.lushr, 1) := by decide +kernel
theorem dX0_unpack_52 : decode cX0_unpack 52 = .ok (.lstore 4, 2) := by decide +kernel
theorem dX0_unpack_54 : decode cX0_unpack 54 = .ok (.lload 4, 2) := by decide +kernel
theorem dX0_unpack_56 : decode cX0_unpack 56 = .ok (.invokestatic 44, 3) := by decide +kernel
theorem dX0_unpack_59 : decode cX0_unpack 59 = .ok (.lstore 6, 2) := by decide +kernel
theorem dX0_unpack_61 : decode cX0_unpack 61 = .ok (.iload_n 1, 1) := by decide +kernel
theorem dX0_unpack_62 : decode cX0_unpack 62 = .ok (.i2l, 1) := by decide +kernel
theorem dX0_unpack_63 : decode cX0_unpack 63 = .ok (.aload_n 0, 1) := by decide +kernel
theorem dX0_unpack_64 : decode cX0_unpack 64 = .ok (.getfield 13, 3) := by decide +kernel
theorem dX0_unpack_67 : decode cX0_unpack 67 = .ok (.invokestatic 67, 3) := by decide +kernel
theorem dX0_unpack_70 : decode cX0_unpack 70 = .ok (.land, 1) := by decide +kernel
theorem dX0_unpack_71 : decode cX0_unpack 71 = .ok (.lstore 8, 2) := by decide +kernel
theorem dX0_unpack_73 : decode cX0_unpack 73 = .ok (.lload 4, 2) := by decide +kernel
theorem dX0_unpack_75 : decode cX0_unpack 75 = .ok (.lload 6, 2) := by decide +kernel
theorem dX0_unpack_77 : decode cX0_unpack 77 = .ok (.invokestatic 70, 3) := by decide +kernel
theorem dX0_unpack_80 : decode cX0_unpack 80 = .ok (.lstore 10, 2) := by decide +kernel
theorem dX0_unpack_82 : decode cX0_unpack 82 = .ok (.lload_n 2, 1) := by decide +kernel
theorem dX0_unpack_83 : decode cX0_unpack 83 = .ok (.aload_n 0, 1) := by decide +kernel
theorem dX0_unpack_84 : decode cX0_unpack 84 = .ok (.getfield 25, 3) := by decide +kernel
theorem dX0_unpack_87 : decode cX0_unpack 87 = .ok (.i2l, 1) := by decide +kernel
theorem dX0_unpack_88 : decode cX0_unpack 88 = .ok (.lload 10, 2) := by decide +kernel
theorem dX0_unpack_90 : decode cX0_unpack 90 = .ok (.invokestatic 73, 3) := by decide +kernel
theorem dX0_unpack_93 : decode cX0_unpack 93 = .ok (.lload 8, 2) := by decide +kernel
theorem dX0_unpack_95 : decode cX0_unpack 95 = .ok (.lload 6, 2) := by decide +kernel
theorem dX0_unpack_97 : decode cX0_unpack 97 = .ok (.aload_n 0, 1) := by decide +kernel
theorem dX0_unpack_98 : decode cX0_unpack 98 = .ok (.getfield 13, 3) := by decide +kernel
theorem dX0_unpack_101 : decode cX0_unpack 101 = .ok (.lshl, 1) := by decide +kernel
theorem dX0_unpack_102 : decode cX0_unpack 102 = .ok (.lor, 1) := by decide +kernel
theorem dX0_unpack_103 : decode cX0_unpack 103 = .ok (.invokestatic 76, 3) := by decide +kernel
theorem dX0_unpack_106 : decode cX0_unpack 106 = .ok (.areturn, 1) := by decide +kernel
theorem dX0_signOf_0 : decode cX0_signOf 0 = .ok (.iload_n 1, 1) := by decide +kernel
theorem dX0_signOf_1 : decode cX0_signOf 1 = .ok (.aload_n 0, 1) := by decide +kernel
theorem dX0_signOf_2 : decode cX0_signOf 2 = .ok (.getfield 7, 3) := by decide +kernel
theorem dX0_signOf_5 : decode cX0_signOf 5 = .ok (.iconst 1, 1) := by decide +kernel
theorem dX0_signOf_6 : decode cX0_signOf 6 = .ok (.isub, 1) := by decide +kernel
theorem dX0_signOf_7 : decode cX0_signOf 7 = .ok (.iushr, 1) := by decide +kernel
theorem dX0_signOf_8 : decode cX0_signOf 8 = .ok (.iconst 1, 1) := by decide +kernel
theorem dX0_signOf_9 : decode cX0_signOf 9 = .ok (.iand, 1) := by decide +kernel
theorem dX0_signOf_10 : decode cX0_signOf 10 = .ok (.i2l, 1) := by decide +kernel
theorem dX0_signOf_11 : decode cX0_signOf 11 = .ok (.lreturn, 1) := by decide +kernel
theorem dX0_isNan_0 : decode cX0_isNan 0 = .ok (.aload_n 0, 1) := by decide +kernel
theorem dX0_isNan_1 : decode cX0_isNan 1 = .ok (.getfield 19, 3) := by decide +kernel
theorem dX0_isNan_4 : decode cX0_isNan 4 = .ok (.i2l, 1) := by decide +kernel
theorem dX0_isNan_5 : decode cX0_isNan 5 = .ok (.aload_n 0, 1) := by decide +kernel
theorem dX0_isNan_6 : decode cX0_isNan 6 = .ok (.iload_n 1, 1) := by decide +kernel
theorem dX0_isNan_7 : decode cX0_isNan 7 = .ok (.invokevirtual 34, 3) := by decide +kernel
theorem dX0_isNan_10 : decode cX0_isNan 10 = .ok (.invokestatic 38, 3) := by decide +kernel
theorem dX0_isNan_13 : decode cX0_isNan 13 = .ok (.lconst 1, 1) := by decide +kernel
theorem dX0_isNan_14 : decode cX0_isNan 14 = .ok (.lcmp, 1) := by decide +kernel
theorem dX0_isNan_15 : decode cX0_isNan 15 = .ok (.ifCond .ne 7, 3) := by decide +kernel
theorem dX0_isNan_18 : decode cX0_isNan 18 = .ok (.iconst 1, 1) := by decide +kernel
theorem dX0_isNan_19 : decode cX0_isNan 19 = .ok (.goto 4, 3) := by decide +kernel
theorem dX0_isNan_22 : decode cX0_isNan 22 = .ok (.iconst 0, 1) := by decide +kernel
theorem dX0_isNan_23 : decode cX0_isNan 23 = .ok (.ireturn, 1) := by decide +kernel
theorem dX0_unsigned_0 : decode cX0_unsigned 0 = .ok (.iload_n 1, 1) := by decide +kernel
theorem dX0_unsigned_1 : decode cX0_unsigned 1 = .ok (.aload_n 0, 1) := by decide +kernel
theorem dX0_unsigned_2 : decode cX0_unsigned 2 = .ok (.getfield 16, 3) := by decide +kernel
theorem dX0_unsigned_5 : decode cX0_unsigned 5 = .ok (.iconst 1, 1) := by decide +kernel
theorem dX0_unsigned_6 : decode cX0_unsigned 6 = .ok (.isub, 1) := by decide +kernel
theorem dX0_unsigned_7 : decode cX0_unsigned 7 = .ok (.iand, 1) := by decide +kernel
theorem dX0_unsigned_8 : decode cX0_unsigned 8 = .ok (.i2l, 1) := by decide +kernel
theorem dX0_unsigned_9 : decode cX0_unsigned 9 = .ok (.lreturn, 1) := by decide +kernel
theorem dX1_below_0 : decode cX1_below 0 = .ok (.lload_n 0, 1) := by decide +kernel
theorem dX1_below_1 : decode cX1_below 1 = .ok (.lload_n 2, 1) := by decide +kernel
theorem dX1_below_2 : decode cX1_below 2 = .ok (.invokestatic 19, 3) := by decide +kernel
theorem dX1_below_5 : decode cX1_below 5 = .ok (.invokestatic 23, 3) := by decide +kernel
theorem dX1_below_8 : decode cX1_below 8 = .ok (.lreturn, 1) := by decide +kernel
theorem dX1_difference_0 : decode cX1_difference 0 = .ok (.lload_n 0, 1) := by decide +kernel
theorem dX1_difference_1 : decode cX1_difference 1 = .ok (.lload_n 2, 1) := by decide +kernel
theorem dX1_difference_2 : decode cX1_difference 2 = .ok (.ldc2_w 7, 3) := by decide +kernel
theorem dX1_difference_5 : decode cX1_difference 5 = .ok (.lxor, 1) := by decide +kernel
theorem dX1_difference_6 : decode cX1_difference 6 = .ok (.lconst 1, 1) := by decide +kernel
theorem dX1_difference_7 : decode cX1_difference 7 = .ok (.invokestatic 15, 3) := by decide +kernel
theorem dX1_difference_10 : decode cX1_difference 10 = .ok (.lreturn, 1) := by decide +kernel
theorem dX1_add_0 : decode cX1_add 0 = .ok (.lload_n 0, 1) := by decide +kernel
theorem dX1_add_1 : decode cX1_add 1 = .ok (.lload_n 2, 1) := by decide +kernel
theorem dX1_add_2 : decode cX1_add 2 = .ok (.lxor, 1) := by decide +kernel
theorem dX1_add_3 : decode cX1_add 3 = .ok (.lstore 6, 2) := by decide +kernel
theorem dX1_add_5 : decode cX1_add 5 = .ok (.lload_n 0, 1) := by decide +kernel
theorem dX1_add_6 : decode cX1_add 6 = .ok (.lload_n 2, 1) := by decide +kernel
theorem dX1_add_7 : decode cX1_add 7 = .ok (.land, 1) := by decide +kernel
theorem dX1_add_8 : decode cX1_add 8 = .ok (.lload 6, 2) := by decide +kernel
theorem dX1_add_10 : decode cX1_add 10 = .ok (.lload 4, 2) := by decide +kernel
theorem dX1_add_12 : decode cX1_add 12 = .ok (.land, 1) := by decide +kernel
theorem dX1_add_13 : decode cX1_add 13 = .ok (.lor, 1) := by decide +kernel
theorem dX1_add_14 : decode cX1_add 14 = .ok (.lstore 8, 2) := by decide +kernel
theorem dX1_add_16 : decode cX1_add 16 = .ok (.lload 6, 2) := by decide +kernel
theorem dX1_add_18 : decode cX1_add 18 = .ok (.lstore 10, 2) := by decide +kernel
theorem dX1_add_20 : decode cX1_add 20 = .ok (.iconst 0, 1) := by decide +kernel
theorem dX1_add_21 : decode cX1_add 21 = .ok (.istore 12, 2) := by decide +kernel
theorem dX1_add_23 : decode cX1_add 23 = .ok (.iload 12, 2) := by decide +kernel
theorem dX1_add_25 : decode cX1_add 25 = .ok (.bipush 6, 2) := by decide +kernel
theorem dX1_add_27 : decode cX1_add 27 = .ok (.if_icmp .ge 36, 3) := by decide +kernel
theorem dX1_add_30 : decode cX1_add 30 = .ok (.lload 8, 2) := by decide +kernel
theorem dX1_add_32 : decode cX1_add 32 = .ok (.lload 10, 2) := by decide +kernel
theorem dX1_add_34 : decode cX1_add 34 = .ok (.lload 8, 2) := by decide +kernel
theorem dX1_add_36 : decode cX1_add 36 = .ok (.iconst 1, 1) := by decide +kernel
theorem dX1_add_37 : decode cX1_add 37 = .ok (.iload 12, 2) := by decide +kernel
theorem dX1_add_39 : decode cX1_add 39 = .ok (.ishl, 1) := by decide +kernel
theorem dX1_add_40 : decode cX1_add 40 = .ok (.lshl, 1) := by decide +kernel
theorem dX1_add_41 : decode cX1_add 41 = .ok (.land, 1) := by decide +kernel
theorem dX1_add_42 : decode cX1_add 42 = .ok (.lor, 1) := by decide +kernel
theorem dX1_add_43 : decode cX1_add 43 = .ok (.lstore 8, 2) := by decide +kernel
theorem dX1_add_45 : decode cX1_add 45 = .ok (.lload 10, 2) := by decide +kernel
theorem dX1_add_47 : decode cX1_add 47 = .ok (.lload 10, 2) := by decide +kernel
theorem dX1_add_49 : decode cX1_add 49 = .ok (.iconst 1, 1) := by decide +kernel
theorem dX1_add_50 : decode cX1_add 50 = .ok (.iload 12, 2) := by decide +kernel
theorem dX1_add_52 : decode cX1_add 52 = .ok (.ishl, 1) := by decide +kernel
theorem dX1_add_53 : decode cX1_add 53 = .ok (.lshl, 1) := by decide +kernel
theorem dX1_add_54 : decode cX1_add 54 = .ok (.land, 1) := by decide +kernel
theorem dX1_add_55 : decode cX1_add 55 = .ok (.lstore 10, 2) := by decide +kernel
theorem dX1_add_57 : decode cX1_add 57 = .ok (.iinc 12 1, 3) := by decide +kernel
theorem dX1_add_60 : decode cX1_add 60 = .ok (.goto (-37), 3) := by decide +kernel
theorem dX1_add_63 : decode cX1_add 63 = .ok (.lload 6, 2) := by decide +kernel
theorem dX1_add_65 : decode cX1_add 65 = .ok (.lload 8, 2) := by decide +kernel
theorem dX1_add_67 : decode cX1_add 67 = .ok (.iconst 1, 1) := by decide +kernel
theorem dX1_add_68 : decode cX1_add 68 = .ok (.lshl, 1) := by decide +kernel
theorem dX1_add_69 : decode cX1_add 69 = .ok (.lxor, 1) := by decide +kernel
theorem dX1_add_70 : decode cX1_add 70 = .ok (.lload 4, 2) := by decide +kernel
theorem dX1_add_72 : decode cX1_add 72 = .ok (.lxor, 1) := by decide +kernel
theorem dX1_add_73 : decode cX1_add 73 = .ok (.lreturn, 1) := by decide +kernel
theorem dX1_isNegative_0 : decode cX1_isNegative 0 = .ok (.lload_n 0, 1) := by decide +kernel
theorem dX1_isNegative_1 : decode cX1_isNegative 1 = .ok (.bipush 63, 2) := by decide +kernel
theorem dX1_isNegative_3 : decode cX1_isNegative 3 = .ok (.lushr, 1) := by decide +kernel
theorem dX1_isNegative_4 : decode cX1_isNegative 4 = .ok (.lreturn, 1) := by decide +kernel
theorem dX4_notANumber_0 : decode cX4_notANumber 0 = .ok (.new 8, 3) := by decide +kernel
theorem dX4_notANumber_3 : decode cX4_notANumber 3 = .ok (.dup, 1) := by decide +kernel
theorem dX4_notANumber_4 : decode cX4_notANumber 4 = .ok (.iconst 1, 1) := by decide +kernel
theorem dX4_notANumber_5 : decode cX4_notANumber 5 = .ok (.iconst 0, 1) := by decide +kernel
theorem dX4_notANumber_6 : decode cX4_notANumber 6 = .ok (.lconst 0, 1) := by decide +kernel
theorem dX4_notANumber_7 : decode cX4_notANumber 7 = .ok (.lconst 0, 1) := by decide +kernel
theorem dX4_notANumber_8 : decode cX4_notANumber 8 = .ok (.lconst 0, 1) := by decide +kernel
theorem dX4_notANumber_9 : decode cX4_notANumber 9 = .ok (.invokespecial 26, 3) := by decide +kernel
theorem dX4_notANumber_12 : decode cX4_notANumber 12 = .ok (.areturn, 1) := by decide +kernel
theorem dX4_init_0 : decode cX4_init 0 = .ok (.aload_n 0, 1) := by decide +kernel
theorem dX4_init_1 : decode cX4_init 1 = .ok (.invokespecial 1, 3) := by decide +kernel
theorem dX4_init_4 : decode cX4_init 4 = .ok (.aload_n 0, 1) := by decide +kernel
theorem dX4_init_5 : decode cX4_init 5 = .ok (.iload_n 1, 1) := by decide +kernel
theorem dX4_init_6 : decode cX4_init 6 = .ok (.putfield 7, 3) := by decide +kernel
theorem dX4_init_9 : decode cX4_init 9 = .ok (.aload_n 0, 1) := by decide +kernel
theorem dX4_init_10 : decode cX4_init 10 = .ok (.iload_n 2, 1) := by decide +kernel
theorem dX4_init_11 : decode cX4_init 11 = .ok (.putfield 13, 3) := by decide +kernel
theorem dX4_init_14 : decode cX4_init 14 = .ok (.aload_n 0, 1) := by decide +kernel
theorem dX4_init_15 : decode cX4_init 15 = .ok (.lload_n 3, 1) := by decide +kernel
theorem dX4_init_16 : decode cX4_init 16 = .ok (.putfield 16, 3) := by decide +kernel
theorem dX4_init_19 : decode cX4_init 19 = .ok (.aload_n 0, 1) := by decide +kernel
theorem dX4_init_20 : decode cX4_init 20 = .ok (.lload 5, 2) := by decide +kernel
theorem dX4_init_22 : decode cX4_init 22 = .ok (.putfield 20, 3) := by decide +kernel
theorem dX4_init_25 : decode cX4_init 25 = .ok (.aload_n 0, 1) := by decide +kernel
theorem dX4_init_26 : decode cX4_init 26 = .ok (.lload 7, 2) := by decide +kernel
theorem dX4_init_28 : decode cX4_init 28 = .ok (.putfield 23, 3) := by decide +kernel
theorem dX4_init_31 : decode cX4_init 31 = .ok (.return_, 1) := by decide +kernel
theorem dX1_any_0 : decode cX1_any 0 = .ok (.lload_n 0, 1) := by decide +kernel
theorem dX1_any_1 : decode cX1_any 1 = .ok (.lstore_n 2, 1) := by decide +kernel
theorem dX1_any_2 : decode cX1_any 2 = .ok (.iconst 0, 1) := by decide +kernel
theorem dX1_any_3 : decode cX1_any 3 = .ok (.istore 4, 2) := by decide +kernel
theorem dX1_any_5 : decode cX1_any 5 = .ok (.iload 4, 2) := by decide +kernel
theorem dX1_any_7 : decode cX1_any 7 = .ok (.bipush 6, 2) := by decide +kernel
theorem dX1_any_9 : decode cX1_any 9 = .ok (.if_icmp .ge 18, 3) := by decide +kernel
theorem dX1_any_12 : decode cX1_any 12 = .ok (.lload_n 2, 1) := by decide +kernel
theorem dX1_any_13 : decode cX1_any 13 = .ok (.lload_n 2, 1) := by decide +kernel
theorem dX1_any_14 : decode cX1_any 14 = .ok (.iconst 1, 1) := by decide +kernel
theorem dX1_any_15 : decode cX1_any 15 = .ok (.iload 4, 2) := by decide +kernel
theorem dX1_any_17 : decode cX1_any 17 = .ok (.ishl, 1) := by decide +kernel
theorem dX1_any_18 : decode cX1_any 18 = .ok (.lushr, 1) := by decide +kernel
theorem dX1_any_19 : decode cX1_any 19 = .ok (.lor, 1) := by decide +kernel
theorem dX1_any_20 : decode cX1_any 20 = .ok (.lstore_n 2, 1) := by decide +kernel
theorem dX1_any_21 : decode cX1_any 21 = .ok (.iinc 4 1, 3) := by decide +kernel
theorem dX1_any_24 : decode cX1_any 24 = .ok (.goto (-19), 3) := by decide +kernel
theorem dX1_any_27 : decode cX1_any 27 = .ok (.lload_n 2, 1) := by decide +kernel
theorem dX1_any_28 : decode cX1_any 28 = .ok (.lconst 1, 1) := by decide +kernel
theorem dX1_any_29 : decode cX1_any 29 = .ok (.land, 1) := by decide +kernel
theorem dX1_any_30 : decode cX1_any 30 = .ok (.lreturn, 1) := by decide +kernel
theorem dX4_infinity_0 : decode cX4_infinity 0 = .ok (.new 8, 3) := by decide +kernel
theorem dX4_infinity_3 : decode cX4_infinity 3 = .ok (.dup, 1) := by decide +kernel
theorem dX4_infinity_4 : decode cX4_infinity 4 = .ok (.iconst 0, 1) := by decide +kernel
theorem dX4_infinity_5 : decode cX4_infinity 5 = .ok (.iconst 1, 1) := by decide +kernel
theorem dX4_infinity_6 : decode cX4_infinity 6 = .ok (.lload_n 0, 1) := by decide +kernel
theorem dX4_infinity_7 : decode cX4_infinity 7 = .ok (.lconst 0, 1) := by decide +kernel
theorem dX4_infinity_8 : decode cX4_infinity 8 = .ok (.lconst 0, 1) := by decide +kernel
theorem dX4_infinity_9 : decode cX4_infinity 9 = .ok (.invokespecial 26, 3) := by decide +kernel
theorem dX4_infinity_12 : decode cX4_infinity 12 = .ok (.areturn, 1) := by decide +kernel
theorem dX1_ones_0 : decode cX1_ones 0 = .ok (.ldc2_w 7, 3) := by decide +kernel
theorem dX1_ones_3 : decode cX1_ones 3 = .ok (.iload_n 0, 1) := by decide +kernel
theorem dX1_ones_4 : decode cX1_ones 4 = .ok (.lshl, 1) := by decide +kernel
theorem dX1_ones_5 : decode cX1_ones 5 = .ok (.ldc2_w 7, 3) := by decide +kernel
theorem dX1_ones_8 : decode cX1_ones 8 = .ok (.lxor, 1) := by decide +kernel
theorem dX1_ones_9 : decode cX1_ones 9 = .ok (.lreturn, 1) := by decide +kernel
theorem dX1_sum_0 : decode cX1_sum 0 = .ok (.lload_n 0, 1) := by decide +kernel
theorem dX1_sum_1 : decode cX1_sum 1 = .ok (.lload_n 2, 1) := by decide +kernel
theorem dX1_sum_2 : decode cX1_sum 2 = .ok (.lconst 0, 1) := by decide +kernel
theorem dX1_sum_3 : decode cX1_sum 3 = .ok (.invokestatic 15, 3) := by decide +kernel
theorem dX1_sum_6 : decode cX1_sum 6 = .ok (.lreturn, 1) := by decide +kernel
