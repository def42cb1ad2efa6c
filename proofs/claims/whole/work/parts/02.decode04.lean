theorem dX5_toWhole_79 : decode cX5_toWhole 79 = .ok (.aload 5, 2) := by decide +kernel
theorem dX5_toWhole_81 : decode cX5_toWhole 81 = .ok (.getfield 107, 3) := by decide +kernel
theorem dX5_toWhole_84 : decode cX5_toWhole 84 = .ok (.aload 5, 2) := by decide +kernel
theorem dX5_toWhole_86 : decode cX5_toWhole 86 = .ok (.getfield 132, 3) := by decide +kernel
theorem dX5_toWhole_89 : decode cX5_toWhole 89 = .ok (.invokestatic 120, 3) := by decide +kernel
theorem dX5_toWhole_92 : decode cX5_toWhole 92 = .ok (.iload_n 3, 1) := by decide +kernel
theorem dX5_toWhole_93 : decode cX5_toWhole 93 = .ok (.invokestatic 111, 3) := by decide +kernel
theorem dX5_toWhole_96 : decode cX5_toWhole 96 = .ok (.land, 1) := by decide +kernel
theorem dX5_toWhole_97 : decode cX5_toWhole 97 = .ok (.l2i, 1) := by decide +kernel
theorem dX5_toWhole_98 : decode cX5_toWhole 98 = .ok (.ireturn, 1) := by decide +kernel
theorem dX5_isWithinBits_0 : decode cX5_isWithinBits 0 = .ok (.iload_n 2, 1) := by decide +kernel
theorem dX5_isWithinBits_1 : decode cX5_isWithinBits 1 = .ok (.ifCond .eq 9, 3) := by decide +kernel
theorem dX5_isWithinBits_4 : decode cX5_isWithinBits 4 = .ok (.iload_n 1, 1) := by decide +kernel
theorem dX5_isWithinBits_5 : decode cX5_isWithinBits 5 = .ok (.iconst 1, 1) := by decide +kernel
theorem dX5_isWithinBits_6 : decode cX5_isWithinBits 6 = .ok (.isub, 1) := by decide +kernel
theorem dX5_isWithinBits_7 : decode cX5_isWithinBits 7 = .ok (.goto 4, 3) := by decide +kernel
theorem dX5_isWithinBits_10 : decode cX5_isWithinBits 10 = .ok (.iload_n 1, 1) := by decide +kernel
theorem dX5_isWithinBits_11 : decode cX5_isWithinBits 11 = .ok (.invokestatic 111, 3) := by decide +kernel
theorem dX5_isWithinBits_14 : decode cX5_isWithinBits 14 = .ok (.lstore_n 3, 1) := by decide +kernel
theorem dX5_isWithinBits_15 : decode cX5_isWithinBits 15 = .ok (.aload_n 0, 1) := by decide +kernel
theorem dX5_isWithinBits_16 : decode cX5_isWithinBits 16 = .ok (.getfield 107, 3) := by decide +kernel
theorem dX5_isWithinBits_19 : decode cX5_isWithinBits 19 = .ok (.lconst 1, 1) := by decide +kernel
theorem dX5_isWithinBits_20 : decode cX5_isWithinBits 20 = .ok (.lcmp, 1) := by decide +kernel
theorem dX5_isWithinBits_21 : decode cX5_isWithinBits 21 = .ok (.ifCond .ne 17, 3) := by decide +kernel
theorem dX5_isWithinBits_24 : decode cX5_isWithinBits 24 = .ok (.iload_n 2, 1) := by decide +kernel
theorem dX5_isWithinBits_25 : decode cX5_isWithinBits 25 = .ok (.ifCond .eq 11, 3) := by decide +kernel
theorem dX5_isWithinBits_28 : decode cX5_isWithinBits 28 = .ok (.lconst 1, 1) := by decide +kernel
theorem dX5_isWithinBits_29 : decode cX5_isWithinBits 29 = .ok (.iload_n 1, 1) := by decide +kernel
theorem dX5_isWithinBits_30 : decode cX5_isWithinBits 30 = .ok (.iconst 1, 1) := by decide +kernel
theorem dX5_isWithinBits_31 : decode cX5_isWithinBits 31 = .ok (.isub, 1) := by decide +kernel
theorem dX5_isWithinBits_32 : decode cX5_isWithinBits 32 = .ok (.lshl, 1) := by decide +kernel
theorem dX5_isWithinBits_33 : decode cX5_isWithinBits 33 = .ok (.goto 4, 3) := by decide +kernel
theorem dX5_isWithinBits_36 : decode cX5_isWithinBits 36 = .ok (.lconst 0, 1) := by decide +kernel
theorem dX5_isWithinBits_37 : decode cX5_isWithinBits 37 = .ok (.lstore_n 3, 1) := by decide +kernel
theorem dX5_isWithinBits_38 : decode cX5_isWithinBits 38 = .ok (.lload_n 3, 1) := by decide +kernel
theorem dX5_isWithinBits_39 : decode cX5_isWithinBits 39 = .ok (.aload_n 0, 1) := by decide +kernel
theorem dX5_isWithinBits_40 : decode cX5_isWithinBits 40 = .ok (.getfield 132, 3) := by decide +kernel
theorem dX5_isWithinBits_43 : decode cX5_isWithinBits 43 = .ok (.invokestatic 135, 3) := by decide +kernel
theorem dX5_isWithinBits_46 : decode cX5_isWithinBits 46 = .ok (.lconst 0, 1) := by decide +kernel
theorem dX5_isWithinBits_47 : decode cX5_isWithinBits 47 = .ok (.lcmp, 1) := by decide +kernel
theorem dX5_isWithinBits_48 : decode cX5_isWithinBits 48 = .ok (.ifCond .ne 7, 3) := by decide +kernel
theorem dX5_isWithinBits_51 : decode cX5_isWithinBits 51 = .ok (.iconst 1, 1) := by decide +kernel
theorem dX5_isWithinBits_52 : decode cX5_isWithinBits 52 = .ok (.goto 4, 3) := by decide +kernel
theorem dX5_isWithinBits_55 : decode cX5_isWithinBits 55 = .ok (.iconst 0, 1) := by decide +kernel
theorem dX5_isWithinBits_56 : decode cX5_isWithinBits 56 = .ok (.ireturn, 1) := by decide +kernel
theorem dX6_init_0 : decode cX6_init 0 = .ok (.aload_n 0, 1) := by decide +kernel
theorem dX6_init_1 : decode cX6_init 1 = .ok (.invokespecial 1, 3) := by decide +kernel
theorem dX6_init_4 : decode cX6_init 4 = .ok (.aload_n 0, 1) := by decide +kernel
theorem dX6_init_5 : decode cX6_init 5 = .ok (.sipush 1511, 3) := by decide +kernel
theorem dX6_init_8 : decode cX6_init 8 = .ok (.putfield 7, 3) := by decide +kernel
theorem dX6_init_11 : decode cX6_init 11 = .ok (.return_, 1) := by decide +kernel
theorem dX6_thrown_0 : decode cX6_thrown 0 = .ok (.aload_n 0, 1) := by decide +kernel
theorem dX6_thrown_1 : decode cX6_thrown 1 = .ok (.getfield 13, 3) := by decide +kernel
theorem dX6_thrown_4 : decode cX6_thrown 4 = .ok (.ireturn, 1) := by decide +kernel
theorem dX6_format_0 : decode cX6_format 0 = .ok (.aload_n 0, 1) := by decide +kernel
theorem dX6_format_1 : decode cX6_format 1 = .ok (.iload_n 1, 1) := by decide +kernel
theorem dX6_format_2 : decode cX6_format 2 = .ok (.iload_n 2, 1) := by decide +kernel
theorem dX6_format_3 : decode cX6_format 3 = .ok (.invokestatic 34, 3) := by decide +kernel
theorem dX6_format_6 : decode cX6_format 6 = .ok (.invokevirtual 38, 3) := by decide +kernel
theorem dX6_format_9 : decode cX6_format 9 = .ok (.ifCond .ne 5, 3) := by decide +kernel
theorem dX6_format_12 : decode cX6_format 12 = .ok (.iconst 0, 1) := by decide +kernel
theorem dX6_format_13 : decode cX6_format 13 = .ok (.ireturn, 1) := by decide +kernel
theorem dX6_format_14 : decode cX6_format 14 = .ok (.aload_n 0, 1) := by decide +kernel
theorem dX6_format_15 : decode cX6_format 15 = .ok (.sipush 1000, 3) := by decide +kernel
theorem dX6_format_18 : decode cX6_format 18 = .ok (.bipush 100, 2) := by decide +kernel
theorem dX6_format_20 : decode cX6_format 20 = .ok (.iload_n 1, 1) := by decide +kernel
theorem dX6_format_21 : decode cX6_format 21 = .ok (.imul, 1) := by decide +kernel
theorem dX6_format_22 : decode cX6_format 22 = .ok (.iadd, 1) := by decide +kernel
theorem dX6_format_23 : decode cX6_format 23 = .ok (.iload_n 2, 1) := by decide +kernel
theorem dX6_format_24 : decode cX6_format 24 = .ok (.iadd, 1) := by decide +kernel
theorem dX6_format_25 : decode cX6_format 25 = .ok (.putfield 7, 3) := by decide +kernel
theorem dX6_format_28 : decode cX6_format 28 = .ok (.iload_n 1, 1) := by decide +kernel
theorem dX6_format_29 : decode cX6_format 29 = .ok (.iload_n 2, 1) := by decide +kernel
theorem dX6_format_30 : decode cX6_format 30 = .ok (.iadd, 1) := by decide +kernel
theorem dX6_format_31 : decode cX6_format 31 = .ok (.ireturn, 1) := by decide +kernel
theorem dX6_isFormat_0 : decode cX6_isFormat 0 = .ok (.iload_n 0, 1) := by decide +kernel
theorem dX6_isFormat_1 : decode cX6_isFormat 1 = .ok (.iconst 2, 1) := by decide +kernel
theorem dX6_isFormat_2 : decode cX6_isFormat 2 = .ok (.iconst 5, 1) := by decide +kernel
theorem dX6_isFormat_3 : decode cX6_isFormat 3 = .ok (.invokestatic 16, 3) := by decide +kernel
theorem dX6_isFormat_6 : decode cX6_isFormat 6 = .ok (.ifCond .eq 17, 3) := by decide +kernel
theorem dX6_isFormat_9 : decode cX6_isFormat 9 = .ok (.iload_n 1, 1) := by decide +kernel
theorem dX6_isFormat_10 : decode cX6_isFormat 10 = .ok (.iconst 2, 1) := by decide +kernel
theorem dX6_isFormat_11 : decode cX6_isFormat 11 = .ok (.bipush 11, 2) := by decide +kernel
theorem dX6_isFormat_13 : decode cX6_isFormat 13 = .ok (.invokestatic 16, 3) := by decide +kernel
theorem dX6_isFormat_16 : decode cX6_isFormat 16 = .ok (.ifCond .eq 7, 3) := by decide +kernel
theorem dX6_isFormat_19 : decode cX6_isFormat 19 = .ok (.iconst 1, 1) := by decide +kernel
theorem dX6_isFormat_20 : decode cX6_isFormat 20 = .ok (.goto 4, 3) := by decide +kernel
theorem dX6_isFormat_23 : decode cX6_isFormat 23 = .ok (.iconst 0, 1) := by decide +kernel
theorem dX6_isFormat_24 : decode cX6_isFormat 24 = .ok (.ireturn, 1) := by decide +kernel
theorem dX6_in_0 : decode cX6_in 0 = .ok (.iload_n 0, 1) := by decide +kernel
theorem dX6_in_1 : decode cX6_in 1 = .ok (.iload_n 1, 1) := by decide +kernel
theorem dX6_in_2 : decode cX6_in 2 = .ok (.if_icmp .lt 12, 3) := by decide +kernel
theorem dX6_in_5 : decode cX6_in 5 = .ok (.iload_n 0, 1) := by decide +kernel
theorem dX6_in_6 : decode cX6_in 6 = .ok (.iload_n 2, 1) := by decide +kernel
theorem dX6_in_7 : decode cX6_in 7 = .ok (.if_icmp .gt 7, 3) := by decide +kernel
theorem dX6_in_10 : decode cX6_in 10 = .ok (.iconst 1, 1) := by decide +kernel
theorem dX6_in_11 : decode cX6_in 11 = .ok (.goto 4, 3) := by decide +kernel
theorem dX6_in_14 : decode cX6_in 14 = .ok (.iconst 0, 1) := by decide +kernel
theorem dX6_in_15 : decode cX6_in 15 = .ok (.ireturn, 1) := by decide +kernel
theorem dX6_good_0 : decode cX6_good 0 = .ok (.aload_n 0, 1) := by decide +kernel
theorem dX6_good_1 : decode cX6_good 1 = .ok (.iload_n 1, 1) := by decide +kernel
theorem dX6_good_2 : decode cX6_good 2 = .ok (.ifCond .eq 7, 3) := by decide +kernel
theorem dX6_good_5 : decode cX6_good 5 = .ok (.iconst 0, 1) := by decide +kernel
theorem dX6_good_6 : decode cX6_good 6 = .ok (.goto 4, 3) := by decide +kernel
theorem dX6_good_9 : decode cX6_good 9 = .ok (.iconst 1, 1) := by decide +kernel
theorem dX6_good_10 : decode cX6_good 10 = .ok (.putfield 13, 3) := by decide +kernel
theorem dX6_good_13 : decode cX6_good 13 = .ok (.iload_n 1, 1) := by decide +kernel
theorem dX6_good_14 : decode cX6_good 14 = .ok (.ireturn, 1) := by decide +kernel
theorem dX6_reckon_0 : decode cX6_reckon 0 = .ok (.aload_n 0, 1) := by decide +kernel
theorem dX6_reckon_1 : decode cX6_reckon 1 = .ok (.iload_n 1, 1) := by decide +kernel
theorem dX6_reckon_2 : decode cX6_reckon 2 = .ok (.iconst 0, 1) := by decide +kernel
theorem dX6_reckon_3 : decode cX6_reckon 3 = .ok (.iconst 3, 1) := by decide +kernel
theorem dX6_reckon_4 : decode cX6_reckon 4 = .ok (.invokestatic 16, 3) := by decide +kernel
theorem dX6_reckon_7 : decode cX6_reckon 7 = .ok (.ifCond .eq 41, 3) := by decide +kernel
theorem dX6_reckon_10 : decode cX6_reckon 10 = .ok (.iload_n 2, 1) := by decide +kernel
theorem dX6_reckon_11 : decode cX6_reckon 11 = .ok (.iconst 0, 1) := by decide +kernel
theorem dX6_reckon_12 : decode cX6_reckon 12 = .ok (.iconst 4, 1) := by decide +kernel
theorem dX6_reckon_13 : decode cX6_reckon 13 = .ok (.invokestatic 16, 3) := by decide +kernel
theorem dX6_reckon_16 : decode cX6_reckon 16 = .ok (.ifCond .eq 32, 3) := by decide +kernel
theorem dX6_reckon_19 : decode cX6_reckon 19 = .ok (.aload_n 0, 1) := by decide +kernel
theorem dX6_reckon_20 : decode cX6_reckon 20 = .ok (.iload_n 3, 1) := by decide +kernel
theorem dX6_reckon_21 : decode cX6_reckon 21 = .ok (.aload_n 0, 1) := by decide +kernel
theorem dX6_reckon_22 : decode cX6_reckon 22 = .ok (.getfield 7, 3) := by decide +kernel
theorem dX6_reckon_25 : decode cX6_reckon 25 = .ok (.invokevirtual 42, 3) := by decide +kernel
theorem dX6_reckon_28 : decode cX6_reckon 28 = .ok (.ifCond .eq 20, 3) := by decide +kernel
theorem dX6_reckon_31 : decode cX6_reckon 31 = .ok (.aload_n 0, 1) := by decide +kernel
theorem dX6_reckon_32 : decode cX6_reckon 32 = .ok (.iload 4, 2) := by decide +kernel
theorem dX6_reckon_34 : decode cX6_reckon 34 = .ok (.aload_n 0, 1) := by decide +kernel
theorem dX6_reckon_35 : decode cX6_reckon 35 = .ok (.getfield 7, 3) := by decide +kernel
theorem dX6_reckon_38 : decode cX6_reckon 38 = .ok (.invokevirtual 42, 3) := by decide +kernel
theorem dX6_reckon_41 : decode cX6_reckon 41 = .ok (.ifCond .eq 7, 3) := by decide +kernel
theorem dX6_reckon_44 : decode cX6_reckon 44 = .ok (.iconst 1, 1) := by decide +kernel
theorem dX6_reckon_45 : decode cX6_reckon 45 = .ok (.goto 4, 3) := by decide +kernel
theorem dX6_reckon_48 : decode cX6_reckon 48 = .ok (.iconst 0, 1) := by decide +kernel
theorem dX6_reckon_49 : decode cX6_reckon 49 = .ok (.invokevirtual 38, 3) := by decide +kernel
theorem dX6_reckon_52 : decode cX6_reckon 52 = .ok (.ifCond .ne 5, 3) := by decide +kernel
theorem dX6_reckon_55 : decode cX6_reckon 55 = .ok (.iconst 0, 1) := by decide +kernel
theorem dX6_reckon_56 : decode cX6_reckon 56 = .ok (.ireturn, 1) := by decide +kernel
theorem dX6_reckon_57 : decode cX6_reckon 57 = .ok (.aload_n 0, 1) := by decide +kernel
theorem dX6_reckon_58 : decode cX6_reckon 58 = .ok (.bipush 46, 2) := by decide +kernel
theorem dX6_reckon_60 : decode cX6_reckon 60 = .ok (.iload_n 1, 1) := by decide +kernel
theorem dX6_reckon_61 : decode cX6_reckon 61 = .ok (.iadd, 1) := by decide +kernel
theorem dX6_reckon_62 : decode cX6_reckon 62 = .ok (.iload_n 2, 1) := by decide +kernel
theorem dX6_reckon_63 : decode cX6_reckon 63 = .ok (.iload_n 3, 1) := by decide +kernel
theorem dX6_reckon_64 : decode cX6_reckon 64 = .ok (.i2l, 1) := by decide +kernel
theorem dX6_reckon_65 : decode cX6_reckon 65 = .ok (.iload 4, 2) := by decide +kernel
theorem dX6_reckon_67 : decode cX6_reckon 67 = .ok (.i2l, 1) := by decide +kernel
theorem dX6_reckon_68 : decode cX6_reckon 68 = .ok (.aload_n 0, 1) := by decide +kernel
theorem dX6_reckon_69 : decode cX6_reckon 69 = .ok (.getfield 7, 3) := by decide +kernel
theorem dX6_reckon_72 : decode cX6_reckon 72 = .ok (.invokevirtual 45, 3) := by decide +kernel
theorem dX6_reckon_75 : decode cX6_reckon 75 = .ok (.l2i, 1) := by decide +kernel
theorem dX6_reckon_76 : decode cX6_reckon 76 = .ok (.ireturn, 1) := by decide +kernel
theorem dX6_isFloat_0 : decode cX6_isFloat 0 = .ok (.iload_n 1, 1) := by decide +kernel
theorem dX6_isFloat_1 : decode cX6_isFloat 1 = .ok (.ifCond .lt 20, 3) := by decide +kernel
theorem dX6_isFloat_4 : decode cX6_isFloat 4 = .ok (.iload_n 1, 1) := by decide +kernel
theorem dX6_isFloat_5 : decode cX6_isFloat 5 = .ok (.i2l, 1) := by decide +kernel
theorem dX6_isFloat_6 : decode cX6_isFloat 6 = .ok (.iload_n 2, 1) := by decide +kernel
theorem dX6_isFloat_7 : decode cX6_isFloat 7 = .ok (.invokestatic 31, 3) := by decide +kernel
theorem dX6_isFloat_10 : decode cX6_isFloat 10 = .ok (.invokestatic 27, 3) := by decide +kernel
theorem dX6_isFloat_13 : decode cX6_isFloat 13 = .ok (.lcmp, 1) := by decide +kernel
theorem dX6_isFloat_14 : decode cX6_isFloat 14 = .ok (.ifCond .gt 7, 3) := by decide +kernel
theorem dX6_isFloat_17 : decode cX6_isFloat 17 = .ok (.iconst 1, 1) := by decide +kernel
theorem dX6_isFloat_18 : decode cX6_isFloat 18 = .ok (.goto 4, 3) := by decide +kernel
theorem dX6_isFloat_21 : decode cX6_isFloat 21 = .ok (.iconst 0, 1) := by decide +kernel
theorem dX6_isFloat_22 : decode cX6_isFloat 22 = .ok (.ireturn, 1) := by decide +kernel
theorem dX6_width_0 : decode cX6_width 0 = .ok (.iload_n 0, 1) := by decide +kernel
theorem dX6_width_1 : decode cX6_width 1 = .ok (.invokestatic 20, 3) := by decide +kernel
theorem dX6_width_4 : decode cX6_width 4 = .ok (.iload_n 0, 1) := by decide +kernel
theorem dX6_width_5 : decode cX6_width 5 = .ok (.invokestatic 24, 3) := by decide +kernel
theorem dX6_width_8 : decode cX6_width 8 = .ok (.iadd, 1) := by decide +kernel
theorem dX6_width_9 : decode cX6_width 9 = .ok (.ireturn, 1) := by decide +kernel
theorem dX6_exponent_0 : decode cX6_exponent 0 = .ok (.iload_n 0, 1) := by decide +kernel
theorem dX6_exponent_1 : decode cX6_exponent 1 = .ok (.sipush 1000, 3) := by decide +kernel
theorem dX6_exponent_4 : decode cX6_exponent 4 = .ok (.isub, 1) := by decide +kernel
theorem dX6_exponent_5 : decode cX6_exponent 5 = .ok (.bipush 100, 2) := by decide +kernel
theorem dX6_exponent_7 : decode cX6_exponent 7 = .ok (.idiv, 1) := by decide +kernel
theorem dX6_exponent_8 : decode cX6_exponent 8 = .ok (.ireturn, 1) := by decide +kernel
theorem dX6_significand_0 : decode cX6_significand 0 = .ok (.iload_n 0, 1) := by decide +kernel
theorem dX6_significand_1 : decode cX6_significand 1 = .ok (.sipush 1000, 3) := by decide +kernel
theorem dX6_significand_4 : decode cX6_significand 4 = .ok (.isub, 1) := by decide +kernel
theorem dX6_significand_5 : decode cX6_significand 5 = .ok (.bipush 100, 2) := by decide +kernel
theorem dX6_significand_7 : decode cX6_significand 7 = .ok (.irem, 1) := by decide +kernel
theorem dX6_significand_8 : decode cX6_significand 8 = .ok (.ireturn, 1) := by decide +kernel
theorem dX6_mask_0 : decode cX6_mask 0 = .ok (.lconst 1, 1) := by decide +kernel
theorem dX6_mask_1 : decode cX6_mask 1 = .ok (.iload_n 0, 1) := by decide +kernel
theorem dX6_mask_2 : decode cX6_mask 2 = .ok (.lshl, 1) := by decide +kernel
theorem dX6_mask_3 : decode cX6_mask 3 = .ok (.lconst 1, 1) := by decide +kernel
theorem dX6_mask_4 : decode cX6_mask 4 = .ok (.lsub, 1) := by decide +kernel
theorem dX6_mask_5 : decode cX6_mask 5 = .ok (.lreturn, 1) := by decide +kernel
theorem dX6_arithmetic_0 : decode cX6_arithmetic 0 = .ok (.iload 7, 2) := by decide +kernel
theorem dX6_arithmetic_2 : decode cX6_arithmetic 2 = .ok (.invokestatic 20, 3) := by decide +kernel
theorem dX6_arithmetic_5 : decode cX6_arithmetic 5 = .ok (.iload 7, 2) := by decide +kernel
theorem dX6_arithmetic_7 : decode cX6_arithmetic 7 = .ok (.invokestatic 24, 3) := by decide +kernel
theorem dX6_arithmetic_10 : decode cX6_arithmetic 10 = .ok (.invokestatic 81, 3) := by decide +kernel
theorem dX6_arithmetic_13 : decode cX6_arithmetic 13 = .ok (.lstore 8, 2) := by decide +kernel
theorem dX6_arithmetic_15 : decode cX6_arithmetic 15 = .ok (.lconst 1, 1) := by decide +kernel
theorem dX6_arithmetic_16 : decode cX6_arithmetic 16 = .ok (.iload 7, 2) := by decide +kernel
theorem dX6_arithmetic_18 : decode cX6_arithmetic 18 = .ok (.invokestatic 31, 3) := by decide +kernel
theorem dX6_arithmetic_21 : decode cX6_arithmetic 21 = .ok (.iconst 1, 1) := by decide +kernel
theorem dX6_arithmetic_22 : decode cX6_arithmetic 22 = .ok (.isub, 1) := by decide +kernel
theorem dX6_arithmetic_23 : decode cX6_arithmetic 23 = .ok (.lshl, 1) := by decide +kernel
theorem dX6_arithmetic_24 : decode cX6_arithmetic 24 = .ok (.lstore 10, 2) := by decide +kernel
theorem dX6_arithmetic_26 : decode cX6_arithmetic 26 = .ok (.aload_n 0, 1) := by decide +kernel
theorem dX6_arithmetic_27 : decode cX6_arithmetic 27 = .ok (.lload_n 3, 1) := by decide +kernel
theorem dX6_arithmetic_28 : decode cX6_arithmetic 28 = .ok (.iload 7, 2) := by decide +kernel
theorem dX6_arithmetic_30 : decode cX6_arithmetic 30 = .ok (.invokevirtual 60, 3) := by decide +kernel
theorem dX6_arithmetic_33 : decode cX6_arithmetic 33 = .ok (.aload_n 0, 1) := by decide +kernel
theorem dX6_arithmetic_34 : decode cX6_arithmetic 34 = .ok (.getfield 64, 3) := by decide +kernel
theorem dX6_arithmetic_37 : decode cX6_arithmetic 37 = .ok (.istore 12, 2) := by decide +kernel
theorem dX6_arithmetic_39 : decode cX6_arithmetic 39 = .ok (.aload_n 0, 1) := by decide +kernel
theorem dX6_arithmetic_40 : decode cX6_arithmetic 40 = .ok (.getfield 85, 3) := by decide +kernel
theorem dX6_arithmetic_43 : decode cX6_arithmetic 43 = .ok (.istore 13, 2) := by decide +kernel
theorem dX6_arithmetic_45 : decode cX6_arithmetic 45 = .ok (.aload_n 0, 1) := by decide +kernel
theorem dX6_arithmetic_46 : decode cX6_arithmetic 46 = .ok (.getfield 88, 3) := by decide +kernel
theorem dX6_arithmetic_49 : decode cX6_arithmetic 49 = .ok (.istore 14, 2) := by decide +kernel
theorem dX6_arithmetic_51 : decode cX6_arithmetic 51 = .ok (.aload_n 0, 1) := by decide +kernel
theorem dX6_arithmetic_52 : decode cX6_arithmetic 52 = .ok (.getfield 91, 3) := by decide +kernel
theorem dX6_arithmetic_55 : decode cX6_arithmetic 55 = .ok (.lstore 15, 2) := by decide +kernel
theorem dX6_arithmetic_57 : decode cX6_arithmetic 57 = .ok (.aload_n 0, 1) := by decide +kernel
theorem dX6_arithmetic_58 : decode cX6_arithmetic 58 = .ok (.getfield 95, 3) := by decide +kernel
theorem dX6_arithmetic_61 : decode cX6_arithmetic 61 = .ok (.istore 17, 2) := by decide +kernel
theorem dX6_arithmetic_63 : decode cX6_arithmetic 63 = .ok (.aload_n 0, 1) := by decide +kernel
theorem dX6_arithmetic_64 : decode cX6_arithmetic 64 = .ok (.lload 5, 2) := by decide +kernel
theorem dX6_arithmetic_66 : decode cX6_arithmetic 66 = .ok (.iload 7, 2) := by decide +kernel
theorem dX6_arithmetic_68 : decode cX6_arithmetic 68 = .ok (.invokevirtual 60, 3) := by decide +kernel
theorem dX6_arithmetic_71 : decode cX6_arithmetic 71 = .ok (.iload 12, 2) := by decide +kernel
theorem dX6_arithmetic_73 : decode cX6_arithmetic 73 = .ok (.ifCond .ne 10, 3) := by decide +kernel
theorem dX6_arithmetic_76 : decode cX6_arithmetic 76 = .ok (.aload_n 0, 1) := by decide +kernel
theorem dX6_arithmetic_77 : decode cX6_arithmetic 77 = .ok (.getfield 64, 3) := by decide +kernel
theorem dX6_arithmetic_80 : decode cX6_arithmetic 80 = .ok (.ifCond .eq 6, 3) := by decide +kernel
theorem dX6_arithmetic_83 : decode cX6_arithmetic 83 = .ok (.lload 8, 2) := by decide +kernel
theorem dX6_arithmetic_85 : decode cX6_arithmetic 85 = .ok (.lreturn, 1) := by decide +kernel
theorem dX6_arithmetic_86 : decode cX6_arithmetic 86 = .ok (.iload_n 1, 1) := by decide +kernel
theorem dX6_arithmetic_87 : decode cX6_arithmetic 87 = .ok (.bipush 47, 2) := by decide +kernel
theorem dX6_arithmetic_89 : decode cX6_arithmetic 89 = .ok (.if_icmp .ne 18, 3) := by decide +kernel
theorem dX6_arithmetic_92 : decode cX6_arithmetic 92 = .ok (.aload_n 0, 1) := by decide +kernel
theorem dX6_arithmetic_93 : decode cX6_arithmetic 93 = .ok (.getfield 88, 3) := by decide +kernel
theorem dX6_arithmetic_96 : decode cX6_arithmetic 96 = .ok (.ifCond .ne 7, 3) := by decide +kernel
theorem dX6_arithmetic_99 : decode cX6_arithmetic 99 = .ok (.iconst 1, 1) := by decide +kernel
theorem dX6_arithmetic_100 : decode cX6_arithmetic 100 = .ok (.goto 11, 3) := by decide +kernel
theorem dX6_arithmetic_103 : decode cX6_arithmetic 103 = .ok (.iconst 0, 1) := by decide +kernel
theorem dX6_arithmetic_104 : decode cX6_arithmetic 104 = .ok (.goto 7, 3) := by decide +kernel
theorem dX6_arithmetic_107 : decode cX6_arithmetic 107 = .ok (.aload_n 0, 1) := by decide +kernel
theorem dX6_arithmetic_108 : decode cX6_arithmetic 108 = .ok (.getfield 88, 3) := by decide +kernel
theorem dX6_arithmetic_111 : decode cX6_arithmetic 111 = .ok (.istore 18, 2) := by decide +kernel
theorem dX6_arithmetic_113 : decode cX6_arithmetic 113 = .ok (.iload_n 1, 1) := by decide +kernel
theorem dX6_arithmetic_114 : decode cX6_arithmetic 114 = .ok (.bipush 48, 2) := by decide +kernel
theorem dX6_arithmetic_116 : decode cX6_arithmetic 116 = .ok (.if_icmp .ge 227, 3) := by decide +kernel
theorem dX6_arithmetic_119 : decode cX6_arithmetic 119 = .ok (.iload 13, 2) := by decide +kernel
theorem dX6_arithmetic_121 : decode cX6_arithmetic 121 = .ok (.ifCond .ne 10, 3) := by decide +kernel
theorem dX6_arithmetic_124 : decode cX6_arithmetic 124 = .ok (.aload_n 0, 1) := by decide +kernel
theorem dX6_arithmetic_125 : decode cX6_arithmetic 125 = .ok (.getfield 85, 3) := by decide +kernel
theorem dX6_arithmetic_128 : decode cX6_arithmetic 128 = .ok (.ifCond .eq 53, 3) := by decide +kernel
theorem dX6_arithmetic_131 : decode cX6_arithmetic 131 = .ok (.iload 13, 2) := by decide +kernel
theorem dX6_arithmetic_133 : decode cX6_arithmetic 133 = .ok (.ifCond .eq 22, 3) := by decide +kernel
theorem dX6_arithmetic_136 : decode cX6_arithmetic 136 = .ok (.aload_n 0, 1) := by decide +kernel
theorem dX6_arithmetic_137 : decode cX6_arithmetic 137 = .ok (.getfield 85, 3) := by decide +kernel
theorem dX6_arithmetic_140 : decode cX6_arithmetic 140 = .ok (.ifCond .eq 15, 3) := by decide +kernel
theorem dX6_arithmetic_143 : decode cX6_arithmetic 143 = .ok (.iload 14, 2) := by decide +kernel
theorem dX6_arithmetic_145 : decode cX6_arithmetic 145 = .ok (.iload 18, 2) := by decide +kernel
theorem dX6_arithmetic_147 : decode cX6_arithmetic 147 = .ok (.if_icmp .eq 8, 3) := by decide +kernel
theorem dX6_arithmetic_150 : decode cX6_arithmetic 150 = .ok (.lload 8, 2) := by decide +kernel
theorem dX6_arithmetic_152 : decode cX6_arithmetic 152 = .ok (.goto 28, 3) := by decide +kernel
theorem dX6_arithmetic_155 : decode cX6_arithmetic 155 = .ok (.iload 13, 2) := by decide +kernel
theorem dX6_arithmetic_157 : decode cX6_arithmetic 157 = .ok (.ifCond .eq 7, 3) := by decide +kernel
theorem dX6_arithmetic_160 : decode cX6_arithmetic 160 = .ok (.lload_n 3, 1) := by decide +kernel
theorem dX6_arithmetic_161 : decode cX6_arithmetic 161 = .ok (.goto 19, 3) := by decide +kernel
theorem dX6_arithmetic_164 : decode cX6_arithmetic 164 = .ok (.iload_n 1, 1) := by decide +kernel
theorem dX6_arithmetic_165 : decode cX6_arithmetic 165 = .ok (.bipush 47, 2) := by decide +kernel
theorem dX6_arithmetic_167 : decode cX6_arithmetic 167 = .ok (.if_icmp .ne 11, 3) := by decide +kernel
theorem dX6_arithmetic_170 : decode cX6_arithmetic 170 = .ok (.lload 5, 2) := by decide +kernel
theorem dX6_arithmetic_172 : decode cX6_arithmetic 172 = .ok (.lload 10, 2) := by decide +kernel
theorem dX6_arithmetic_174 : decode cX6_arithmetic 174 = .ok (.lxor, 1) := by decide +kernel
theorem dX6_arithmetic_175 : decode cX6_arithmetic 175 = .ok (.goto 5, 3) := by decide +kernel
theorem dX6_arithmetic_178 : decode cX6_arithmetic 178 = .ok (.lload 5, 2) := by decide +kernel
theorem dX6_arithmetic_180 : decode cX6_arithmetic 180 = .ok (.lreturn, 1) := by decide +kernel
theorem dX6_arithmetic_181 : decode cX6_arithmetic 181 = .ok (.iload 17, 2) := by decide +kernel
theorem dX6_arithmetic_183 : decode cX6_arithmetic 183 = .ok (.aload_n 0, 1) := by decide +kernel
theorem dX6_arithmetic_184 : decode cX6_arithmetic 184 = .ok (.getfield 95, 3) := by decide +kernel
theorem dX6_arithmetic_187 : decode cX6_arithmetic 187 = .ok (.if_icmp .ge 8, 3) := by decide +kernel
theorem dX6_arithmetic_190 : decode cX6_arithmetic 190 = .ok (.iload 17, 2) := by decide +kernel
theorem dX6_arithmetic_192 : decode cX6_arithmetic 192 = .ok (.goto 7, 3) := by decide +kernel
theorem dX6_arithmetic_195 : decode cX6_arithmetic 195 = .ok (.aload_n 0, 1) := by decide +kernel
theorem dX6_arithmetic_196 : decode cX6_arithmetic 196 = .ok (.getfield 95, 3) := by decide +kernel
theorem dX6_arithmetic_199 : decode cX6_arithmetic 199 = .ok (.istore 19, 2) := by decide +kernel
theorem dX6_arithmetic_201 : decode cX6_arithmetic 201 = .ok (.iload 14, 2) := by decide +kernel
theorem dX6_arithmetic_203 : decode cX6_arithmetic 203 = .ok (.ifCond .eq 16, 3) := by decide +kernel
theorem dX6_arithmetic_206 : decode cX6_arithmetic 206 = .ok (.lconst 0, 1) := by decide +kernel
theorem dX6_arithmetic_207 : decode cX6_arithmetic 207 = .ok (.lload 15, 2) := by decide +kernel
theorem dX6_arithmetic_209 : decode cX6_arithmetic 209 = .ok (.iload 17, 2) := by decide +kernel
theorem dX6_arithmetic_211 : decode cX6_arithmetic 211 = .ok (.iload 19, 2) := by decide +kernel
theorem dX6_arithmetic_213 : decode cX6_arithmetic 213 = .ok (.isub, 1) := by decide +kernel
theorem dX6_arithmetic_214 : decode cX6_arithmetic 214 = .ok (.lshl, 1) := by decide +kernel
theorem dX6_arithmetic_215 : decode cX6_arithmetic 215 = .ok (.lsub, 1) := by decide +kernel
theorem dX6_arithmetic_216 : decode cX6_arithmetic 216 = .ok (.goto 11, 3) := by decide +kernel
theorem dX6_arithmetic_219 : decode cX6_arithmetic 219 = .ok (.lload 15, 2) := by decide +kernel
theorem dX6_arithmetic_221 : decode cX6_arithmetic 221 = .ok (.iload 17, 2) := by decide +kernel
theorem dX6_arithmetic_223 : decode cX6_arithmetic 223 = .ok (.iload 19, 2) := by decide +kernel
theorem dX6_arithmetic_225 : decode cX6_arithmetic 225 = .ok (.isub, 1) := by decide +kernel
theorem dX6_arithmetic_226 : decode cX6_arithmetic 226 = .ok (.lshl, 1) := by decide +kernel
theorem dX6_arithmetic_227 : decode cX6_arithmetic 227 = .ok (.iload 18, 2) := by decide +kernel
theorem dX6_arithmetic_229 : decode cX6_arithmetic 229 = .ok (.ifCond .eq 20, 3) := by decide +kernel
theorem dX6_arithmetic_232 : decode cX6_arithmetic 232 = .ok (.lconst 0, 1) := by decide +kernel
theorem dX6_arithmetic_233 : decode cX6_arithmetic 233 = .ok (.aload_n 0, 1) := by decide +kernel
theorem dX6_arithmetic_234 : decode cX6_arithmetic 234 = .ok (.getfield 91, 3) := by decide +kernel
theorem dX6_arithmetic_237 : decode cX6_arithmetic 237 = .ok (.aload_n 0, 1) := by decide +kernel
theorem dX6_arithmetic_238 : decode cX6_arithmetic 238 = .ok (.getfield 95, 3) := by decide +kernel
theorem dX6_arithmetic_241 : decode cX6_arithmetic 241 = .ok (.iload 19, 2) := by decide +kernel
theorem dX6_arithmetic_243 : decode cX6_arithmetic 243 = .ok (.isub, 1) := by decide +kernel
theorem dX6_arithmetic_244 : decode cX6_arithmetic 244 = .ok (.lshl, 1) := by decide +kernel
theorem dX6_arithmetic_245 : decode cX6_arithmetic 245 = .ok (.lsub, 1) := by decide +kernel
theorem dX6_arithmetic_246 : decode cX6_arithmetic 246 = .ok (.goto 15, 3) := by decide +kernel
theorem dX6_arithmetic_249 : decode cX6_arithmetic 249 = .ok (.aload_n 0, 1) := by decide +kernel
theorem dX6_arithmetic_250 : decode cX6_arithmetic 250 = .ok (.getfield 91, 3) := by decide +kernel
theorem dX6_arithmetic_253 : decode cX6_arithmetic 253 = .ok (.aload_n 0, 1) := by decide +kernel
theorem dX6_arithmetic_254 : decode cX6_arithmetic 254 = .ok (.getfield 95, 3) := by decide +kernel
theorem dX6_arithmetic_257 : decode cX6_arithmetic 257 = .ok (.iload 19, 2) := by decide +kernel
theorem dX6_arithmetic_259 : decode cX6_arithmetic 259 = .ok (.isub, 1) := by decide +kernel
theorem dX6_arithmetic_260 : decode cX6_arithmetic 260 = .ok (.lshl, 1) := by decide +kernel
theorem dX6_arithmetic_261 : decode cX6_arithmetic 261 = .ok (.ladd, 1) := by decide +kernel
theorem dX6_arithmetic_262 : decode cX6_arithmetic 262 = .ok (.lstore 20, 2) := by decide +kernel
theorem dX6_arithmetic_264 : decode cX6_arithmetic 264 = .ok (.lload 20, 2) := by decide +kernel
theorem dX6_arithmetic_266 : decode cX6_arithmetic 266 = .ok (.lconst 0, 1) := by decide +kernel
theorem dX6_arithmetic_267 : decode cX6_arithmetic 267 = .ok (.lcmp, 1) := by decide +kernel
theorem dX6_arithmetic_268 : decode cX6_arithmetic 268 = .ok (.ifCond .ne 37, 3) := by decide +kernel
theorem dX6_arithmetic_271 : decode cX6_arithmetic 271 = .ok (.lload 15, 2) := by decide +kernel
theorem dX6_arithmetic_273 : decode cX6_arithmetic 273 = .ok (.lconst 0, 1) := by decide +kernel
theorem dX6_arithmetic_274 : decode cX6_arithmetic 274 = .ok (.lcmp, 1) := by decide +kernel
theorem dX6_arithmetic_275 : decode cX6_arithmetic 275 = .ok (.ifCond .ne 18, 3) := by decide +kernel
theorem dX6_arithmetic_278 : decode cX6_arithmetic 278 = .ok (.iload 14, 2) := by decide +kernel
theorem dX6_arithmetic_280 : decode cX6_arithmetic 280 = .ok (.iload 18, 2) := by decide +kernel
theorem dX6_arithmetic_282 : decode cX6_arithmetic 282 = .ok (.if_icmp .ne 11, 3) := by decide +kernel
theorem dX6_arithmetic_285 : decode cX6_arithmetic 285 = .ok (.iload 14, 2) := by decide +kernel
theorem dX6_arithmetic_287 : decode cX6_arithmetic 287 = .ok (.ifCond .eq 16, 3) := by decide +kernel
theorem dX6_arithmetic_290 : decode cX6_arithmetic 290 = .ok (.goto 8, 3) := by decide +kernel
theorem dX6_arithmetic_293 : decode cX6_arithmetic 293 = .ok (.iload_n 2, 1) := by decide +kernel
theorem dX6_arithmetic_294 : decode cX6_arithmetic 294 = .ok (.iconst 3, 1) := by decide +kernel
theorem dX6_arithmetic_295 : decode cX6_arithmetic 295 = .ok (.if_icmp .ne 8, 3) := by decide +kernel
theorem dX6_arithmetic_298 : decode cX6_arithmetic 298 = .ok (.lload 10, 2) := by decide +kernel
theorem dX6_arithmetic_300 : decode cX6_arithmetic 300 = .ok (.goto 4, 3) := by decide +kernel
theorem dX6_arithmetic_303 : decode cX6_arithmetic 303 = .ok (.lconst 0, 1) := by decide +kernel
theorem dX6_arithmetic_304 : decode cX6_arithmetic 304 = .ok (.lreturn, 1) := by decide +kernel
theorem dX6_arithmetic_305 : decode cX6_arithmetic 305 = .ok (.iload_n 2, 1) := by decide +kernel
theorem dX6_arithmetic_306 : decode cX6_arithmetic 306 = .ok (.lload 20, 2) := by decide +kernel
theorem dX6_arithmetic_308 : decode cX6_arithmetic 308 = .ok (.lconst 0, 1) := by decide +kernel
theorem dX6_arithmetic_309 : decode cX6_arithmetic 309 = .ok (.lcmp, 1) := by decide +kernel
theorem dX6_arithmetic_310 : decode cX6_arithmetic 310 = .ok (.ifCond .ge 7, 3) := by decide +kernel
theorem dX6_arithmetic_313 : decode cX6_arithmetic 313 = .ok (.iconst 1, 1) := by decide +kernel
theorem dX6_arithmetic_314 : decode cX6_arithmetic 314 = .ok (.goto 4, 3) := by decide +kernel
theorem dX6_arithmetic_317 : decode cX6_arithmetic 317 = .ok (.iconst 0, 1) := by decide +kernel
theorem dX6_arithmetic_318 : decode cX6_arithmetic 318 = .ok (.lload 20, 2) := by decide +kernel
theorem dX6_arithmetic_320 : decode cX6_arithmetic 320 = .ok (.lconst 0, 1) := by decide +kernel
theorem dX6_arithmetic_321 : decode cX6_arithmetic 321 = .ok (.lcmp, 1) := by decide +kernel
theorem dX6_arithmetic_322 : decode cX6_arithmetic 322 = .ok (.ifCond .ge 10, 3) := by decide +kernel
theorem dX6_arithmetic_325 : decode cX6_arithmetic 325 = .ok (.lconst 0, 1) := by decide +kernel
theorem dX6_arithmetic_326 : decode cX6_arithmetic 326 = .ok (.lload 20, 2) := by decide +kernel
theorem dX6_arithmetic_328 : decode cX6_arithmetic 328 = .ok (.lsub, 1) := by decide +kernel
theorem dX6_arithmetic_329 : decode cX6_arithmetic 329 = .ok (.goto 5, 3) := by decide +kernel
theorem dX6_arithmetic_332 : decode cX6_arithmetic 332 = .ok (.lload 20, 2) := by decide +kernel
theorem dX6_arithmetic_334 : decode cX6_arithmetic 334 = .ok (.iload 19, 2) := by decide +kernel
theorem dX6_arithmetic_336 : decode cX6_arithmetic 336 = .ok (.iconst 0, 1) := by decide +kernel
theorem dX6_arithmetic_337 : decode cX6_arithmetic 337 = .ok (.iload 7, 2) := by decide +kernel
theorem dX6_arithmetic_339 : decode cX6_arithmetic 339 = .ok (.invokestatic 98, 3) := by decide +kernel
theorem dX6_arithmetic_342 : decode cX6_arithmetic 342 = .ok (.lreturn, 1) := by decide +kernel
theorem dX6_arithmetic_343 : decode cX6_arithmetic 343 = .ok (.iload 14, 2) := by decide +kernel
theorem dX6_arithmetic_345 : decode cX6_arithmetic 345 = .ok (.iload 18, 2) := by decide +kernel
theorem dX6_arithmetic_347 : decode cX6_arithmetic 347 = .ok (.if_icmp .eq 7, 3) := by decide +kernel
theorem dX6_arithmetic_350 : decode cX6_arithmetic 350 = .ok (.iconst 1, 1) := by decide +kernel
theorem dX6_arithmetic_351 : decode cX6_arithmetic 351 = .ok (.goto 4, 3) := by decide +kernel
theorem dX6_arithmetic_354 : decode cX6_arithmetic 354 = .ok (.iconst 0, 1) := by decide +kernel
theorem dX6_arithmetic_355 : decode cX6_arithmetic 355 = .ok (.istore 19, 2) := by decide +kernel
theorem dX6_arithmetic_357 : decode cX6_arithmetic 357 = .ok (.iload 19, 2) := by decide +kernel
theorem dX6_arithmetic_359 : decode cX6_arithmetic 359 = .ok (.ifCond .eq 8, 3) := by decide +kernel
theorem dX6_arithmetic_362 : decode cX6_arithmetic 362 = .ok (.lload 10, 2) := by decide +kernel
theorem dX6_arithmetic_364 : decode cX6_arithmetic 364 = .ok (.goto 4, 3) := by decide +kernel
theorem dX6_arithmetic_367 : decode cX6_arithmetic 367 = .ok (.lconst 0, 1) := by decide +kernel
theorem dX6_arithmetic_368 : decode cX6_arithmetic 368 = .ok (.lstore 20, 2) := by decide +kernel
theorem dX6_arithmetic_370 : decode cX6_arithmetic 370 = .ok (.iload 7, 2) := by decide +kernel
theorem dX6_arithmetic_372 : decode cX6_arithmetic 372 = .ok (.invokestatic 20, 3) := by decide +kernel
theorem dX6_arithmetic_375 : decode cX6_arithmetic 375 = .ok (.invokestatic 27, 3) := by decide +kernel
theorem dX6_arithmetic_378 : decode cX6_arithmetic 378 = .ok (.iload 7, 2) := by decide +kernel
theorem dX6_arithmetic_380 : decode cX6_arithmetic 380 = .ok (.invokestatic 24, 3) := by decide +kernel
theorem dX6_arithmetic_383 : decode cX6_arithmetic 383 = .ok (.iconst 1, 1) := by decide +kernel
theorem dX6_arithmetic_384 : decode cX6_arithmetic 384 = .ok (.isub, 1) := by decide +kernel
theorem dX6_arithmetic_385 : decode cX6_arithmetic 385 = .ok (.lshl, 1) := by decide +kernel
theorem dX6_arithmetic_386 : decode cX6_arithmetic 386 = .ok (.lstore 22, 2) := by decide +kernel
theorem dX6_arithmetic_388 : decode cX6_arithmetic 388 = .ok (.iload_n 1, 1) := by decide +kernel
theorem dX6_arithmetic_389 : decode cX6_arithmetic 389 = .ok (.bipush 48, 2) := by decide +kernel
theorem dX6_arithmetic_391 : decode cX6_arithmetic 391 = .ok (.if_icmp .ne 90, 3) := by decide +kernel
theorem dX6_arithmetic_394 : decode cX6_arithmetic 394 = .ok (.iload 13, 2) := by decide +kernel
theorem dX6_arithmetic_396 : decode cX6_arithmetic 396 = .ok (.ifCond .ne 10, 3) := by decide +kernel
theorem dX6_arithmetic_399 : decode cX6_arithmetic 399 = .ok (.aload_n 0, 1) := by decide +kernel
theorem dX6_arithmetic_400 : decode cX6_arithmetic 400 = .ok (.getfield 85, 3) := by decide +kernel
theorem dX6_arithmetic_403 : decode cX6_arithmetic 403 = .ok (.ifCond .eq 54, 3) := by decide +kernel
theorem dX6_arithmetic_406 : decode cX6_arithmetic 406 = .ok (.iload 13, 2) := by decide +kernel
theorem dX6_arithmetic_408 : decode cX6_arithmetic 408 = .ok (.ifCond .eq 19, 3) := by decide +kernel
theorem dX6_arithmetic_411 : decode cX6_arithmetic 411 = .ok (.aload_n 0, 1) := by decide +kernel
theorem dX6_arithmetic_412 : decode cX6_arithmetic 412 = .ok (.getfield 85, 3) := by decide +kernel
theorem dX6_arithmetic_415 : decode cX6_arithmetic 415 = .ok (.ifCond .ne 12, 3) := by decide +kernel
theorem dX6_arithmetic_418 : decode cX6_arithmetic 418 = .ok (.aload_n 0, 1) := by decide +kernel
theorem dX6_arithmetic_419 : decode cX6_arithmetic 419 = .ok (.getfield 91, 3) := by decide +kernel
theorem dX6_arithmetic_422 : decode cX6_arithmetic 422 = .ok (.lconst 0, 1) := by decide +kernel
theorem dX6_arithmetic_423 : decode cX6_arithmetic 423 = .ok (.lcmp, 1) := by decide +kernel
theorem dX6_arithmetic_424 : decode cX6_arithmetic 424 = .ok (.ifCond .eq 22, 3) := by decide +kernel
theorem dX6_arithmetic_427 : decode cX6_arithmetic 427 = .ok (.aload_n 0, 1) := by decide +kernel
theorem dX6_arithmetic_428 : decode cX6_arithmetic 428 = .ok (.getfield 85, 3) := by decide +kernel
theorem dX6_arithmetic_431 : decode cX6_arithmetic 431 = .ok (.ifCond .eq 20, 3) := by decide +kernel
theorem dX6_arithmetic_434 : decode cX6_arithmetic 434 = .ok (.iload 13, 2) := by decide +kernel
theorem dX6_arithmetic_436 : decode cX6_arithmetic 436 = .ok (.ifCond .ne 15, 3) := by decide +kernel
theorem dX6_arithmetic_439 : decode cX6_arithmetic 439 = .ok (.lload 15, 2) := by decide +kernel
theorem dX6_arithmetic_441 : decode cX6_arithmetic 441 = .ok (.lconst 0, 1) := by decide +kernel
theorem dX6_arithmetic_442 : decode cX6_arithmetic 442 = .ok (.lcmp, 1) := by decide +kernel
theorem dX6_arithmetic_443 : decode cX6_arithmetic 443 = .ok (.ifCond .ne 8, 3) := by decide +kernel
theorem dX6_arithmetic_446 : decode cX6_arithmetic 446 = .ok (.lload 8, 2) := by decide +kernel
theorem dX6_arithmetic_448 : decode cX6_arithmetic 448 = .ok (.goto 8, 3) := by decide +kernel
theorem dX6_arithmetic_451 : decode cX6_arithmetic 451 = .ok (.lload 20, 2) := by decide +kernel
theorem dX6_arithmetic_453 : decode cX6_arithmetic 453 = .ok (.lload 22, 2) := by decide +kernel
theorem dX6_arithmetic_455 : decode cX6_arithmetic 455 = .ok (.lor, 1) := by decide +kernel
theorem dX6_arithmetic_456 : decode cX6_arithmetic 456 = .ok (.lreturn, 1) := by decide +kernel
theorem dX6_arithmetic_457 : decode cX6_arithmetic 457 = .ok (.iload_n 2, 1) := by decide +kernel
theorem dX6_arithmetic_458 : decode cX6_arithmetic 458 = .ok (.iload 19, 2) := by decide +kernel
theorem dX6_arithmetic_460 : decode cX6_arithmetic 460 = .ok (.lload 15, 2) := by decide +kernel
theorem dX6_arithmetic_462 : decode cX6_arithmetic 462 = .ok (.aload_n 0, 1) := by decide +kernel
theorem dX6_arithmetic_463 : decode cX6_arithmetic 463 = .ok (.getfield 91, 3) := by decide +kernel
theorem dX6_arithmetic_466 : decode cX6_arithmetic 466 = .ok (.lmul, 1) := by decide +kernel
theorem dX6_arithmetic_467 : decode cX6_arithmetic 467 = .ok (.iload 17, 2) := by decide +kernel
theorem dX6_arithmetic_469 : decode cX6_arithmetic 469 = .ok (.aload_n 0, 1) := by decide +kernel
theorem dX6_arithmetic_470 : decode cX6_arithmetic 470 = .ok (.getfield 95, 3) := by decide +kernel
theorem dX6_arithmetic_473 : decode cX6_arithmetic 473 = .ok (.iadd, 1) := by decide +kernel
theorem dX6_arithmetic_474 : decode cX6_arithmetic 474 = .ok (.iconst 0, 1) := by decide +kernel
theorem dX6_arithmetic_475 : decode cX6_arithmetic 475 = .ok (.iload 7, 2) := by decide +kernel
theorem dX6_arithmetic_477 : decode cX6_arithmetic 477 = .ok (.invokestatic 98, 3) := by decide +kernel
theorem dX6_arithmetic_480 : decode cX6_arithmetic 480 = .ok (.lreturn, 1) := by decide +kernel
theorem dX6_arithmetic_481 : decode cX6_arithmetic 481 = .ok (.iload 13, 2) := by decide +kernel
theorem dX6_arithmetic_483 : decode cX6_arithmetic 483 = .ok (.ifCond .eq 21, 3) := by decide +kernel
theorem dX6_arithmetic_486 : decode cX6_arithmetic 486 = .ok (.aload_n 0, 1) := by decide +kernel
theorem dX6_arithmetic_487 : decode cX6_arithmetic 487 = .ok (.getfield 85, 3) := by decide +kernel
theorem dX6_arithmetic_490 : decode cX6_arithmetic 490 = .ok (.ifCond .eq 8, 3) := by decide +kernel
theorem dX6_arithmetic_493 : decode cX6_arithmetic 493 = .ok (.lload 8, 2) := by decide +kernel
theorem dX6_arithmetic_495 : decode cX6_arithmetic 495 = .ok (.goto 8, 3) := by decide +kernel
theorem dX6_arithmetic_498 : decode cX6_arithmetic 498 = .ok (.lload 20, 2) := by decide +kernel
theorem dX6_arithmetic_500 : decode cX6_arithmetic 500 = .ok (.lload 22, 2) := by decide +kernel
theorem dX6_arithmetic_502 : decode cX6_arithmetic 502 = .ok (.lor, 1) := by decide +kernel
theorem dX6_arithmetic_503 : decode cX6_arithmetic 503 = .ok (.lreturn, 1) := by decide +kernel
theorem dX6_arithmetic_504 : decode cX6_arithmetic 504 = .ok (.aload_n 0, 1) := by decide +kernel
theorem dX6_arithmetic_505 : decode cX6_arithmetic 505 = .ok (.getfield 85, 3) := by decide +kernel
theorem dX6_arithmetic_508 : decode cX6_arithmetic 508 = .ok (.ifCond .eq 6, 3) := by decide +kernel
theorem dX6_arithmetic_511 : decode cX6_arithmetic 511 = .ok (.lload 20, 2) := by decide +kernel
theorem dX6_arithmetic_513 : decode cX6_arithmetic 513 = .ok (.lreturn, 1) := by decide +kernel
theorem dX6_arithmetic_514 : decode cX6_arithmetic 514 = .ok (.aload_n 0, 1) := by decide +kernel
