theorem dX6_arithmetic_515 : decode cX6_arithmetic 515 = .ok (.getfield 91, 3) := by decide +kernel
theorem dX6_arithmetic_518 : decode cX6_arithmetic 518 = .ok (.lconst 0, 1) := by decide +kernel
theorem dX6_arithmetic_519 : decode cX6_arithmetic 519 = .ok (.lcmp, 1) := by decide +kernel
theorem dX6_arithmetic_520 : decode cX6_arithmetic 520 = .ok (.ifCond .ne 21, 3) := by decide +kernel
theorem dX6_arithmetic_523 : decode cX6_arithmetic 523 = .ok (.lload 15, 2) := by decide +kernel
theorem dX6_arithmetic_525 : decode cX6_arithmetic 525 = .ok (.lconst 0, 1) := by decide +kernel
theorem dX6_arithmetic_526 : decode cX6_arithmetic 526 = .ok (.lcmp, 1) := by decide +kernel
theorem dX6_arithmetic_527 : decode cX6_arithmetic 527 = .ok (.ifCond .ne 8, 3) := by decide +kernel
theorem dX6_arithmetic_530 : decode cX6_arithmetic 530 = .ok (.lload 8, 2) := by decide +kernel
theorem dX6_arithmetic_532 : decode cX6_arithmetic 532 = .ok (.goto 8, 3) := by decide +kernel
theorem dX6_arithmetic_535 : decode cX6_arithmetic 535 = .ok (.lload 20, 2) := by decide +kernel
theorem dX6_arithmetic_537 : decode cX6_arithmetic 537 = .ok (.lload 22, 2) := by decide +kernel
theorem dX6_arithmetic_539 : decode cX6_arithmetic 539 = .ok (.lor, 1) := by decide +kernel
theorem dX6_arithmetic_540 : decode cX6_arithmetic 540 = .ok (.lreturn, 1) := by decide +kernel
theorem dX6_arithmetic_541 : decode cX6_arithmetic 541 = .ok (.lload 15, 2) := by decide +kernel
theorem dX6_arithmetic_543 : decode cX6_arithmetic 543 = .ok (.bipush 40, 2) := by decide +kernel
theorem dX6_arithmetic_545 : decode cX6_arithmetic 545 = .ok (.lshl, 1) := by decide +kernel
theorem dX6_arithmetic_546 : decode cX6_arithmetic 546 = .ok (.aload_n 0, 1) := by decide +kernel
theorem dX6_arithmetic_547 : decode cX6_arithmetic 547 = .ok (.getfield 91, 3) := by decide +kernel
theorem dX6_arithmetic_550 : decode cX6_arithmetic 550 = .ok (.ldiv, 1) := by decide +kernel
theorem dX6_arithmetic_551 : decode cX6_arithmetic 551 = .ok (.lstore 24, 2) := by decide +kernel
theorem dX6_arithmetic_553 : decode cX6_arithmetic 553 = .ok (.iload_n 2, 1) := by decide +kernel
theorem dX6_arithmetic_554 : decode cX6_arithmetic 554 = .ok (.iload 19, 2) := by decide +kernel
theorem dX6_arithmetic_556 : decode cX6_arithmetic 556 = .ok (.lload 24, 2) := by decide +kernel
theorem dX6_arithmetic_558 : decode cX6_arithmetic 558 = .ok (.iload 17, 2) := by decide +kernel
theorem dX6_arithmetic_560 : decode cX6_arithmetic 560 = .ok (.aload_n 0, 1) := by decide +kernel
theorem dX6_arithmetic_561 : decode cX6_arithmetic 561 = .ok (.getfield 95, 3) := by decide +kernel
theorem dX6_arithmetic_564 : decode cX6_arithmetic 564 = .ok (.isub, 1) := by decide +kernel
theorem dX6_arithmetic_565 : decode cX6_arithmetic 565 = .ok (.bipush 40, 2) := by decide +kernel
theorem dX6_arithmetic_567 : decode cX6_arithmetic 567 = .ok (.isub, 1) := by decide +kernel
theorem dX6_arithmetic_568 : decode cX6_arithmetic 568 = .ok (.lload 15, 2) := by decide +kernel
theorem dX6_arithmetic_570 : decode cX6_arithmetic 570 = .ok (.bipush 40, 2) := by decide +kernel
theorem dX6_arithmetic_572 : decode cX6_arithmetic 572 = .ok (.lshl, 1) := by decide +kernel
theorem dX6_arithmetic_573 : decode cX6_arithmetic 573 = .ok (.aload_n 0, 1) := by decide +kernel
theorem dX6_arithmetic_574 : decode cX6_arithmetic 574 = .ok (.getfield 91, 3) := by decide +kernel
theorem dX6_arithmetic_577 : decode cX6_arithmetic 577 = .ok (.lrem, 1) := by decide +kernel
theorem dX6_arithmetic_578 : decode cX6_arithmetic 578 = .ok (.lconst 0, 1) := by decide +kernel
theorem dX6_arithmetic_579 : decode cX6_arithmetic 579 = .ok (.lcmp, 1) := by decide +kernel
theorem dX6_arithmetic_580 : decode cX6_arithmetic 580 = .ok (.ifCond .eq 7, 3) := by decide +kernel
theorem dX6_arithmetic_583 : decode cX6_arithmetic 583 = .ok (.iconst 1, 1) := by decide +kernel
theorem dX6_arithmetic_584 : decode cX6_arithmetic 584 = .ok (.goto 4, 3) := by decide +kernel
theorem dX6_arithmetic_587 : decode cX6_arithmetic 587 = .ok (.iconst 0, 1) := by decide +kernel
theorem dX6_arithmetic_588 : decode cX6_arithmetic 588 = .ok (.iload 7, 2) := by decide +kernel
theorem dX6_arithmetic_590 : decode cX6_arithmetic 590 = .ok (.invokestatic 98, 3) := by decide +kernel
theorem dX6_arithmetic_593 : decode cX6_arithmetic 593 = .ok (.lreturn, 1) := by decide +kernel
theorem dX6_nan_0 : decode cX6_nan 0 = .ok (.iload_n 0, 1) := by decide +kernel
theorem dX6_nan_1 : decode cX6_nan 1 = .ok (.invokestatic 27, 3) := by decide +kernel
theorem dX6_nan_4 : decode cX6_nan 4 = .ok (.iload_n 1, 1) := by decide +kernel
theorem dX6_nan_5 : decode cX6_nan 5 = .ok (.iconst 1, 1) := by decide +kernel
theorem dX6_nan_6 : decode cX6_nan 6 = .ok (.isub, 1) := by decide +kernel
theorem dX6_nan_7 : decode cX6_nan 7 = .ok (.lshl, 1) := by decide +kernel
theorem dX6_nan_8 : decode cX6_nan 8 = .ok (.lconst 1, 1) := by decide +kernel
theorem dX6_nan_9 : decode cX6_nan 9 = .ok (.iload_n 1, 1) := by decide +kernel
theorem dX6_nan_10 : decode cX6_nan 10 = .ok (.iconst 2, 1) := by decide +kernel
theorem dX6_nan_11 : decode cX6_nan 11 = .ok (.isub, 1) := by decide +kernel
theorem dX6_nan_12 : decode cX6_nan 12 = .ok (.lshl, 1) := by decide +kernel
theorem dX6_nan_13 : decode cX6_nan 13 = .ok (.lor, 1) := by decide +kernel
theorem dX6_nan_14 : decode cX6_nan 14 = .ok (.lreturn, 1) := by decide +kernel
theorem dX6_take_0 : decode cX6_take 0 = .ok (.iload_n 3, 1) := by decide +kernel
theorem dX6_take_1 : decode cX6_take 1 = .ok (.invokestatic 20, 3) := by decide +kernel
theorem dX6_take_4 : decode cX6_take 4 = .ok (.istore 4, 2) := by decide +kernel
theorem dX6_take_6 : decode cX6_take 6 = .ok (.iload_n 3, 1) := by decide +kernel
theorem dX6_take_7 : decode cX6_take 7 = .ok (.invokestatic 24, 3) := by decide +kernel
theorem dX6_take_10 : decode cX6_take 10 = .ok (.iconst 1, 1) := by decide +kernel
theorem dX6_take_11 : decode cX6_take 11 = .ok (.isub, 1) := by decide +kernel
theorem dX6_take_12 : decode cX6_take 12 = .ok (.istore 5, 2) := by decide +kernel
theorem dX6_take_14 : decode cX6_take 14 = .ok (.lload_n 1, 1) := by decide +kernel
theorem dX6_take_15 : decode cX6_take 15 = .ok (.iload 5, 2) := by decide +kernel
theorem dX6_take_17 : decode cX6_take 17 = .ok (.invokestatic 27, 3) := by decide +kernel
theorem dX6_take_20 : decode cX6_take 20 = .ok (.land, 1) := by decide +kernel
theorem dX6_take_21 : decode cX6_take 21 = .ok (.lstore 6, 2) := by decide +kernel
theorem dX6_take_23 : decode cX6_take 23 = .ok (.lload_n 1, 1) := by decide +kernel
theorem dX6_take_24 : decode cX6_take 24 = .ok (.iload 5, 2) := by decide +kernel
theorem dX6_take_26 : decode cX6_take 26 = .ok (.lushr, 1) := by decide +kernel
theorem dX6_take_27 : decode cX6_take 27 = .ok (.iload 4, 2) := by decide +kernel
theorem dX6_take_29 : decode cX6_take 29 = .ok (.invokestatic 27, 3) := by decide +kernel
theorem dX6_take_32 : decode cX6_take 32 = .ok (.land, 1) := by decide +kernel
theorem dX6_take_33 : decode cX6_take 33 = .ok (.lstore 8, 2) := by decide +kernel
theorem dX6_take_35 : decode cX6_take 35 = .ok (.iconst 1, 1) := by decide +kernel
theorem dX6_take_36 : decode cX6_take 36 = .ok (.iload 4, 2) := by decide +kernel
theorem dX6_take_38 : decode cX6_take 38 = .ok (.iconst 1, 1) := by decide +kernel
theorem dX6_take_39 : decode cX6_take 39 = .ok (.isub, 1) := by decide +kernel
theorem dX6_take_40 : decode cX6_take 40 = .ok (.ishl, 1) := by decide +kernel
theorem dX6_take_41 : decode cX6_take 41 = .ok (.iconst 1, 1) := by decide +kernel
theorem dX6_take_42 : decode cX6_take 42 = .ok (.isub, 1) := by decide +kernel
theorem dX6_take_43 : decode cX6_take 43 = .ok (.istore 10, 2) := by decide +kernel
theorem dX6_take_45 : decode cX6_take 45 = .ok (.aload_n 0, 1) := by decide +kernel
theorem dX6_take_46 : decode cX6_take 46 = .ok (.lload_n 1, 1) := by decide +kernel
theorem dX6_take_47 : decode cX6_take 47 = .ok (.iload 4, 2) := by decide +kernel
theorem dX6_take_49 : decode cX6_take 49 = .ok (.iload 5, 2) := by decide +kernel
theorem dX6_take_51 : decode cX6_take 51 = .ok (.iadd, 1) := by decide +kernel
theorem dX6_take_52 : decode cX6_take 52 = .ok (.lushr, 1) := by decide +kernel
theorem dX6_take_53 : decode cX6_take 53 = .ok (.lconst 1, 1) := by decide +kernel
theorem dX6_take_54 : decode cX6_take 54 = .ok (.land, 1) := by decide +kernel
theorem dX6_take_55 : decode cX6_take 55 = .ok (.lconst 1, 1) := by decide +kernel
theorem dX6_take_56 : decode cX6_take 56 = .ok (.lcmp, 1) := by decide +kernel
theorem dX6_take_57 : decode cX6_take 57 = .ok (.ifCond .ne 7, 3) := by decide +kernel
theorem dX6_take_60 : decode cX6_take 60 = .ok (.iconst 1, 1) := by decide +kernel
theorem dX6_take_61 : decode cX6_take 61 = .ok (.goto 4, 3) := by decide +kernel
theorem dX6_take_64 : decode cX6_take 64 = .ok (.iconst 0, 1) := by decide +kernel
theorem dX6_take_65 : decode cX6_take 65 = .ok (.putfield 88, 3) := by decide +kernel
theorem dX6_take_68 : decode cX6_take 68 = .ok (.aload_n 0, 1) := by decide +kernel
theorem dX6_take_69 : decode cX6_take 69 = .ok (.lload 8, 2) := by decide +kernel
theorem dX6_take_71 : decode cX6_take 71 = .ok (.iload 4, 2) := by decide +kernel
theorem dX6_take_73 : decode cX6_take 73 = .ok (.invokestatic 27, 3) := by decide +kernel
theorem dX6_take_76 : decode cX6_take 76 = .ok (.lcmp, 1) := by decide +kernel
theorem dX6_take_77 : decode cX6_take 77 = .ok (.ifCond .ne 14, 3) := by decide +kernel
theorem dX6_take_80 : decode cX6_take 80 = .ok (.lload 6, 2) := by decide +kernel
theorem dX6_take_82 : decode cX6_take 82 = .ok (.lconst 0, 1) := by decide +kernel
theorem dX6_take_83 : decode cX6_take 83 = .ok (.lcmp, 1) := by decide +kernel
theorem dX6_take_84 : decode cX6_take 84 = .ok (.ifCond .eq 7, 3) := by decide +kernel
theorem dX6_take_87 : decode cX6_take 87 = .ok (.iconst 1, 1) := by decide +kernel
theorem dX6_take_88 : decode cX6_take 88 = .ok (.goto 4, 3) := by decide +kernel
theorem dX6_take_91 : decode cX6_take 91 = .ok (.iconst 0, 1) := by decide +kernel
theorem dX6_take_92 : decode cX6_take 92 = .ok (.putfield 64, 3) := by decide +kernel
theorem dX6_take_95 : decode cX6_take 95 = .ok (.aload_n 0, 1) := by decide +kernel
theorem dX6_take_96 : decode cX6_take 96 = .ok (.lload 8, 2) := by decide +kernel
theorem dX6_take_98 : decode cX6_take 98 = .ok (.iload 4, 2) := by decide +kernel
theorem dX6_take_100 : decode cX6_take 100 = .ok (.invokestatic 27, 3) := by decide +kernel
theorem dX6_take_103 : decode cX6_take 103 = .ok (.lcmp, 1) := by decide +kernel
theorem dX6_take_104 : decode cX6_take 104 = .ok (.ifCond .ne 14, 3) := by decide +kernel
theorem dX6_take_107 : decode cX6_take 107 = .ok (.lload 6, 2) := by decide +kernel
theorem dX6_take_109 : decode cX6_take 109 = .ok (.lconst 0, 1) := by decide +kernel
theorem dX6_take_110 : decode cX6_take 110 = .ok (.lcmp, 1) := by decide +kernel
theorem dX6_take_111 : decode cX6_take 111 = .ok (.ifCond .ne 7, 3) := by decide +kernel
theorem dX6_take_114 : decode cX6_take 114 = .ok (.iconst 1, 1) := by decide +kernel
theorem dX6_take_115 : decode cX6_take 115 = .ok (.goto 4, 3) := by decide +kernel
theorem dX6_take_118 : decode cX6_take 118 = .ok (.iconst 0, 1) := by decide +kernel
theorem dX6_take_119 : decode cX6_take 119 = .ok (.putfield 85, 3) := by decide +kernel
theorem dX6_take_122 : decode cX6_take 122 = .ok (.aload_n 0, 1) := by decide +kernel
theorem dX6_take_123 : decode cX6_take 123 = .ok (.lload 8, 2) := by decide +kernel
theorem dX6_take_125 : decode cX6_take 125 = .ok (.lconst 0, 1) := by decide +kernel
theorem dX6_take_126 : decode cX6_take 126 = .ok (.lcmp, 1) := by decide +kernel
theorem dX6_take_127 : decode cX6_take 127 = .ok (.ifCond .ne 8, 3) := by decide +kernel
theorem dX6_take_130 : decode cX6_take 130 = .ok (.lload 6, 2) := by decide +kernel
theorem dX6_take_132 : decode cX6_take 132 = .ok (.goto 10, 3) := by decide +kernel
theorem dX6_take_135 : decode cX6_take 135 = .ok (.lload 6, 2) := by decide +kernel
theorem dX6_take_137 : decode cX6_take 137 = .ok (.lconst 1, 1) := by decide +kernel
theorem dX6_take_138 : decode cX6_take 138 = .ok (.iload 5, 2) := by decide +kernel
theorem dX6_take_140 : decode cX6_take 140 = .ok (.lshl, 1) := by decide +kernel
theorem dX6_take_141 : decode cX6_take 141 = .ok (.lor, 1) := by decide +kernel
theorem dX6_take_142 : decode cX6_take 142 = .ok (.putfield 91, 3) := by decide +kernel
theorem dX6_take_145 : decode cX6_take 145 = .ok (.aload_n 0, 1) := by decide +kernel
theorem dX6_take_146 : decode cX6_take 146 = .ok (.lload 8, 2) := by decide +kernel
theorem dX6_take_148 : decode cX6_take 148 = .ok (.lconst 0, 1) := by decide +kernel
theorem dX6_take_149 : decode cX6_take 149 = .ok (.lcmp, 1) := by decide +kernel
theorem dX6_take_150 : decode cX6_take 150 = .ok (.ifCond .ne 7, 3) := by decide +kernel
theorem dX6_take_153 : decode cX6_take 153 = .ok (.iconst 1, 1) := by decide +kernel
theorem dX6_take_154 : decode cX6_take 154 = .ok (.goto 6, 3) := by decide +kernel
theorem dX6_take_157 : decode cX6_take 157 = .ok (.lload 8, 2) := by decide +kernel
theorem dX6_take_159 : decode cX6_take 159 = .ok (.l2i, 1) := by decide +kernel
theorem dX6_take_160 : decode cX6_take 160 = .ok (.iload 10, 2) := by decide +kernel
theorem dX6_take_162 : decode cX6_take 162 = .ok (.isub, 1) := by decide +kernel
theorem dX6_take_163 : decode cX6_take 163 = .ok (.iload 5, 2) := by decide +kernel
theorem dX6_take_165 : decode cX6_take 165 = .ok (.isub, 1) := by decide +kernel
theorem dX6_take_166 : decode cX6_take 166 = .ok (.putfield 95, 3) := by decide +kernel
theorem dX6_take_169 : decode cX6_take 169 = .ok (.return_, 1) := by decide +kernel
theorem dX6_round_0 : decode cX6_round 0 = .ok (.iload 6, 2) := by decide +kernel
theorem dX6_round_2 : decode cX6_round 2 = .ok (.invokestatic 20, 3) := by decide +kernel
theorem dX6_round_5 : decode cX6_round 5 = .ok (.istore 7, 2) := by decide +kernel
theorem dX6_round_7 : decode cX6_round 7 = .ok (.iload 6, 2) := by decide +kernel
theorem dX6_round_9 : decode cX6_round 9 = .ok (.invokestatic 24, 3) := by decide +kernel
theorem dX6_round_12 : decode cX6_round 12 = .ok (.iconst 1, 1) := by decide +kernel
theorem dX6_round_13 : decode cX6_round 13 = .ok (.isub, 1) := by decide +kernel
theorem dX6_round_14 : decode cX6_round 14 = .ok (.istore 8, 2) := by decide +kernel
theorem dX6_round_16 : decode cX6_round 16 = .ok (.iconst 1, 1) := by decide +kernel
theorem dX6_round_17 : decode cX6_round 17 = .ok (.iload 7, 2) := by decide +kernel
theorem dX6_round_19 : decode cX6_round 19 = .ok (.iconst 1, 1) := by decide +kernel
theorem dX6_round_20 : decode cX6_round 20 = .ok (.isub, 1) := by decide +kernel
theorem dX6_round_21 : decode cX6_round 21 = .ok (.ishl, 1) := by decide +kernel
theorem dX6_round_22 : decode cX6_round 22 = .ok (.iconst 1, 1) := by decide +kernel
theorem dX6_round_23 : decode cX6_round 23 = .ok (.isub, 1) := by decide +kernel
theorem dX6_round_24 : decode cX6_round 24 = .ok (.istore 9, 2) := by decide +kernel
theorem dX6_round_26 : decode cX6_round 26 = .ok (.iload_n 1, 1) := by decide +kernel
theorem dX6_round_27 : decode cX6_round 27 = .ok (.ifCond .eq 13, 3) := by decide +kernel
theorem dX6_round_30 : decode cX6_round 30 = .ok (.lconst 1, 1) := by decide +kernel
theorem dX6_round_31 : decode cX6_round 31 = .ok (.iload 7, 2) := by decide +kernel
theorem dX6_round_33 : decode cX6_round 33 = .ok (.iload 8, 2) := by decide +kernel
theorem dX6_round_35 : decode cX6_round 35 = .ok (.iadd, 1) := by decide +kernel
theorem dX6_round_36 : decode cX6_round 36 = .ok (.lshl, 1) := by decide +kernel
theorem dX6_round_37 : decode cX6_round 37 = .ok (.goto 4, 3) := by decide +kernel
theorem dX6_round_40 : decode cX6_round 40 = .ok (.lconst 0, 1) := by decide +kernel
theorem dX6_round_41 : decode cX6_round 41 = .ok (.lstore 10, 2) := by decide +kernel
theorem dX6_round_43 : decode cX6_round 43 = .ok (.lload_n 2, 1) := by decide +kernel
theorem dX6_round_44 : decode cX6_round 44 = .ok (.lconst 0, 1) := by decide +kernel
theorem dX6_round_45 : decode cX6_round 45 = .ok (.lcmp, 1) := by decide +kernel
theorem dX6_round_46 : decode cX6_round 46 = .ok (.ifCond .ne 11, 3) := by decide +kernel
theorem dX6_round_49 : decode cX6_round 49 = .ok (.iload 5, 2) := by decide +kernel
theorem dX6_round_51 : decode cX6_round 51 = .ok (.ifCond .ne 6, 3) := by decide +kernel
theorem dX6_round_54 : decode cX6_round 54 = .ok (.lload 10, 2) := by decide +kernel
theorem dX6_round_56 : decode cX6_round 56 = .ok (.lreturn, 1) := by decide +kernel
theorem dX6_round_57 : decode cX6_round 57 = .ok (.bipush 64, 2) := by decide +kernel
theorem dX6_round_59 : decode cX6_round 59 = .ok (.lload_n 2, 1) := by decide +kernel
theorem dX6_round_60 : decode cX6_round 60 = .ok (.invokestatic 113, 3) := by decide +kernel
theorem dX6_round_63 : decode cX6_round 63 = .ok (.isub, 1) := by decide +kernel
theorem dX6_round_64 : decode cX6_round 64 = .ok (.istore 12, 2) := by decide +kernel
theorem dX6_round_66 : decode cX6_round 66 = .ok (.iconst 1, 1) := by decide +kernel
theorem dX6_round_67 : decode cX6_round 67 = .ok (.iload 9, 2) := by decide +kernel
theorem dX6_round_69 : decode cX6_round 69 = .ok (.isub, 1) := by decide +kernel
theorem dX6_round_70 : decode cX6_round 70 = .ok (.iload 8, 2) := by decide +kernel
theorem dX6_round_72 : decode cX6_round 72 = .ok (.isub, 1) := by decide +kernel
theorem dX6_round_73 : decode cX6_round 73 = .ok (.istore 13, 2) := by decide +kernel
theorem dX6_round_75 : decode cX6_round 75 = .ok (.iload 4, 2) := by decide +kernel
theorem dX6_round_77 : decode cX6_round 77 = .ok (.iload 12, 2) := by decide +kernel
theorem dX6_round_79 : decode cX6_round 79 = .ok (.iadd, 1) := by decide +kernel
theorem dX6_round_80 : decode cX6_round 80 = .ok (.iconst 1, 1) := by decide +kernel
theorem dX6_round_81 : decode cX6_round 81 = .ok (.isub, 1) := by decide +kernel
theorem dX6_round_82 : decode cX6_round 82 = .ok (.iload 8, 2) := by decide +kernel
theorem dX6_round_84 : decode cX6_round 84 = .ok (.isub, 1) := by decide +kernel
theorem dX6_round_85 : decode cX6_round 85 = .ok (.iload 13, 2) := by decide +kernel
theorem dX6_round_87 : decode cX6_round 87 = .ok (.if_icmp .le 16, 3) := by decide +kernel
theorem dX6_round_90 : decode cX6_round 90 = .ok (.iload 4, 2) := by decide +kernel
theorem dX6_round_92 : decode cX6_round 92 = .ok (.iload 12, 2) := by decide +kernel
theorem dX6_round_94 : decode cX6_round 94 = .ok (.iadd, 1) := by decide +kernel
theorem dX6_round_95 : decode cX6_round 95 = .ok (.iconst 1, 1) := by decide +kernel
theorem dX6_round_96 : decode cX6_round 96 = .ok (.isub, 1) := by decide +kernel
theorem dX6_round_97 : decode cX6_round 97 = .ok (.iload 8, 2) := by decide +kernel
theorem dX6_round_99 : decode cX6_round 99 = .ok (.isub, 1) := by decide +kernel
theorem dX6_round_100 : decode cX6_round 100 = .ok (.goto 5, 3) := by decide +kernel
theorem dX6_round_103 : decode cX6_round 103 = .ok (.iload 13, 2) := by decide +kernel
theorem dX6_round_105 : decode cX6_round 105 = .ok (.istore 14, 2) := by decide +kernel
theorem dX6_round_107 : decode cX6_round 107 = .ok (.lload_n 2, 1) := by decide +kernel
theorem dX6_round_108 : decode cX6_round 108 = .ok (.iload 14, 2) := by decide +kernel
theorem dX6_round_110 : decode cX6_round 110 = .ok (.iload 4, 2) := by decide +kernel
theorem dX6_round_112 : decode cX6_round 112 = .ok (.isub, 1) := by decide +kernel
theorem dX6_round_113 : decode cX6_round 113 = .ok (.iload 5, 2) := by decide +kernel
theorem dX6_round_115 : decode cX6_round 115 = .ok (.iload_n 0, 1) := by decide +kernel
theorem dX6_round_116 : decode cX6_round 116 = .ok (.iload_n 1, 1) := by decide +kernel
theorem dX6_round_117 : decode cX6_round 117 = .ok (.invokestatic 105, 3) := by decide +kernel
theorem dX6_round_120 : decode cX6_round 120 = .ok (.lstore 15, 2) := by decide +kernel
theorem dX6_round_122 : decode cX6_round 122 = .ok (.lload 15, 2) := by decide +kernel
theorem dX6_round_124 : decode cX6_round 124 = .ok (.lconst 1, 1) := by decide +kernel
theorem dX6_round_125 : decode cX6_round 125 = .ok (.iload 8, 2) := by decide +kernel
theorem dX6_round_127 : decode cX6_round 127 = .ok (.iconst 1, 1) := by decide +kernel
theorem dX6_round_128 : decode cX6_round 128 = .ok (.iadd, 1) := by decide +kernel
theorem dX6_round_129 : decode cX6_round 129 = .ok (.lshl, 1) := by decide +kernel
theorem dX6_round_130 : decode cX6_round 130 = .ok (.lcmp, 1) := by decide +kernel
theorem dX6_round_131 : decode cX6_round 131 = .ok (.ifCond .ne 12, 3) := by decide +kernel
theorem dX6_round_134 : decode cX6_round 134 = .ok (.lload 15, 2) := by decide +kernel
theorem dX6_round_136 : decode cX6_round 136 = .ok (.iconst 1, 1) := by decide +kernel
theorem dX6_round_137 : decode cX6_round 137 = .ok (.lshr, 1) := by decide +kernel
theorem dX6_round_138 : decode cX6_round 138 = .ok (.lstore 15, 2) := by decide +kernel
theorem dX6_round_140 : decode cX6_round 140 = .ok (.iinc 14 1, 3) := by decide +kernel
theorem dX6_round_143 : decode cX6_round 143 = .ok (.lload 15, 2) := by decide +kernel
theorem dX6_round_145 : decode cX6_round 145 = .ok (.lconst 1, 1) := by decide +kernel
theorem dX6_round_146 : decode cX6_round 146 = .ok (.iload 8, 2) := by decide +kernel
theorem dX6_round_148 : decode cX6_round 148 = .ok (.lshl, 1) := by decide +kernel
theorem dX6_round_149 : decode cX6_round 149 = .ok (.lcmp, 1) := by decide +kernel
theorem dX6_round_150 : decode cX6_round 150 = .ok (.ifCond .lt 79, 3) := by decide +kernel
theorem dX6_round_153 : decode cX6_round 153 = .ok (.iload 14, 2) := by decide +kernel
theorem dX6_round_155 : decode cX6_round 155 = .ok (.iload 8, 2) := by decide +kernel
theorem dX6_round_157 : decode cX6_round 157 = .ok (.iadd, 1) := by decide +kernel
theorem dX6_round_158 : decode cX6_round 158 = .ok (.iload 9, 2) := by decide +kernel
theorem dX6_round_160 : decode cX6_round 160 = .ok (.if_icmp .le 69, 3) := by decide +kernel
theorem dX6_round_163 : decode cX6_round 163 = .ok (.iload_n 0, 1) := by decide +kernel
theorem dX6_round_164 : decode cX6_round 164 = .ok (.iconst 2, 1) := by decide +kernel
theorem dX6_round_165 : decode cX6_round 165 = .ok (.if_icmp .lt 21, 3) := by decide +kernel
theorem dX6_round_168 : decode cX6_round 168 = .ok (.iload_n 0, 1) := by decide +kernel
theorem dX6_round_169 : decode cX6_round 169 = .ok (.iconst 2, 1) := by decide +kernel
theorem dX6_round_170 : decode cX6_round 170 = .ok (.if_icmp .ne 7, 3) := by decide +kernel
theorem dX6_round_173 : decode cX6_round 173 = .ok (.iload_n 1, 1) := by decide +kernel
theorem dX6_round_174 : decode cX6_round 174 = .ok (.ifCond .eq 12, 3) := by decide +kernel
theorem dX6_round_177 : decode cX6_round 177 = .ok (.iload_n 0, 1) := by decide +kernel
theorem dX6_round_178 : decode cX6_round 178 = .ok (.iconst 3, 1) := by decide +kernel
theorem dX6_round_179 : decode cX6_round 179 = .ok (.if_icmp .ne 11, 3) := by decide +kernel
theorem dX6_round_182 : decode cX6_round 182 = .ok (.iload_n 1, 1) := by decide +kernel
theorem dX6_round_183 : decode cX6_round 183 = .ok (.ifCond .eq 7, 3) := by decide +kernel
theorem dX6_round_186 : decode cX6_round 186 = .ok (.iconst 1, 1) := by decide +kernel
theorem dX6_round_187 : decode cX6_round 187 = .ok (.goto 4, 3) := by decide +kernel
theorem dX6_round_190 : decode cX6_round 190 = .ok (.iconst 0, 1) := by decide +kernel
theorem dX6_round_191 : decode cX6_round 191 = .ok (.istore 17, 2) := by decide +kernel
theorem dX6_round_193 : decode cX6_round 193 = .ok (.lload 10, 2) := by decide +kernel
theorem dX6_round_195 : decode cX6_round 195 = .ok (.iload 17, 2) := by decide +kernel
theorem dX6_round_197 : decode cX6_round 197 = .ok (.ifCond .eq 14, 3) := by decide +kernel
theorem dX6_round_200 : decode cX6_round 200 = .ok (.iload 7, 2) := by decide +kernel
theorem dX6_round_202 : decode cX6_round 202 = .ok (.invokestatic 27, 3) := by decide +kernel
theorem dX6_round_205 : decode cX6_round 205 = .ok (.iload 8, 2) := by decide +kernel
theorem dX6_round_207 : decode cX6_round 207 = .ok (.lshl, 1) := by decide +kernel
theorem dX6_round_208 : decode cX6_round 208 = .ok (.goto 19, 3) := by decide +kernel
theorem dX6_round_211 : decode cX6_round 211 = .ok (.iload 7, 2) := by decide +kernel
theorem dX6_round_213 : decode cX6_round 213 = .ok (.invokestatic 27, 3) := by decide +kernel
theorem dX6_round_216 : decode cX6_round 216 = .ok (.lconst 1, 1) := by decide +kernel
theorem dX6_round_217 : decode cX6_round 217 = .ok (.lsub, 1) := by decide +kernel
theorem dX6_round_218 : decode cX6_round 218 = .ok (.iload 8, 2) := by decide +kernel
theorem dX6_round_220 : decode cX6_round 220 = .ok (.lshl, 1) := by decide +kernel
theorem dX6_round_221 : decode cX6_round 221 = .ok (.iload 8, 2) := by decide +kernel
theorem dX6_round_223 : decode cX6_round 223 = .ok (.invokestatic 27, 3) := by decide +kernel
theorem dX6_round_226 : decode cX6_round 226 = .ok (.lor, 1) := by decide +kernel
theorem dX6_round_227 : decode cX6_round 227 = .ok (.lor, 1) := by decide +kernel
theorem dX6_round_228 : decode cX6_round 228 = .ok (.lreturn, 1) := by decide +kernel
theorem dX6_round_229 : decode cX6_round 229 = .ok (.lload 15, 2) := by decide +kernel
theorem dX6_round_231 : decode cX6_round 231 = .ok (.lconst 1, 1) := by decide +kernel
theorem dX6_round_232 : decode cX6_round 232 = .ok (.iload 8, 2) := by decide +kernel
theorem dX6_round_234 : decode cX6_round 234 = .ok (.lshl, 1) := by decide +kernel
theorem dX6_round_235 : decode cX6_round 235 = .ok (.lcmp, 1) := by decide +kernel
theorem dX6_round_236 : decode cX6_round 236 = .ok (.ifCond .ge 11, 3) := by decide +kernel
theorem dX6_round_239 : decode cX6_round 239 = .ok (.lload 10, 2) := by decide +kernel
theorem dX6_round_241 : decode cX6_round 241 = .ok (.lload 15, 2) := by decide +kernel
theorem dX6_round_243 : decode cX6_round 243 = .ok (.lor, 1) := by decide +kernel
theorem dX6_round_244 : decode cX6_round 244 = .ok (.goto 27, 3) := by decide +kernel
theorem dX6_round_247 : decode cX6_round 247 = .ok (.lload 10, 2) := by decide +kernel
theorem dX6_round_249 : decode cX6_round 249 = .ok (.iload 14, 2) := by decide +kernel
theorem dX6_round_251 : decode cX6_round 251 = .ok (.iload 8, 2) := by decide +kernel
theorem dX6_round_253 : decode cX6_round 253 = .ok (.iadd, 1) := by decide +kernel
theorem dX6_round_254 : decode cX6_round 254 = .ok (.iload 9, 2) := by decide +kernel
theorem dX6_round_256 : decode cX6_round 256 = .ok (.iadd, 1) := by decide +kernel
theorem dX6_round_257 : decode cX6_round 257 = .ok (.i2l, 1) := by decide +kernel
theorem dX6_round_258 : decode cX6_round 258 = .ok (.iload 8, 2) := by decide +kernel
theorem dX6_round_260 : decode cX6_round 260 = .ok (.lshl, 1) := by decide +kernel
theorem dX6_round_261 : decode cX6_round 261 = .ok (.lor, 1) := by decide +kernel
theorem dX6_round_262 : decode cX6_round 262 = .ok (.lload 15, 2) := by decide +kernel
theorem dX6_round_264 : decode cX6_round 264 = .ok (.iload 8, 2) := by decide +kernel
theorem dX6_round_266 : decode cX6_round 266 = .ok (.invokestatic 27, 3) := by decide +kernel
theorem dX6_round_269 : decode cX6_round 269 = .ok (.land, 1) := by decide +kernel
theorem dX6_round_270 : decode cX6_round 270 = .ok (.lor, 1) := by decide +kernel
theorem dX6_round_271 : decode cX6_round 271 = .ok (.lreturn, 1) := by decide +kernel
theorem dJ1_numberOfLeadingZeros_0 : decode cJ1_numberOfLeadingZeros 0 = .ok (.lload_n 0, 1) := by decide +kernel
theorem dJ1_numberOfLeadingZeros_1 : decode cJ1_numberOfLeadingZeros 1 = .ok (.bipush 32, 2) := by decide +kernel
theorem dJ1_numberOfLeadingZeros_3 : decode cJ1_numberOfLeadingZeros 3 = .ok (.lushr, 1) := by decide +kernel
theorem dJ1_numberOfLeadingZeros_4 : decode cJ1_numberOfLeadingZeros 4 = .ok (.l2i, 1) := by decide +kernel
theorem dJ1_numberOfLeadingZeros_5 : decode cJ1_numberOfLeadingZeros 5 = .ok (.istore_n 2, 1) := by decide +kernel
theorem dJ1_numberOfLeadingZeros_6 : decode cJ1_numberOfLeadingZeros 6 = .ok (.iload_n 2, 1) := by decide +kernel
theorem dJ1_numberOfLeadingZeros_7 : decode cJ1_numberOfLeadingZeros 7 = .ok (.ifCond .ne 14, 3) := by decide +kernel
theorem dJ1_numberOfLeadingZeros_10 : decode cJ1_numberOfLeadingZeros 10 = .ok (.bipush 32, 2) := by decide +kernel
theorem dJ1_numberOfLeadingZeros_12 : decode cJ1_numberOfLeadingZeros 12 = .ok (.lload_n 0, 1) := by decide +kernel
theorem dJ1_numberOfLeadingZeros_13 : decode cJ1_numberOfLeadingZeros 13 = .ok (.l2i, 1) := by decide +kernel
theorem dJ1_numberOfLeadingZeros_14 : decode cJ1_numberOfLeadingZeros 14 = .ok (.invokestatic 308, 3) := by decide +kernel
theorem dJ1_numberOfLeadingZeros_17 : decode cJ1_numberOfLeadingZeros 17 = .ok (.iadd, 1) := by decide +kernel
theorem dJ1_numberOfLeadingZeros_18 : decode cJ1_numberOfLeadingZeros 18 = .ok (.goto 7, 3) := by decide +kernel
theorem dJ1_numberOfLeadingZeros_21 : decode cJ1_numberOfLeadingZeros 21 = .ok (.iload_n 2, 1) := by decide +kernel
theorem dJ1_numberOfLeadingZeros_22 : decode cJ1_numberOfLeadingZeros 22 = .ok (.invokestatic 308, 3) := by decide +kernel
theorem dJ1_numberOfLeadingZeros_25 : decode cJ1_numberOfLeadingZeros 25 = .ok (.ireturn, 1) := by decide +kernel
theorem dJ0_numberOfLeadingZeros_0 : decode cJ0_numberOfLeadingZeros 0 = .ok (.iload_n 0, 1) := by decide +kernel
theorem dJ0_numberOfLeadingZeros_1 : decode cJ0_numberOfLeadingZeros 1 = .ok (.ifCond .gt 14, 3) := by decide +kernel
theorem dJ0_numberOfLeadingZeros_4 : decode cJ0_numberOfLeadingZeros 4 = .ok (.iload_n 0, 1) := by decide +kernel
theorem dJ0_numberOfLeadingZeros_5 : decode cJ0_numberOfLeadingZeros 5 = .ok (.ifCond .ne 8, 3) := by decide +kernel
theorem dJ0_numberOfLeadingZeros_8 : decode cJ0_numberOfLeadingZeros 8 = .ok (.bipush 32, 2) := by decide +kernel
theorem dJ0_numberOfLeadingZeros_10 : decode cJ0_numberOfLeadingZeros 10 = .ok (.goto 4, 3) := by decide +kernel
theorem dJ0_numberOfLeadingZeros_13 : decode cJ0_numberOfLeadingZeros 13 = .ok (.iconst 0, 1) := by decide +kernel
theorem dJ0_numberOfLeadingZeros_14 : decode cJ0_numberOfLeadingZeros 14 = .ok (.ireturn, 1) := by decide +kernel
theorem dJ0_numberOfLeadingZeros_15 : decode cJ0_numberOfLeadingZeros 15 = .ok (.bipush 31, 2) := by decide +kernel
theorem dJ0_numberOfLeadingZeros_17 : decode cJ0_numberOfLeadingZeros 17 = .ok (.istore_n 1, 1) := by decide +kernel
theorem dJ0_numberOfLeadingZeros_18 : decode cJ0_numberOfLeadingZeros 18 = .ok (.iload_n 0, 1) := by decide +kernel
theorem dJ0_numberOfLeadingZeros_19 : decode cJ0_numberOfLeadingZeros 19 = .ok (.ldc_w 264, 3) := by decide +kernel
theorem dJ0_numberOfLeadingZeros_22 : decode cJ0_numberOfLeadingZeros 22 = .ok (.if_icmp .lt 11, 3) := by decide +kernel
theorem dJ0_numberOfLeadingZeros_25 : decode cJ0_numberOfLeadingZeros 25 = .ok (.iinc 1 (-16), 3) := by decide +kernel
theorem dJ0_numberOfLeadingZeros_28 : decode cJ0_numberOfLeadingZeros 28 = .ok (.iload_n 0, 1) := by decide +kernel
theorem dJ0_numberOfLeadingZeros_29 : decode cJ0_numberOfLeadingZeros 29 = .ok (.bipush 16, 2) := by decide +kernel
theorem dJ0_numberOfLeadingZeros_31 : decode cJ0_numberOfLeadingZeros 31 = .ok (.iushr, 1) := by decide +kernel
theorem dJ0_numberOfLeadingZeros_32 : decode cJ0_numberOfLeadingZeros 32 = .ok (.istore_n 0, 1) := by decide +kernel
theorem dJ0_numberOfLeadingZeros_33 : decode cJ0_numberOfLeadingZeros 33 = .ok (.iload_n 0, 1) := by decide +kernel
theorem dJ0_numberOfLeadingZeros_34 : decode cJ0_numberOfLeadingZeros 34 = .ok (.sipush 256, 3) := by decide +kernel
theorem dJ0_numberOfLeadingZeros_37 : decode cJ0_numberOfLeadingZeros 37 = .ok (.if_icmp .lt 11, 3) := by decide +kernel
theorem dJ0_numberOfLeadingZeros_40 : decode cJ0_numberOfLeadingZeros 40 = .ok (.iinc 1 (-8), 3) := by decide +kernel
theorem dJ0_numberOfLeadingZeros_43 : decode cJ0_numberOfLeadingZeros 43 = .ok (.iload_n 0, 1) := by decide +kernel
theorem dJ0_numberOfLeadingZeros_44 : decode cJ0_numberOfLeadingZeros 44 = .ok (.bipush 8, 2) := by decide +kernel
theorem dJ0_numberOfLeadingZeros_46 : decode cJ0_numberOfLeadingZeros 46 = .ok (.iushr, 1) := by decide +kernel
theorem dJ0_numberOfLeadingZeros_47 : decode cJ0_numberOfLeadingZeros 47 = .ok (.istore_n 0, 1) := by decide +kernel
theorem dJ0_numberOfLeadingZeros_48 : decode cJ0_numberOfLeadingZeros 48 = .ok (.iload_n 0, 1) := by decide +kernel
theorem dJ0_numberOfLeadingZeros_49 : decode cJ0_numberOfLeadingZeros 49 = .ok (.bipush 16, 2) := by decide +kernel
theorem dJ0_numberOfLeadingZeros_51 : decode cJ0_numberOfLeadingZeros 51 = .ok (.if_icmp .lt 10, 3) := by decide +kernel
theorem dJ0_numberOfLeadingZeros_54 : decode cJ0_numberOfLeadingZeros 54 = .ok (.iinc 1 (-4), 3) := by decide +kernel
theorem dJ0_numberOfLeadingZeros_57 : decode cJ0_numberOfLeadingZeros 57 = .ok (.iload_n 0, 1) := by decide +kernel
theorem dJ0_numberOfLeadingZeros_58 : decode cJ0_numberOfLeadingZeros 58 = .ok (.iconst 4, 1) := by decide +kernel
theorem dJ0_numberOfLeadingZeros_59 : decode cJ0_numberOfLeadingZeros 59 = .ok (.iushr, 1) := by decide +kernel
theorem dJ0_numberOfLeadingZeros_60 : decode cJ0_numberOfLeadingZeros 60 = .ok (.istore_n 0, 1) := by decide +kernel
theorem dJ0_numberOfLeadingZeros_61 : decode cJ0_numberOfLeadingZeros 61 = .ok (.iload_n 0, 1) := by decide +kernel
theorem dJ0_numberOfLeadingZeros_62 : decode cJ0_numberOfLeadingZeros 62 = .ok (.iconst 4, 1) := by decide +kernel
theorem dJ0_numberOfLeadingZeros_63 : decode cJ0_numberOfLeadingZeros 63 = .ok (.if_icmp .lt 10, 3) := by decide +kernel
theorem dJ0_numberOfLeadingZeros_66 : decode cJ0_numberOfLeadingZeros 66 = .ok (.iinc 1 (-2), 3) := by decide +kernel
theorem dJ0_numberOfLeadingZeros_69 : decode cJ0_numberOfLeadingZeros 69 = .ok (.iload_n 0, 1) := by decide +kernel
theorem dJ0_numberOfLeadingZeros_70 : decode cJ0_numberOfLeadingZeros 70 = .ok (.iconst 2, 1) := by decide +kernel
theorem dJ0_numberOfLeadingZeros_71 : decode cJ0_numberOfLeadingZeros 71 = .ok (.iushr, 1) := by decide +kernel
theorem dJ0_numberOfLeadingZeros_72 : decode cJ0_numberOfLeadingZeros 72 = .ok (.istore_n 0, 1) := by decide +kernel
theorem dJ0_numberOfLeadingZeros_73 : decode cJ0_numberOfLeadingZeros 73 = .ok (.iload_n 1, 1) := by decide +kernel
theorem dJ0_numberOfLeadingZeros_74 : decode cJ0_numberOfLeadingZeros 74 = .ok (.iload_n 0, 1) := by decide +kernel
theorem dJ0_numberOfLeadingZeros_75 : decode cJ0_numberOfLeadingZeros 75 = .ok (.iconst 1, 1) := by decide +kernel
theorem dJ0_numberOfLeadingZeros_76 : decode cJ0_numberOfLeadingZeros 76 = .ok (.iushr, 1) := by decide +kernel
theorem dJ0_numberOfLeadingZeros_77 : decode cJ0_numberOfLeadingZeros 77 = .ok (.isub, 1) := by decide +kernel
theorem dJ0_numberOfLeadingZeros_78 : decode cJ0_numberOfLeadingZeros 78 = .ok (.ireturn, 1) := by decide +kernel
theorem dX6_cut_0 : decode cX6_cut 0 = .ok (.iload_n 2, 1) := by decide +kernel
theorem dX6_cut_1 : decode cX6_cut 1 = .ok (.ifCond .gt 8, 3) := by decide +kernel
theorem dX6_cut_4 : decode cX6_cut 4 = .ok (.lload_n 0, 1) := by decide +kernel
theorem dX6_cut_5 : decode cX6_cut 5 = .ok (.iload_n 2, 1) := by decide +kernel
theorem dX6_cut_6 : decode cX6_cut 6 = .ok (.ineg, 1) := by decide +kernel
theorem dX6_cut_7 : decode cX6_cut 7 = .ok (.lshl, 1) := by decide +kernel
theorem dX6_cut_8 : decode cX6_cut 8 = .ok (.lreturn, 1) := by decide +kernel
theorem dX6_cut_9 : decode cX6_cut 9 = .ok (.iload_n 2, 1) := by decide +kernel
theorem dX6_cut_10 : decode cX6_cut 10 = .ok (.bipush 62, 2) := by decide +kernel
theorem dX6_cut_12 : decode cX6_cut 12 = .ok (.if_icmp .le 7, 3) := by decide +kernel
theorem dX6_cut_15 : decode cX6_cut 15 = .ok (.lconst 0, 1) := by decide +kernel
theorem dX6_cut_16 : decode cX6_cut 16 = .ok (.goto 6, 3) := by decide +kernel
theorem dX6_cut_19 : decode cX6_cut 19 = .ok (.lload_n 0, 1) := by decide +kernel
theorem dX6_cut_20 : decode cX6_cut 20 = .ok (.iload_n 2, 1) := by decide +kernel
theorem dX6_cut_21 : decode cX6_cut 21 = .ok (.lushr, 1) := by decide +kernel
theorem dX6_cut_22 : decode cX6_cut 22 = .ok (.lstore 6, 2) := by decide +kernel
theorem dX6_cut_24 : decode cX6_cut 24 = .ok (.iload_n 2, 1) := by decide +kernel
theorem dX6_cut_25 : decode cX6_cut 25 = .ok (.bipush 62, 2) := by decide +kernel
theorem dX6_cut_27 : decode cX6_cut 27 = .ok (.if_icmp .le 7, 3) := by decide +kernel
theorem dX6_cut_30 : decode cX6_cut 30 = .ok (.lload_n 0, 1) := by decide +kernel
theorem dX6_cut_31 : decode cX6_cut 31 = .ok (.goto 9, 3) := by decide +kernel
theorem dX6_cut_34 : decode cX6_cut 34 = .ok (.lload_n 0, 1) := by decide +kernel
theorem dX6_cut_35 : decode cX6_cut 35 = .ok (.iload_n 2, 1) := by decide +kernel
theorem dX6_cut_36 : decode cX6_cut 36 = .ok (.invokestatic 27, 3) := by decide +kernel
theorem dX6_cut_39 : decode cX6_cut 39 = .ok (.land, 1) := by decide +kernel
theorem dX6_cut_40 : decode cX6_cut 40 = .ok (.lstore 8, 2) := by decide +kernel
theorem dX6_cut_42 : decode cX6_cut 42 = .ok (.iload_n 2, 1) := by decide +kernel
theorem dX6_cut_43 : decode cX6_cut 43 = .ok (.bipush 62, 2) := by decide +kernel
theorem dX6_cut_45 : decode cX6_cut 45 = .ok (.if_icmp .le 22, 3) := by decide +kernel
theorem dX6_cut_48 : decode cX6_cut 48 = .ok (.lload_n 0, 1) := by decide +kernel
theorem dX6_cut_49 : decode cX6_cut 49 = .ok (.lconst 0, 1) := by decide +kernel
theorem dX6_cut_50 : decode cX6_cut 50 = .ok (.lcmp, 1) := by decide +kernel
theorem dX6_cut_51 : decode cX6_cut 51 = .ok (.ifCond .ne 12, 3) := by decide +kernel
theorem dX6_cut_54 : decode cX6_cut 54 = .ok (.iload_n 3, 1) := by decide +kernel
theorem dX6_cut_55 : decode cX6_cut 55 = .ok (.ifCond .ne 8, 3) := by decide +kernel
theorem dX6_cut_58 : decode cX6_cut 58 = .ok (.bipush (-2), 2) := by decide +kernel
theorem dX6_cut_60 : decode cX6_cut 60 = .ok (.goto 46, 3) := by decide +kernel
theorem dX6_cut_63 : decode cX6_cut 63 = .ok (.iconst (-1), 1) := by decide +kernel
theorem dX6_cut_64 : decode cX6_cut 64 = .ok (.goto 42, 3) := by decide +kernel
theorem dX6_cut_67 : decode cX6_cut 67 = .ok (.lload 8, 2) := by decide +kernel
theorem dX6_cut_69 : decode cX6_cut 69 = .ok (.lconst 1, 1) := by decide +kernel
theorem dX6_cut_70 : decode cX6_cut 70 = .ok (.iload_n 2, 1) := by decide +kernel
theorem dX6_cut_71 : decode cX6_cut 71 = .ok (.iconst 1, 1) := by decide +kernel
theorem dX6_cut_72 : decode cX6_cut 72 = .ok (.isub, 1) := by decide +kernel
theorem dX6_cut_73 : decode cX6_cut 73 = .ok (.lshl, 1) := by decide +kernel
theorem dX6_cut_74 : decode cX6_cut 74 = .ok (.lcmp, 1) := by decide +kernel
theorem dX6_cut_75 : decode cX6_cut 75 = .ok (.ifCond .ne 15, 3) := by decide +kernel
theorem dX6_cut_78 : decode cX6_cut 78 = .ok (.iload_n 3, 1) := by decide +kernel
theorem dX6_cut_79 : decode cX6_cut 79 = .ok (.ifCond .eq 7, 3) := by decide +kernel
theorem dX6_cut_82 : decode cX6_cut 82 = .ok (.iconst 1, 1) := by decide +kernel
theorem dX6_cut_83 : decode cX6_cut 83 = .ok (.goto 23, 3) := by decide +kernel
theorem dX6_cut_86 : decode cX6_cut 86 = .ok (.iconst 0, 1) := by decide +kernel
theorem dX6_cut_87 : decode cX6_cut 87 = .ok (.goto 19, 3) := by decide +kernel
theorem dX6_cut_90 : decode cX6_cut 90 = .ok (.lload 8, 2) := by decide +kernel
theorem dX6_cut_92 : decode cX6_cut 92 = .ok (.lconst 1, 1) := by decide +kernel
theorem dX6_cut_93 : decode cX6_cut 93 = .ok (.iload_n 2, 1) := by decide +kernel
theorem dX6_cut_94 : decode cX6_cut 94 = .ok (.iconst 1, 1) := by decide +kernel
theorem dX6_cut_95 : decode cX6_cut 95 = .ok (.isub, 1) := by decide +kernel
theorem dX6_cut_96 : decode cX6_cut 96 = .ok (.lshl, 1) := by decide +kernel
theorem dX6_cut_97 : decode cX6_cut 97 = .ok (.lcmp, 1) := by decide +kernel
theorem dX6_cut_98 : decode cX6_cut 98 = .ok (.ifCond .le 7, 3) := by decide +kernel
theorem dX6_cut_101 : decode cX6_cut 101 = .ok (.iconst 1, 1) := by decide +kernel
theorem dX6_cut_102 : decode cX6_cut 102 = .ok (.goto 4, 3) := by decide +kernel
theorem dX6_cut_105 : decode cX6_cut 105 = .ok (.iconst (-1), 1) := by decide +kernel
theorem dX6_cut_106 : decode cX6_cut 106 = .ok (.istore 10, 2) := by decide +kernel
theorem dX6_cut_108 : decode cX6_cut 108 = .ok (.lload 8, 2) := by decide +kernel
theorem dX6_cut_110 : decode cX6_cut 110 = .ok (.lconst 0, 1) := by decide +kernel
theorem dX6_cut_111 : decode cX6_cut 111 = .ok (.lcmp, 1) := by decide +kernel
theorem dX6_cut_112 : decode cX6_cut 112 = .ok (.ifCond .ne 7, 3) := by decide +kernel
theorem dX6_cut_115 : decode cX6_cut 115 = .ok (.iload_n 3, 1) := by decide +kernel
