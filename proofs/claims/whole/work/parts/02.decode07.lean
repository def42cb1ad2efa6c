theorem dX6_order_76 : decode cX6_order 76 = .ok (.aload_n 0, 1) := by decide +kernel
theorem dX6_order_77 : decode cX6_order 77 = .ok (.getfield 85, 3) := by decide +kernel
theorem dX6_order_80 : decode cX6_order 80 = .ok (.ifCond .ne 7, 3) := by decide +kernel
theorem dX6_order_83 : decode cX6_order 83 = .ok (.lconst 0, 1) := by decide +kernel
theorem dX6_order_84 : decode cX6_order 84 = .ok (.goto 28, 3) := by decide +kernel
theorem dX6_order_87 : decode cX6_order 87 = .ok (.aload_n 0, 1) := by decide +kernel
theorem dX6_order_88 : decode cX6_order 88 = .ok (.getfield 88, 3) := by decide +kernel
theorem dX6_order_91 : decode cX6_order 91 = .ok (.ifCond .eq 20, 3) := by decide +kernel
theorem dX6_order_94 : decode cX6_order 94 = .ok (.lconst 0, 1) := by decide +kernel
theorem dX6_order_95 : decode cX6_order 95 = .ok (.lload_n 3, 1) := by decide +kernel
theorem dX6_order_96 : decode cX6_order 96 = .ok (.iload 5, 2) := by decide +kernel
theorem dX6_order_98 : decode cX6_order 98 = .ok (.invokestatic 31, 3) := by decide +kernel
theorem dX6_order_101 : decode cX6_order 101 = .ok (.iconst 1, 1) := by decide +kernel
theorem dX6_order_102 : decode cX6_order 102 = .ok (.isub, 1) := by decide +kernel
theorem dX6_order_103 : decode cX6_order 103 = .ok (.invokestatic 27, 3) := by decide +kernel
theorem dX6_order_106 : decode cX6_order 106 = .ok (.land, 1) := by decide +kernel
theorem dX6_order_107 : decode cX6_order 107 = .ok (.lsub, 1) := by decide +kernel
theorem dX6_order_108 : decode cX6_order 108 = .ok (.goto 4, 3) := by decide +kernel
theorem dX6_order_111 : decode cX6_order 111 = .ok (.lload_n 3, 1) := by decide +kernel
theorem dX6_order_112 : decode cX6_order 112 = .ok (.lstore 9, 2) := by decide +kernel
theorem dX6_order_114 : decode cX6_order 114 = .ok (.iload 6, 2) := by decide +kernel
theorem dX6_order_116 : decode cX6_order 116 = .ok (.ifCond .ne 10, 3) := by decide +kernel
theorem dX6_order_119 : decode cX6_order 119 = .ok (.aload_n 0, 1) := by decide +kernel
theorem dX6_order_120 : decode cX6_order 120 = .ok (.getfield 64, 3) := by decide +kernel
theorem dX6_order_123 : decode cX6_order 123 = .ok (.ifCond .eq 7, 3) := by decide +kernel
theorem dX6_order_126 : decode cX6_order 126 = .ok (.iconst 2, 1) := by decide +kernel
theorem dX6_order_127 : decode cX6_order 127 = .ok (.goto 28, 3) := by decide +kernel
theorem dX6_order_130 : decode cX6_order 130 = .ok (.lload 7, 2) := by decide +kernel
theorem dX6_order_132 : decode cX6_order 132 = .ok (.lload 9, 2) := by decide +kernel
theorem dX6_order_134 : decode cX6_order 134 = .ok (.lcmp, 1) := by decide +kernel
theorem dX6_order_135 : decode cX6_order 135 = .ok (.ifCond .ge 7, 3) := by decide +kernel
theorem dX6_order_138 : decode cX6_order 138 = .ok (.iconst (-1), 1) := by decide +kernel
theorem dX6_order_139 : decode cX6_order 139 = .ok (.goto 16, 3) := by decide +kernel
theorem dX6_order_142 : decode cX6_order 142 = .ok (.lload 7, 2) := by decide +kernel
theorem dX6_order_144 : decode cX6_order 144 = .ok (.lload 9, 2) := by decide +kernel
theorem dX6_order_146 : decode cX6_order 146 = .ok (.lcmp, 1) := by decide +kernel
theorem dX6_order_147 : decode cX6_order 147 = .ok (.ifCond .le 7, 3) := by decide +kernel
theorem dX6_order_150 : decode cX6_order 150 = .ok (.iconst 1, 1) := by decide +kernel
theorem dX6_order_151 : decode cX6_order 151 = .ok (.goto 4, 3) := by decide +kernel
theorem dX6_order_154 : decode cX6_order 154 = .ok (.iconst 0, 1) := by decide +kernel
theorem dX6_order_155 : decode cX6_order 155 = .ok (.ireturn, 1) := by decide +kernel
theorem dX6_compare_0 : decode cX6_compare 0 = .ok (.aload_n 0, 1) := by decide +kernel
theorem dX6_compare_1 : decode cX6_compare 1 = .ok (.iload_n 1, 1) := by decide +kernel
theorem dX6_compare_2 : decode cX6_compare 2 = .ok (.iconst 0, 1) := by decide +kernel
theorem dX6_compare_3 : decode cX6_compare 3 = .ok (.iconst 3, 1) := by decide +kernel
theorem dX6_compare_4 : decode cX6_compare 4 = .ok (.invokestatic 16, 3) := by decide +kernel
theorem dX6_compare_7 : decode cX6_compare 7 = .ok (.ifCond .eq 31, 3) := by decide +kernel
theorem dX6_compare_10 : decode cX6_compare 10 = .ok (.aload_n 0, 1) := by decide +kernel
theorem dX6_compare_11 : decode cX6_compare 11 = .ok (.iload_n 2, 1) := by decide +kernel
theorem dX6_compare_12 : decode cX6_compare 12 = .ok (.aload_n 0, 1) := by decide +kernel
theorem dX6_compare_13 : decode cX6_compare 13 = .ok (.getfield 7, 3) := by decide +kernel
theorem dX6_compare_16 : decode cX6_compare 16 = .ok (.invokevirtual 42, 3) := by decide +kernel
theorem dX6_compare_19 : decode cX6_compare 19 = .ok (.ifCond .eq 19, 3) := by decide +kernel
theorem dX6_compare_22 : decode cX6_compare 22 = .ok (.aload_n 0, 1) := by decide +kernel
theorem dX6_compare_23 : decode cX6_compare 23 = .ok (.iload_n 3, 1) := by decide +kernel
theorem dX6_compare_24 : decode cX6_compare 24 = .ok (.aload_n 0, 1) := by decide +kernel
theorem dX6_compare_25 : decode cX6_compare 25 = .ok (.getfield 7, 3) := by decide +kernel
theorem dX6_compare_28 : decode cX6_compare 28 = .ok (.invokevirtual 42, 3) := by decide +kernel
theorem dX6_compare_31 : decode cX6_compare 31 = .ok (.ifCond .eq 7, 3) := by decide +kernel
theorem dX6_compare_34 : decode cX6_compare 34 = .ok (.iconst 1, 1) := by decide +kernel
theorem dX6_compare_35 : decode cX6_compare 35 = .ok (.goto 4, 3) := by decide +kernel
theorem dX6_compare_38 : decode cX6_compare 38 = .ok (.iconst 0, 1) := by decide +kernel
theorem dX6_compare_39 : decode cX6_compare 39 = .ok (.invokevirtual 38, 3) := by decide +kernel
theorem dX6_compare_42 : decode cX6_compare 42 = .ok (.ifCond .ne 5, 3) := by decide +kernel
theorem dX6_compare_45 : decode cX6_compare 45 = .ok (.iconst 0, 1) := by decide +kernel
theorem dX6_compare_46 : decode cX6_compare 46 = .ok (.ireturn, 1) := by decide +kernel
theorem dX6_compare_47 : decode cX6_compare 47 = .ok (.iload_n 1, 1) := by decide +kernel
theorem dX6_compare_48 : decode cX6_compare 48 = .ok (.iconst 3, 1) := by decide +kernel
theorem dX6_compare_49 : decode cX6_compare 49 = .ok (.if_icmp .ne 33, 3) := by decide +kernel
theorem dX6_compare_52 : decode cX6_compare 52 = .ok (.aload_n 0, 1) := by decide +kernel
theorem dX6_compare_53 : decode cX6_compare 53 = .ok (.iload_n 2, 1) := by decide +kernel
theorem dX6_compare_54 : decode cX6_compare 54 = .ok (.i2l, 1) := by decide +kernel
theorem dX6_compare_55 : decode cX6_compare 55 = .ok (.aload_n 0, 1) := by decide +kernel
theorem dX6_compare_56 : decode cX6_compare 56 = .ok (.getfield 7, 3) := by decide +kernel
theorem dX6_compare_59 : decode cX6_compare 59 = .ok (.invokevirtual 49, 3) := by decide +kernel
theorem dX6_compare_62 : decode cX6_compare 62 = .ok (.aload_n 0, 1) := by decide +kernel
theorem dX6_compare_63 : decode cX6_compare 63 = .ok (.iload_n 3, 1) := by decide +kernel
theorem dX6_compare_64 : decode cX6_compare 64 = .ok (.i2l, 1) := by decide +kernel
theorem dX6_compare_65 : decode cX6_compare 65 = .ok (.aload_n 0, 1) := by decide +kernel
theorem dX6_compare_66 : decode cX6_compare 66 = .ok (.getfield 7, 3) := by decide +kernel
theorem dX6_compare_69 : decode cX6_compare 69 = .ok (.invokevirtual 49, 3) := by decide +kernel
theorem dX6_compare_72 : decode cX6_compare 72 = .ok (.lcmp, 1) := by decide +kernel
theorem dX6_compare_73 : decode cX6_compare 73 = .ok (.ifCond .ne 7, 3) := by decide +kernel
theorem dX6_compare_76 : decode cX6_compare 76 = .ok (.iconst 1, 1) := by decide +kernel
theorem dX6_compare_77 : decode cX6_compare 77 = .ok (.goto 4, 3) := by decide +kernel
theorem dX6_compare_80 : decode cX6_compare 80 = .ok (.iconst 0, 1) := by decide +kernel
theorem dX6_compare_81 : decode cX6_compare 81 = .ok (.ireturn, 1) := by decide +kernel
theorem dX6_compare_82 : decode cX6_compare 82 = .ok (.aload_n 0, 1) := by decide +kernel
theorem dX6_compare_83 : decode cX6_compare 83 = .ok (.iload_n 1, 1) := by decide +kernel
theorem dX6_compare_84 : decode cX6_compare 84 = .ok (.ifCond .ne 8, 3) := by decide +kernel
theorem dX6_compare_87 : decode cX6_compare 87 = .ok (.bipush 55, 2) := by decide +kernel
theorem dX6_compare_89 : decode cX6_compare 89 = .ok (.goto 15, 3) := by decide +kernel
theorem dX6_compare_92 : decode cX6_compare 92 = .ok (.iload_n 1, 1) := by decide +kernel
theorem dX6_compare_93 : decode cX6_compare 93 = .ok (.iconst 1, 1) := by decide +kernel
theorem dX6_compare_94 : decode cX6_compare 94 = .ok (.if_icmp .ne 8, 3) := by decide +kernel
theorem dX6_compare_97 : decode cX6_compare 97 = .ok (.bipush 54, 2) := by decide +kernel
theorem dX6_compare_99 : decode cX6_compare 99 = .ok (.goto 5, 3) := by decide +kernel
theorem dX6_compare_102 : decode cX6_compare 102 = .ok (.bipush 58, 2) := by decide +kernel
theorem dX6_compare_104 : decode cX6_compare 104 = .ok (.iload_n 2, 1) := by decide +kernel
theorem dX6_compare_105 : decode cX6_compare 105 = .ok (.i2l, 1) := by decide +kernel
theorem dX6_compare_106 : decode cX6_compare 106 = .ok (.iload_n 3, 1) := by decide +kernel
theorem dX6_compare_107 : decode cX6_compare 107 = .ok (.i2l, 1) := by decide +kernel
theorem dX6_compare_108 : decode cX6_compare 108 = .ok (.aload_n 0, 1) := by decide +kernel
theorem dX6_compare_109 : decode cX6_compare 109 = .ok (.getfield 7, 3) := by decide +kernel
theorem dX6_compare_112 : decode cX6_compare 112 = .ok (.invokevirtual 74, 3) := by decide +kernel
theorem dX6_compare_115 : decode cX6_compare 115 = .ok (.lconst 1, 1) := by decide +kernel
theorem dX6_compare_116 : decode cX6_compare 116 = .ok (.lcmp, 1) := by decide +kernel
theorem dX6_compare_117 : decode cX6_compare 117 = .ok (.ifCond .ne 7, 3) := by decide +kernel
theorem dX6_compare_120 : decode cX6_compare 120 = .ok (.iconst 1, 1) := by decide +kernel
theorem dX6_compare_121 : decode cX6_compare 121 = .ok (.goto 4, 3) := by decide +kernel
theorem dX6_compare_124 : decode cX6_compare 124 = .ok (.iconst 0, 1) := by decide +kernel
theorem dX6_compare_125 : decode cX6_compare 125 = .ok (.ireturn, 1) := by decide +kernel
theorem dX6_compared_0 : decode cX6_compared 0 = .ok (.aload_n 0, 1) := by decide +kernel
theorem dX6_compared_1 : decode cX6_compared 1 = .ok (.lload_n 2, 1) := by decide +kernel
theorem dX6_compared_2 : decode cX6_compared 2 = .ok (.lload 4, 2) := by decide +kernel
theorem dX6_compared_4 : decode cX6_compared 4 = .ok (.iload 6, 2) := by decide +kernel
theorem dX6_compared_6 : decode cX6_compared 6 = .ok (.invokevirtual 121, 3) := by decide +kernel
theorem dX6_compared_9 : decode cX6_compared 9 = .ok (.istore 7, 2) := by decide +kernel
theorem dX6_compared_11 : decode cX6_compared 11 = .ok (.iload 7, 2) := by decide +kernel
theorem dX6_compared_13 : decode cX6_compared 13 = .ok (.iconst 2, 1) := by decide +kernel
theorem dX6_compared_14 : decode cX6_compared 14 = .ok (.if_icmp .eq 68, 3) := by decide +kernel
theorem dX6_compared_17 : decode cX6_compared 17 = .ok (.iload_n 1, 1) := by decide +kernel
theorem dX6_compared_18 : decode cX6_compared 18 = .ok (.bipush 54, 2) := by decide +kernel
theorem dX6_compared_20 : decode cX6_compared 20 = .ok (.if_icmp .ne 11, 3) := by decide +kernel
theorem dX6_compared_23 : decode cX6_compared 23 = .ok (.iload 7, 2) := by decide +kernel
theorem dX6_compared_25 : decode cX6_compared 25 = .ok (.ifCond .gt 57, 3) := by decide +kernel
theorem dX6_compared_28 : decode cX6_compared 28 = .ok (.goto 50, 3) := by decide +kernel
theorem dX6_compared_31 : decode cX6_compared 31 = .ok (.iload_n 1, 1) := by decide +kernel
theorem dX6_compared_32 : decode cX6_compared 32 = .ok (.bipush 55, 2) := by decide +kernel
theorem dX6_compared_34 : decode cX6_compared 34 = .ok (.if_icmp .ne 11, 3) := by decide +kernel
theorem dX6_compared_37 : decode cX6_compared 37 = .ok (.iload 7, 2) := by decide +kernel
theorem dX6_compared_39 : decode cX6_compared 39 = .ok (.ifCond .ge 43, 3) := by decide +kernel
theorem dX6_compared_42 : decode cX6_compared 42 = .ok (.goto 36, 3) := by decide +kernel
theorem dX6_compared_45 : decode cX6_compared 45 = .ok (.iload_n 1, 1) := by decide +kernel
theorem dX6_compared_46 : decode cX6_compared 46 = .ok (.bipush 56, 2) := by decide +kernel
theorem dX6_compared_48 : decode cX6_compared 48 = .ok (.if_icmp .ne 11, 3) := by decide +kernel
theorem dX6_compared_51 : decode cX6_compared 51 = .ok (.iload 7, 2) := by decide +kernel
theorem dX6_compared_53 : decode cX6_compared 53 = .ok (.ifCond .lt 29, 3) := by decide +kernel
theorem dX6_compared_56 : decode cX6_compared 56 = .ok (.goto 22, 3) := by decide +kernel
theorem dX6_compared_59 : decode cX6_compared 59 = .ok (.iload_n 1, 1) := by decide +kernel
theorem dX6_compared_60 : decode cX6_compared 60 = .ok (.bipush 57, 2) := by decide +kernel
theorem dX6_compared_62 : decode cX6_compared 62 = .ok (.if_icmp .ne 11, 3) := by decide +kernel
theorem dX6_compared_65 : decode cX6_compared 65 = .ok (.iload 7, 2) := by decide +kernel
theorem dX6_compared_67 : decode cX6_compared 67 = .ok (.ifCond .le 15, 3) := by decide +kernel
theorem dX6_compared_70 : decode cX6_compared 70 = .ok (.goto 8, 3) := by decide +kernel
theorem dX6_compared_73 : decode cX6_compared 73 = .ok (.iload 7, 2) := by decide +kernel
theorem dX6_compared_75 : decode cX6_compared 75 = .ok (.ifCond .ne 7, 3) := by decide +kernel
theorem dX6_compared_78 : decode cX6_compared 78 = .ok (.iconst 1, 1) := by decide +kernel
theorem dX6_compared_79 : decode cX6_compared 79 = .ok (.goto 4, 3) := by decide +kernel
theorem dX6_compared_82 : decode cX6_compared 82 = .ok (.iconst 0, 1) := by decide +kernel
theorem dX6_compared_83 : decode cX6_compared 83 = .ok (.istore 8, 2) := by decide +kernel
theorem dX6_compared_85 : decode cX6_compared 85 = .ok (.iload 8, 2) := by decide +kernel
theorem dX6_compared_87 : decode cX6_compared 87 = .ok (.ifCond .eq 7, 3) := by decide +kernel
theorem dX6_compared_90 : decode cX6_compared 90 = .ok (.lconst 1, 1) := by decide +kernel
theorem dX6_compared_91 : decode cX6_compared 91 = .ok (.goto 4, 3) := by decide +kernel
theorem dX6_compared_94 : decode cX6_compared 94 = .ok (.lconst 0, 1) := by decide +kernel
theorem dX6_compared_95 : decode cX6_compared 95 = .ok (.lreturn, 1) := by decide +kernel
theorem dX6_is_0 : decode cX6_is 0 = .ok (.aload_n 0, 1) := by decide +kernel
theorem dX6_is_1 : decode cX6_is 1 = .ok (.iload_n 1, 1) := by decide +kernel
theorem dX6_is_2 : decode cX6_is 2 = .ok (.iconst 0, 1) := by decide +kernel
theorem dX6_is_3 : decode cX6_is 3 = .ok (.bipush 6, 2) := by decide +kernel
theorem dX6_is_5 : decode cX6_is 5 = .ok (.invokestatic 16, 3) := by decide +kernel
theorem dX6_is_8 : decode cX6_is 8 = .ok (.ifCond .eq 19, 3) := by decide +kernel
theorem dX6_is_11 : decode cX6_is 11 = .ok (.aload_n 0, 1) := by decide +kernel
theorem dX6_is_12 : decode cX6_is 12 = .ok (.iload_n 2, 1) := by decide +kernel
theorem dX6_is_13 : decode cX6_is 13 = .ok (.aload_n 0, 1) := by decide +kernel
theorem dX6_is_14 : decode cX6_is 14 = .ok (.getfield 7, 3) := by decide +kernel
theorem dX6_is_17 : decode cX6_is 17 = .ok (.invokevirtual 42, 3) := by decide +kernel
theorem dX6_is_20 : decode cX6_is 20 = .ok (.ifCond .eq 7, 3) := by decide +kernel
theorem dX6_is_23 : decode cX6_is 23 = .ok (.iconst 1, 1) := by decide +kernel
theorem dX6_is_24 : decode cX6_is 24 = .ok (.goto 4, 3) := by decide +kernel
theorem dX6_is_27 : decode cX6_is 27 = .ok (.iconst 0, 1) := by decide +kernel
theorem dX6_is_28 : decode cX6_is 28 = .ok (.invokevirtual 38, 3) := by decide +kernel
theorem dX6_is_31 : decode cX6_is 31 = .ok (.ifCond .ne 5, 3) := by decide +kernel
theorem dX6_is_34 : decode cX6_is 34 = .ok (.iconst 0, 1) := by decide +kernel
theorem dX6_is_35 : decode cX6_is 35 = .ok (.ireturn, 1) := by decide +kernel
theorem dX6_is_36 : decode cX6_is 36 = .ok (.aload_n 0, 1) := by decide +kernel
theorem dX6_is_37 : decode cX6_is 37 = .ok (.bipush 59, 2) := by decide +kernel
theorem dX6_is_39 : decode cX6_is 39 = .ok (.iload_n 1, 1) := by decide +kernel
theorem dX6_is_40 : decode cX6_is 40 = .ok (.iadd, 1) := by decide +kernel
theorem dX6_is_41 : decode cX6_is 41 = .ok (.iload_n 2, 1) := by decide +kernel
theorem dX6_is_42 : decode cX6_is 42 = .ok (.i2l, 1) := by decide +kernel
theorem dX6_is_43 : decode cX6_is 43 = .ok (.aload_n 0, 1) := by decide +kernel
theorem dX6_is_44 : decode cX6_is 44 = .ok (.getfield 7, 3) := by decide +kernel
theorem dX6_is_47 : decode cX6_is 47 = .ok (.invokevirtual 78, 3) := by decide +kernel
theorem dX6_is_50 : decode cX6_is 50 = .ok (.lconst 1, 1) := by decide +kernel
theorem dX6_is_51 : decode cX6_is 51 = .ok (.lcmp, 1) := by decide +kernel
theorem dX6_is_52 : decode cX6_is 52 = .ok (.ifCond .ne 7, 3) := by decide +kernel
theorem dX6_is_55 : decode cX6_is 55 = .ok (.iconst 1, 1) := by decide +kernel
theorem dX6_is_56 : decode cX6_is 56 = .ok (.goto 4, 3) := by decide +kernel
theorem dX6_is_59 : decode cX6_is 59 = .ok (.iconst 0, 1) := by decide +kernel
theorem dX6_is_60 : decode cX6_is 60 = .ok (.ireturn, 1) := by decide +kernel
theorem dX6_told_0 : decode cX6_told 0 = .ok (.aload_n 0, 1) := by decide +kernel
theorem dX6_told_1 : decode cX6_told 1 = .ok (.lload_n 2, 1) := by decide +kernel
theorem dX6_told_2 : decode cX6_told 2 = .ok (.iload 4, 2) := by decide +kernel
theorem dX6_told_4 : decode cX6_told 4 = .ok (.invokevirtual 60, 3) := by decide +kernel
theorem dX6_told_7 : decode cX6_told 7 = .ok (.aload_n 0, 1) := by decide +kernel
theorem dX6_told_8 : decode cX6_told 8 = .ok (.getfield 91, 3) := by decide +kernel
theorem dX6_told_11 : decode cX6_told 11 = .ok (.lconst 0, 1) := by decide +kernel
theorem dX6_told_12 : decode cX6_told 12 = .ok (.lcmp, 1) := by decide +kernel
theorem dX6_told_13 : decode cX6_told 13 = .ok (.ifCond .ne 21, 3) := by decide +kernel
theorem dX6_told_16 : decode cX6_told 16 = .ok (.aload_n 0, 1) := by decide +kernel
theorem dX6_told_17 : decode cX6_told 17 = .ok (.getfield 85, 3) := by decide +kernel
theorem dX6_told_20 : decode cX6_told 20 = .ok (.ifCond .ne 14, 3) := by decide +kernel
theorem dX6_told_23 : decode cX6_told 23 = .ok (.aload_n 0, 1) := by decide +kernel
theorem dX6_told_24 : decode cX6_told 24 = .ok (.getfield 64, 3) := by decide +kernel
theorem dX6_told_27 : decode cX6_told 27 = .ok (.ifCond .ne 7, 3) := by decide +kernel
theorem dX6_told_30 : decode cX6_told 30 = .ok (.iconst 1, 1) := by decide +kernel
theorem dX6_told_31 : decode cX6_told 31 = .ok (.goto 4, 3) := by decide +kernel
theorem dX6_told_34 : decode cX6_told 34 = .ok (.iconst 0, 1) := by decide +kernel
theorem dX6_told_35 : decode cX6_told 35 = .ok (.istore 5, 2) := by decide +kernel
theorem dX6_told_37 : decode cX6_told 37 = .ok (.aload_n 0, 1) := by decide +kernel
theorem dX6_told_38 : decode cX6_told 38 = .ok (.getfield 85, 3) := by decide +kernel
theorem dX6_told_41 : decode cX6_told 41 = .ok (.ifCond .ne 31, 3) := by decide +kernel
theorem dX6_told_44 : decode cX6_told 44 = .ok (.aload_n 0, 1) := by decide +kernel
theorem dX6_told_45 : decode cX6_told 45 = .ok (.getfield 64, 3) := by decide +kernel
theorem dX6_told_48 : decode cX6_told 48 = .ok (.ifCond .ne 24, 3) := by decide +kernel
theorem dX6_told_51 : decode cX6_told 51 = .ok (.aload_n 0, 1) := by decide +kernel
theorem dX6_told_52 : decode cX6_told 52 = .ok (.getfield 91, 3) := by decide +kernel
theorem dX6_told_55 : decode cX6_told 55 = .ok (.iload 4, 2) := by decide +kernel
theorem dX6_told_57 : decode cX6_told 57 = .ok (.invokestatic 24, 3) := by decide +kernel
theorem dX6_told_60 : decode cX6_told 60 = .ok (.iconst 1, 1) := by decide +kernel
theorem dX6_told_61 : decode cX6_told 61 = .ok (.isub, 1) := by decide +kernel
theorem dX6_told_62 : decode cX6_told 62 = .ok (.lushr, 1) := by decide +kernel
theorem dX6_told_63 : decode cX6_told 63 = .ok (.lconst 1, 1) := by decide +kernel
theorem dX6_told_64 : decode cX6_told 64 = .ok (.lcmp, 1) := by decide +kernel
theorem dX6_told_65 : decode cX6_told 65 = .ok (.ifCond .ne 7, 3) := by decide +kernel
theorem dX6_told_68 : decode cX6_told 68 = .ok (.iconst 1, 1) := by decide +kernel
theorem dX6_told_69 : decode cX6_told 69 = .ok (.goto 4, 3) := by decide +kernel
theorem dX6_told_72 : decode cX6_told 72 = .ok (.iconst 0, 1) := by decide +kernel
theorem dX6_told_73 : decode cX6_told 73 = .ok (.istore 6, 2) := by decide +kernel
theorem dX6_told_75 : decode cX6_told 75 = .ok (.iload_n 1, 1) := by decide +kernel
theorem dX6_told_76 : decode cX6_told 76 = .ok (.bipush 59, 2) := by decide +kernel
theorem dX6_told_78 : decode cX6_told 78 = .ok (.if_icmp .ne 8, 3) := by decide +kernel
theorem dX6_told_81 : decode cX6_told 81 = .ok (.iload 6, 2) := by decide +kernel
theorem dX6_told_83 : decode cX6_told 83 = .ok (.goto 125, 3) := by decide +kernel
theorem dX6_told_86 : decode cX6_told 86 = .ok (.iload_n 1, 1) := by decide +kernel
theorem dX6_told_87 : decode cX6_told 87 = .ok (.bipush 60, 2) := by decide +kernel
theorem dX6_told_89 : decode cX6_told 89 = .ok (.if_icmp .ne 35, 3) := by decide +kernel
theorem dX6_told_92 : decode cX6_told 92 = .ok (.iload 6, 2) := by decide +kernel
theorem dX6_told_94 : decode cX6_told 94 = .ok (.ifCond .ne 26, 3) := by decide +kernel
theorem dX6_told_97 : decode cX6_told 97 = .ok (.iload 5, 2) := by decide +kernel
theorem dX6_told_99 : decode cX6_told 99 = .ok (.ifCond .ne 21, 3) := by decide +kernel
theorem dX6_told_102 : decode cX6_told 102 = .ok (.aload_n 0, 1) := by decide +kernel
theorem dX6_told_103 : decode cX6_told 103 = .ok (.getfield 85, 3) := by decide +kernel
theorem dX6_told_106 : decode cX6_told 106 = .ok (.ifCond .ne 14, 3) := by decide +kernel
theorem dX6_told_109 : decode cX6_told 109 = .ok (.aload_n 0, 1) := by decide +kernel
theorem dX6_told_110 : decode cX6_told 110 = .ok (.getfield 64, 3) := by decide +kernel
theorem dX6_told_113 : decode cX6_told 113 = .ok (.ifCond .ne 7, 3) := by decide +kernel
theorem dX6_told_116 : decode cX6_told 116 = .ok (.iconst 1, 1) := by decide +kernel
theorem dX6_told_117 : decode cX6_told 117 = .ok (.goto 91, 3) := by decide +kernel
theorem dX6_told_120 : decode cX6_told 120 = .ok (.iconst 0, 1) := by decide +kernel
theorem dX6_told_121 : decode cX6_told 121 = .ok (.goto 87, 3) := by decide +kernel
theorem dX6_told_124 : decode cX6_told 124 = .ok (.iload_n 1, 1) := by decide +kernel
theorem dX6_told_125 : decode cX6_told 125 = .ok (.bipush 61, 2) := by decide +kernel
theorem dX6_told_127 : decode cX6_told 127 = .ok (.if_icmp .ne 8, 3) := by decide +kernel
theorem dX6_told_130 : decode cX6_told 130 = .ok (.iload 5, 2) := by decide +kernel
theorem dX6_told_132 : decode cX6_told 132 = .ok (.goto 76, 3) := by decide +kernel
theorem dX6_told_135 : decode cX6_told 135 = .ok (.iload_n 1, 1) := by decide +kernel
theorem dX6_told_136 : decode cX6_told 136 = .ok (.bipush 62, 2) := by decide +kernel
theorem dX6_told_138 : decode cX6_told 138 = .ok (.if_icmp .ne 10, 3) := by decide +kernel
theorem dX6_told_141 : decode cX6_told 141 = .ok (.aload_n 0, 1) := by decide +kernel
theorem dX6_told_142 : decode cX6_told 142 = .ok (.getfield 85, 3) := by decide +kernel
theorem dX6_told_145 : decode cX6_told 145 = .ok (.goto 63, 3) := by decide +kernel
theorem dX6_told_148 : decode cX6_told 148 = .ok (.iload_n 1, 1) := by decide +kernel
theorem dX6_told_149 : decode cX6_told 149 = .ok (.bipush 63, 2) := by decide +kernel
theorem dX6_told_151 : decode cX6_told 151 = .ok (.if_icmp .ne 10, 3) := by decide +kernel
theorem dX6_told_154 : decode cX6_told 154 = .ok (.aload_n 0, 1) := by decide +kernel
theorem dX6_told_155 : decode cX6_told 155 = .ok (.getfield 64, 3) := by decide +kernel
theorem dX6_told_158 : decode cX6_told 158 = .ok (.goto 50, 3) := by decide +kernel
theorem dX6_told_161 : decode cX6_told 161 = .ok (.iload_n 1, 1) := by decide +kernel
theorem dX6_told_162 : decode cX6_told 162 = .ok (.bipush 64, 2) := by decide +kernel
theorem dX6_told_164 : decode cX6_told 164 = .ok (.if_icmp .ne 25, 3) := by decide +kernel
theorem dX6_told_167 : decode cX6_told 167 = .ok (.aload_n 0, 1) := by decide +kernel
theorem dX6_told_168 : decode cX6_told 168 = .ok (.getfield 88, 3) := by decide +kernel
theorem dX6_told_171 : decode cX6_told 171 = .ok (.ifCond .eq 14, 3) := by decide +kernel
theorem dX6_told_174 : decode cX6_told 174 = .ok (.aload_n 0, 1) := by decide +kernel
theorem dX6_told_175 : decode cX6_told 175 = .ok (.getfield 64, 3) := by decide +kernel
theorem dX6_told_178 : decode cX6_told 178 = .ok (.ifCond .ne 7, 3) := by decide +kernel
theorem dX6_told_181 : decode cX6_told 181 = .ok (.iconst 1, 1) := by decide +kernel
theorem dX6_told_182 : decode cX6_told 182 = .ok (.goto 26, 3) := by decide +kernel
theorem dX6_told_185 : decode cX6_told 185 = .ok (.iconst 0, 1) := by decide +kernel
theorem dX6_told_186 : decode cX6_told 186 = .ok (.goto 22, 3) := by decide +kernel
theorem dX6_told_189 : decode cX6_told 189 = .ok (.aload_n 0, 1) := by decide +kernel
theorem dX6_told_190 : decode cX6_told 190 = .ok (.getfield 88, 3) := by decide +kernel
theorem dX6_told_193 : decode cX6_told 193 = .ok (.ifCond .ne 14, 3) := by decide +kernel
theorem dX6_told_196 : decode cX6_told 196 = .ok (.aload_n 0, 1) := by decide +kernel
theorem dX6_told_197 : decode cX6_told 197 = .ok (.getfield 64, 3) := by decide +kernel
theorem dX6_told_200 : decode cX6_told 200 = .ok (.ifCond .ne 7, 3) := by decide +kernel
theorem dX6_told_203 : decode cX6_told 203 = .ok (.iconst 1, 1) := by decide +kernel
theorem dX6_told_204 : decode cX6_told 204 = .ok (.goto 4, 3) := by decide +kernel
theorem dX6_told_207 : decode cX6_told 207 = .ok (.iconst 0, 1) := by decide +kernel
theorem dX6_told_208 : decode cX6_told 208 = .ok (.istore 7, 2) := by decide +kernel
theorem dX6_told_210 : decode cX6_told 210 = .ok (.iload 7, 2) := by decide +kernel
theorem dX6_told_212 : decode cX6_told 212 = .ok (.ifCond .eq 7, 3) := by decide +kernel
theorem dX6_told_215 : decode cX6_told 215 = .ok (.lconst 1, 1) := by decide +kernel
theorem dX6_told_216 : decode cX6_told 216 = .ok (.goto 4, 3) := by decide +kernel
theorem dX6_told_219 : decode cX6_told 219 = .ok (.lconst 0, 1) := by decide +kernel
theorem dX6_told_220 : decode cX6_told 220 = .ok (.lreturn, 1) := by decide +kernel
theorem dX6_from_0 : decode cX6_from 0 = .ok (.aload_n 0, 1) := by decide +kernel
theorem dX6_from_1 : decode cX6_from 1 = .ok (.iload_n 1, 1) := by decide +kernel
theorem dX6_from_2 : decode cX6_from 2 = .ok (.iload_n 2, 1) := by decide +kernel
theorem dX6_from_3 : decode cX6_from 3 = .ok (.invokestatic 34, 3) := by decide +kernel
theorem dX6_from_6 : decode cX6_from 6 = .ok (.ifCond .eq 35, 3) := by decide +kernel
theorem dX6_from_9 : decode cX6_from 9 = .ok (.iload_n 3, 1) := by decide +kernel
theorem dX6_from_10 : decode cX6_from 10 = .ok (.iconst 0, 1) := by decide +kernel
theorem dX6_from_11 : decode cX6_from 11 = .ok (.iconst 4, 1) := by decide +kernel
theorem dX6_from_12 : decode cX6_from 12 = .ok (.invokestatic 16, 3) := by decide +kernel
theorem dX6_from_15 : decode cX6_from 15 = .ok (.ifCond .eq 26, 3) := by decide +kernel
theorem dX6_from_18 : decode cX6_from 18 = .ok (.aload_n 0, 1) := by decide +kernel
theorem dX6_from_19 : decode cX6_from 19 = .ok (.iload 4, 2) := by decide +kernel
theorem dX6_from_21 : decode cX6_from 21 = .ok (.sipush 1000, 3) := by decide +kernel
theorem dX6_from_24 : decode cX6_from 24 = .ok (.bipush 100, 2) := by decide +kernel
theorem dX6_from_26 : decode cX6_from 26 = .ok (.iload_n 1, 1) := by decide +kernel
theorem dX6_from_27 : decode cX6_from 27 = .ok (.imul, 1) := by decide +kernel
theorem dX6_from_28 : decode cX6_from 28 = .ok (.iadd, 1) := by decide +kernel
theorem dX6_from_29 : decode cX6_from 29 = .ok (.iload_n 2, 1) := by decide +kernel
theorem dX6_from_30 : decode cX6_from 30 = .ok (.iadd, 1) := by decide +kernel
theorem dX6_from_31 : decode cX6_from 31 = .ok (.invokevirtual 42, 3) := by decide +kernel
theorem dX6_from_34 : decode cX6_from 34 = .ok (.ifCond .eq 7, 3) := by decide +kernel
theorem dX6_from_37 : decode cX6_from 37 = .ok (.iconst 1, 1) := by decide +kernel
theorem dX6_from_38 : decode cX6_from 38 = .ok (.goto 4, 3) := by decide +kernel
theorem dX6_from_41 : decode cX6_from 41 = .ok (.iconst 0, 1) := by decide +kernel
theorem dX6_from_42 : decode cX6_from 42 = .ok (.invokevirtual 38, 3) := by decide +kernel
theorem dX6_from_45 : decode cX6_from 45 = .ok (.ifCond .ne 5, 3) := by decide +kernel
theorem dX6_from_48 : decode cX6_from 48 = .ok (.iconst 0, 1) := by decide +kernel
theorem dX6_from_49 : decode cX6_from 49 = .ok (.ireturn, 1) := by decide +kernel
theorem dX6_from_50 : decode cX6_from 50 = .ok (.aload_n 0, 1) := by decide +kernel
theorem dX6_from_51 : decode cX6_from 51 = .ok (.iload 4, 2) := by decide +kernel
theorem dX6_from_53 : decode cX6_from 53 = .ok (.i2l, 1) := by decide +kernel
theorem dX6_from_54 : decode cX6_from 54 = .ok (.sipush 1000, 3) := by decide +kernel
theorem dX6_from_57 : decode cX6_from 57 = .ok (.bipush 100, 2) := by decide +kernel
theorem dX6_from_59 : decode cX6_from 59 = .ok (.iload_n 1, 1) := by decide +kernel
theorem dX6_from_60 : decode cX6_from 60 = .ok (.imul, 1) := by decide +kernel
theorem dX6_from_61 : decode cX6_from 61 = .ok (.iadd, 1) := by decide +kernel
theorem dX6_from_62 : decode cX6_from 62 = .ok (.iload_n 2, 1) := by decide +kernel
theorem dX6_from_63 : decode cX6_from 63 = .ok (.iadd, 1) := by decide +kernel
theorem dX6_from_64 : decode cX6_from 64 = .ok (.invokevirtual 60, 3) := by decide +kernel
theorem dX6_from_67 : decode cX6_from 67 = .ok (.aload_n 0, 1) := by decide +kernel
theorem dX6_from_68 : decode cX6_from 68 = .ok (.getfield 7, 3) := by decide +kernel
theorem dX6_from_71 : decode cX6_from 71 = .ok (.invokestatic 20, 3) := by decide +kernel
theorem dX6_from_74 : decode cX6_from 74 = .ok (.istore 5, 2) := by decide +kernel
theorem dX6_from_76 : decode cX6_from 76 = .ok (.aload_n 0, 1) := by decide +kernel
theorem dX6_from_77 : decode cX6_from 77 = .ok (.getfield 7, 3) := by decide +kernel
theorem dX6_from_80 : decode cX6_from 80 = .ok (.invokestatic 24, 3) := by decide +kernel
theorem dX6_from_83 : decode cX6_from 83 = .ok (.istore 6, 2) := by decide +kernel
theorem dX6_from_85 : decode cX6_from 85 = .ok (.aload_n 0, 1) := by decide +kernel
theorem dX6_from_86 : decode cX6_from 86 = .ok (.getfield 64, 3) := by decide +kernel
theorem dX6_from_89 : decode cX6_from 89 = .ok (.ifCond .eq 12, 3) := by decide +kernel
theorem dX6_from_92 : decode cX6_from 92 = .ok (.iload 5, 2) := by decide +kernel
theorem dX6_from_94 : decode cX6_from 94 = .ok (.iload 6, 2) := by decide +kernel
theorem dX6_from_96 : decode cX6_from 96 = .ok (.invokestatic 81, 3) := by decide +kernel
theorem dX6_from_99 : decode cX6_from 99 = .ok (.l2i, 1) := by decide +kernel
theorem dX6_from_100 : decode cX6_from 100 = .ok (.ireturn, 1) := by decide +kernel
theorem dX6_from_101 : decode cX6_from 101 = .ok (.aload_n 0, 1) := by decide +kernel
theorem dX6_from_102 : decode cX6_from 102 = .ok (.getfield 85, 3) := by decide +kernel
theorem dX6_from_105 : decode cX6_from 105 = .ok (.ifCond .eq 36, 3) := by decide +kernel
theorem dX6_from_108 : decode cX6_from 108 = .ok (.iload 5, 2) := by decide +kernel
theorem dX6_from_110 : decode cX6_from 110 = .ok (.invokestatic 27, 3) := by decide +kernel
theorem dX6_from_113 : decode cX6_from 113 = .ok (.iload 6, 2) := by decide +kernel
theorem dX6_from_115 : decode cX6_from 115 = .ok (.iconst 1, 1) := by decide +kernel
theorem dX6_from_116 : decode cX6_from 116 = .ok (.isub, 1) := by decide +kernel
theorem dX6_from_117 : decode cX6_from 117 = .ok (.lshl, 1) := by decide +kernel
theorem dX6_from_118 : decode cX6_from 118 = .ok (.aload_n 0, 1) := by decide +kernel
theorem dX6_from_119 : decode cX6_from 119 = .ok (.getfield 88, 3) := by decide +kernel
theorem dX6_from_122 : decode cX6_from 122 = .ok (.ifCond .eq 15, 3) := by decide +kernel
theorem dX6_from_125 : decode cX6_from 125 = .ok (.lconst 1, 1) := by decide +kernel
theorem dX6_from_126 : decode cX6_from 126 = .ok (.iload 5, 2) := by decide +kernel
theorem dX6_from_128 : decode cX6_from 128 = .ok (.iload 6, 2) := by decide +kernel
theorem dX6_from_130 : decode cX6_from 130 = .ok (.iadd, 1) := by decide +kernel
theorem dX6_from_131 : decode cX6_from 131 = .ok (.iconst 1, 1) := by decide +kernel
theorem dX6_from_132 : decode cX6_from 132 = .ok (.isub, 1) := by decide +kernel
theorem dX6_from_133 : decode cX6_from 133 = .ok (.lshl, 1) := by decide +kernel
theorem dX6_from_134 : decode cX6_from 134 = .ok (.goto 4, 3) := by decide +kernel
theorem dX6_from_137 : decode cX6_from 137 = .ok (.lconst 0, 1) := by decide +kernel
theorem dX6_from_138 : decode cX6_from 138 = .ok (.lor, 1) := by decide +kernel
theorem dX6_from_139 : decode cX6_from 139 = .ok (.l2i, 1) := by decide +kernel
theorem dX6_from_140 : decode cX6_from 140 = .ok (.ireturn, 1) := by decide +kernel
theorem dX6_from_141 : decode cX6_from 141 = .ok (.iload_n 3, 1) := by decide +kernel
theorem dX6_from_142 : decode cX6_from 142 = .ok (.aload_n 0, 1) := by decide +kernel
theorem dX6_from_143 : decode cX6_from 143 = .ok (.getfield 88, 3) := by decide +kernel
theorem dX6_from_146 : decode cX6_from 146 = .ok (.aload_n 0, 1) := by decide +kernel
theorem dX6_from_147 : decode cX6_from 147 = .ok (.getfield 91, 3) := by decide +kernel
theorem dX6_from_150 : decode cX6_from 150 = .ok (.aload_n 0, 1) := by decide +kernel
theorem dX6_from_151 : decode cX6_from 151 = .ok (.getfield 95, 3) := by decide +kernel
theorem dX6_from_154 : decode cX6_from 154 = .ok (.iconst 0, 1) := by decide +kernel
theorem dX6_from_155 : decode cX6_from 155 = .ok (.aload_n 0, 1) := by decide +kernel
theorem dX6_from_156 : decode cX6_from 156 = .ok (.getfield 7, 3) := by decide +kernel
theorem dX6_from_159 : decode cX6_from 159 = .ok (.invokestatic 98, 3) := by decide +kernel
theorem dX6_from_162 : decode cX6_from 162 = .ok (.l2i, 1) := by decide +kernel
theorem dX6_from_163 : decode cX6_from 163 = .ok (.ireturn, 1) := by decide +kernel
theorem dX6_ofWhole_0 : decode cX6_ofWhole 0 = .ok (.aload_n 0, 1) := by decide +kernel
theorem dX6_ofWhole_1 : decode cX6_ofWhole 1 = .ok (.iload_n 1, 1) := by decide +kernel
theorem dX6_ofWhole_2 : decode cX6_ofWhole 2 = .ok (.iconst 0, 1) := by decide +kernel
theorem dX6_ofWhole_3 : decode cX6_ofWhole 3 = .ok (.iconst 4, 1) := by decide +kernel
theorem dX6_ofWhole_4 : decode cX6_ofWhole 4 = .ok (.invokestatic 16, 3) := by decide +kernel
theorem dX6_ofWhole_7 : decode cX6_ofWhole 7 = .ok (.ifCond .eq 17, 3) := by decide +kernel
theorem dX6_ofWhole_10 : decode cX6_ofWhole 10 = .ok (.iload_n 3, 1) := by decide +kernel
theorem dX6_ofWhole_11 : decode cX6_ofWhole 11 = .ok (.iconst 1, 1) := by decide +kernel
theorem dX6_ofWhole_12 : decode cX6_ofWhole 12 = .ok (.bipush 32, 2) := by decide +kernel
theorem dX6_ofWhole_14 : decode cX6_ofWhole 14 = .ok (.invokestatic 16, 3) := by decide +kernel
theorem dX6_ofWhole_17 : decode cX6_ofWhole 17 = .ok (.ifCond .eq 7, 3) := by decide +kernel
theorem dX6_ofWhole_20 : decode cX6_ofWhole 20 = .ok (.iconst 1, 1) := by decide +kernel
theorem dX6_ofWhole_21 : decode cX6_ofWhole 21 = .ok (.goto 4, 3) := by decide +kernel
theorem dX6_ofWhole_24 : decode cX6_ofWhole 24 = .ok (.iconst 0, 1) := by decide +kernel
theorem dX6_ofWhole_25 : decode cX6_ofWhole 25 = .ok (.invokevirtual 38, 3) := by decide +kernel
theorem dX6_ofWhole_28 : decode cX6_ofWhole 28 = .ok (.ifCond .ne 5, 3) := by decide +kernel
theorem dX6_ofWhole_31 : decode cX6_ofWhole 31 = .ok (.iconst 0, 1) := by decide +kernel
theorem dX6_ofWhole_32 : decode cX6_ofWhole 32 = .ok (.ireturn, 1) := by decide +kernel
theorem dX6_ofWhole_33 : decode cX6_ofWhole 33 = .ok (.iload_n 2, 1) := by decide +kernel
theorem dX6_ofWhole_34 : decode cX6_ofWhole 34 = .ok (.i2l, 1) := by decide +kernel
theorem dX6_ofWhole_35 : decode cX6_ofWhole 35 = .ok (.iload_n 3, 1) := by decide +kernel
theorem dX6_ofWhole_36 : decode cX6_ofWhole 36 = .ok (.invokestatic 27, 3) := by decide +kernel
theorem dX6_ofWhole_39 : decode cX6_ofWhole 39 = .ok (.land, 1) := by decide +kernel
theorem dX6_ofWhole_40 : decode cX6_ofWhole 40 = .ok (.lstore 5, 2) := by decide +kernel
theorem dX6_ofWhole_42 : decode cX6_ofWhole 42 = .ok (.iload 4, 2) := by decide +kernel
theorem dX6_ofWhole_44 : decode cX6_ofWhole 44 = .ok (.ifCond .eq 12, 3) := by decide +kernel
theorem dX6_ofWhole_47 : decode cX6_ofWhole 47 = .ok (.lload 5, 2) := by decide +kernel
theorem dX6_ofWhole_49 : decode cX6_ofWhole 49 = .ok (.iload_n 3, 1) := by decide +kernel
theorem dX6_ofWhole_50 : decode cX6_ofWhole 50 = .ok (.invokestatic 102, 3) := by decide +kernel
theorem dX6_ofWhole_53 : decode cX6_ofWhole 53 = .ok (.goto 5, 3) := by decide +kernel
theorem dX6_ofWhole_56 : decode cX6_ofWhole 56 = .ok (.lload 5, 2) := by decide +kernel
theorem dX6_ofWhole_58 : decode cX6_ofWhole 58 = .ok (.lstore 7, 2) := by decide +kernel
theorem dX6_ofWhole_60 : decode cX6_ofWhole 60 = .ok (.lload 7, 2) := by decide +kernel
theorem dX6_ofWhole_62 : decode cX6_ofWhole 62 = .ok (.lconst 0, 1) := by decide +kernel
theorem dX6_ofWhole_63 : decode cX6_ofWhole 63 = .ok (.lcmp, 1) := by decide +kernel
theorem dX6_ofWhole_64 : decode cX6_ofWhole 64 = .ok (.ifCond .ne 7, 3) := by decide +kernel
theorem dX6_ofWhole_67 : decode cX6_ofWhole 67 = .ok (.iconst 0, 1) := by decide +kernel
theorem dX6_ofWhole_68 : decode cX6_ofWhole 68 = .ok (.goto 42, 3) := by decide +kernel
theorem dX6_ofWhole_71 : decode cX6_ofWhole 71 = .ok (.iload_n 1, 1) := by decide +kernel
theorem dX6_ofWhole_72 : decode cX6_ofWhole 72 = .ok (.lload 7, 2) := by decide +kernel
theorem dX6_ofWhole_74 : decode cX6_ofWhole 74 = .ok (.lconst 0, 1) := by decide +kernel
theorem dX6_ofWhole_75 : decode cX6_ofWhole 75 = .ok (.lcmp, 1) := by decide +kernel
theorem dX6_ofWhole_76 : decode cX6_ofWhole 76 = .ok (.ifCond .ge 7, 3) := by decide +kernel
theorem dX6_ofWhole_79 : decode cX6_ofWhole 79 = .ok (.iconst 1, 1) := by decide +kernel
theorem dX6_ofWhole_80 : decode cX6_ofWhole 80 = .ok (.goto 4, 3) := by decide +kernel
theorem dX6_ofWhole_83 : decode cX6_ofWhole 83 = .ok (.iconst 0, 1) := by decide +kernel
theorem dX6_ofWhole_84 : decode cX6_ofWhole 84 = .ok (.lload 7, 2) := by decide +kernel
theorem dX6_ofWhole_86 : decode cX6_ofWhole 86 = .ok (.lconst 0, 1) := by decide +kernel
theorem dX6_ofWhole_87 : decode cX6_ofWhole 87 = .ok (.lcmp, 1) := by decide +kernel
theorem dX6_ofWhole_88 : decode cX6_ofWhole 88 = .ok (.ifCond .ge 10, 3) := by decide +kernel
theorem dX6_ofWhole_91 : decode cX6_ofWhole 91 = .ok (.lconst 0, 1) := by decide +kernel
theorem dX6_ofWhole_92 : decode cX6_ofWhole 92 = .ok (.lload 7, 2) := by decide +kernel
theorem dX6_ofWhole_94 : decode cX6_ofWhole 94 = .ok (.lsub, 1) := by decide +kernel
theorem dX6_ofWhole_95 : decode cX6_ofWhole 95 = .ok (.goto 5, 3) := by decide +kernel
theorem dX6_ofWhole_98 : decode cX6_ofWhole 98 = .ok (.lload 7, 2) := by decide +kernel
theorem dX6_ofWhole_100 : decode cX6_ofWhole 100 = .ok (.iconst 0, 1) := by decide +kernel
theorem dX6_ofWhole_101 : decode cX6_ofWhole 101 = .ok (.iconst 0, 1) := by decide +kernel
theorem dX6_ofWhole_102 : decode cX6_ofWhole 102 = .ok (.aload_n 0, 1) := by decide +kernel
theorem dX6_ofWhole_103 : decode cX6_ofWhole 103 = .ok (.getfield 7, 3) := by decide +kernel
