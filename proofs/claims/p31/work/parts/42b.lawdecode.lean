theorem dL_told_0 : decode cL_told 0 = .ok (.iload_n 1, 1) := by decide +kernel
theorem dL_told_1 : decode cL_told 1 = .ok (.aload_n 0, 1) := by decide +kernel
theorem dL_told_2 : decode cL_told 2 = .ok (.arraylength, 1) := by decide +kernel
theorem dL_told_3 : decode cL_told 3 = .ok (.if_icmp .ge 9, 3) := by decide +kernel
theorem dL_told_6 : decode cL_told 6 = .ok (.aload_n 0, 1) := by decide +kernel
theorem dL_told_7 : decode cL_told 7 = .ok (.iload_n 1, 1) := by decide +kernel
theorem dL_told_8 : decode cL_told 8 = .ok (.iaload, 1) := by decide +kernel
theorem dL_told_9 : decode cL_told 9 = .ok (.goto 15, 3) := by decide +kernel
theorem dL_told_12 : decode cL_told 12 = .ok (.sipush 22013, 3) := by decide +kernel
theorem dL_told_15 : decode cL_told 15 = .ok (.iload_n 1, 1) := by decide +kernel
theorem dL_told_16 : decode cL_told 16 = .ok (.iconst 4, 1) := by decide +kernel
theorem dL_told_17 : decode cL_told 17 = .ok (.iadd, 1) := by decide +kernel
theorem dL_told_18 : decode cL_told 18 = .ok (.imul, 1) := by decide +kernel
theorem dL_told_19 : decode cL_told 19 = .ok (.iload_n 1, 1) := by decide +kernel
theorem dL_told_20 : decode cL_told 20 = .ok (.bipush 13, 2) := by decide +kernel
theorem dL_told_22 : decode cL_told 22 = .ok (.iadd, 1) := by decide +kernel
theorem dL_told_23 : decode cL_told 23 = .ok (.imul, 1) := by decide +kernel
theorem dL_told_24 : decode cL_told 24 = .ok (.ldc 7, 2) := by decide +kernel
theorem dL_told_26 : decode cL_told 26 = .ok (.iand, 1) := by decide +kernel
theorem dL_told_27 : decode cL_told 27 = .ok (.ireturn, 1) := by decide +kernel
theorem dL_lay_0 : decode cL_lay 0 = .ok (.iconst 1, 1) := by decide +kernel
theorem dL_lay_1 : decode cL_lay 1 = .ok (.iload_n 1, 1) := by decide +kernel
theorem dL_lay_2 : decode cL_lay 2 = .ok (.iconst 4, 1) := by decide +kernel
theorem dL_lay_3 : decode cL_lay 3 = .ok (.irem, 1) := by decide +kernel
theorem dL_lay_4 : decode cL_lay 4 = .ok (.iadd, 1) := by decide +kernel
theorem dL_lay_5 : decode cL_lay 5 = .ok (.istore_n 2, 1) := by decide +kernel
theorem dL_lay_6 : decode cL_lay 6 = .ok (.iconst 0, 1) := by decide +kernel
theorem dL_lay_7 : decode cL_lay 7 = .ok (.istore_n 3, 1) := by decide +kernel
theorem dL_lay_8 : decode cL_lay 8 = .ok (.iload_n 3, 1) := by decide +kernel
theorem dL_lay_9 : decode cL_lay 9 = .ok (.iload_n 2, 1) := by decide +kernel
theorem dL_lay_10 : decode cL_lay 10 = .ok (.if_icmp .ge 68, 3) := by decide +kernel
theorem dL_lay_13 : decode cL_lay 13 = .ok (.iload_n 1, 1) := by decide +kernel
theorem dL_lay_14 : decode cL_lay 14 = .ok (.iconst 3, 1) := by decide +kernel
theorem dL_lay_15 : decode cL_lay 15 = .ok (.iload_n 3, 1) := by decide +kernel
theorem dL_lay_16 : decode cL_lay 16 = .ok (.imul, 1) := by decide +kernel
theorem dL_lay_17 : decode cL_lay 17 = .ok (.iconst 2, 1) := by decide +kernel
theorem dL_lay_18 : decode cL_lay 18 = .ok (.iadd, 1) := by decide +kernel
theorem dL_lay_19 : decode cL_lay 19 = .ok (.iushr, 1) := by decide +kernel
theorem dL_lay_20 : decode cL_lay 20 = .ok (.sipush 150, 3) := by decide +kernel
theorem dL_lay_23 : decode cL_lay 23 = .ok (.irem, 1) := by decide +kernel
theorem dL_lay_24 : decode cL_lay 24 = .ok (.istore 4, 2) := by decide +kernel
theorem dL_lay_26 : decode cL_lay 26 = .ok (.aload_n 0, 1) := by decide +kernel
theorem dL_lay_27 : decode cL_lay 27 = .ok (.iload_n 1, 1) := by decide +kernel
theorem dL_lay_28 : decode cL_lay 28 = .ok (.iconst 2, 1) := by decide +kernel
theorem dL_lay_29 : decode cL_lay 29 = .ok (.iload_n 3, 1) := by decide +kernel
theorem dL_lay_30 : decode cL_lay 30 = .ok (.imul, 1) := by decide +kernel
theorem dL_lay_31 : decode cL_lay 31 = .ok (.iushr, 1) := by decide +kernel
theorem dL_lay_32 : decode cL_lay 32 = .ok (.iconst 3, 1) := by decide +kernel
theorem dL_lay_33 : decode cL_lay 33 = .ok (.irem, 1) := by decide +kernel
theorem dL_lay_34 : decode cL_lay 34 = .ok (.ifCond .ne 8, 3) := by decide +kernel
theorem dL_lay_37 : decode cL_lay 37 = .ok (.bipush 15, 2) := by decide +kernel
theorem dL_lay_39 : decode cL_lay 39 = .ok (.goto 11, 3) := by decide +kernel
theorem dL_lay_42 : decode cL_lay 42 = .ok (.iconst 1, 1) := by decide +kernel
theorem dL_lay_43 : decode cL_lay 43 = .ok (.iload_n 1, 1) := by decide +kernel
theorem dL_lay_44 : decode cL_lay 44 = .ok (.iload_n 3, 1) := by decide +kernel
theorem dL_lay_45 : decode cL_lay 45 = .ok (.iushr, 1) := by decide +kernel
theorem dL_lay_46 : decode cL_lay 46 = .ok (.bipush 15, 2) := by decide +kernel
theorem dL_lay_48 : decode cL_lay 48 = .ok (.irem, 1) := by decide +kernel
theorem dL_lay_49 : decode cL_lay 49 = .ok (.iadd, 1) := by decide +kernel
theorem dL_lay_50 : decode cL_lay 50 = .ok (.iload 4, 2) := by decide +kernel
theorem dL_lay_52 : decode cL_lay 52 = .ok (.iload 4, 2) := by decide +kernel
theorem dL_lay_54 : decode cL_lay 54 = .ok (.sipush 200, 3) := by decide +kernel
theorem dL_lay_57 : decode cL_lay 57 = .ok (.iadd, 1) := by decide +kernel
theorem dL_lay_58 : decode cL_lay 58 = .ok (.iload_n 1, 1) := by decide +kernel
theorem dL_lay_59 : decode cL_lay 59 = .ok (.iload_n 3, 1) := by decide +kernel
theorem dL_lay_60 : decode cL_lay 60 = .ok (.iconst 4, 1) := by decide +kernel
theorem dL_lay_61 : decode cL_lay 61 = .ok (.iadd, 1) := by decide +kernel
theorem dL_lay_62 : decode cL_lay 62 = .ok (.iushr, 1) := by decide +kernel
theorem dL_lay_63 : decode cL_lay 63 = .ok (.sipush 251, 3) := by decide +kernel
theorem dL_lay_66 : decode cL_lay 66 = .ok (.irem, 1) := by decide +kernel
theorem dL_lay_67 : decode cL_lay 67 = .ok (.iadd, 1) := by decide +kernel
theorem dL_lay_68 : decode cL_lay 68 = .ok (.invokevirtual 8, 3) := by decide +kernel
theorem dL_lay_71 : decode cL_lay 71 = .ok (.pop, 1) := by decide +kernel
theorem dL_lay_72 : decode cL_lay 72 = .ok (.iinc 3 1, 3) := by decide +kernel
theorem dL_lay_75 : decode cL_lay 75 = .ok (.goto (-67), 3) := by decide +kernel
theorem dL_lay_78 : decode cL_lay 78 = .ok (.iconst 0, 1) := by decide +kernel
theorem dL_lay_79 : decode cL_lay 79 = .ok (.istore_n 3, 1) := by decide +kernel
theorem dL_lay_80 : decode cL_lay 80 = .ok (.iload_n 3, 1) := by decide +kernel
theorem dL_lay_81 : decode cL_lay 81 = .ok (.iconst 4, 1) := by decide +kernel
theorem dL_lay_82 : decode cL_lay 82 = .ok (.if_icmp .ge 15, 3) := by decide +kernel
theorem dL_lay_85 : decode cL_lay 85 = .ok (.aload_n 0, 1) := by decide +kernel
theorem dL_lay_86 : decode cL_lay 86 = .ok (.iload_n 3, 1) := by decide +kernel
theorem dL_lay_87 : decode cL_lay 87 = .ok (.invokevirtual 14, 3) := by decide +kernel
theorem dL_lay_90 : decode cL_lay 90 = .ok (.pop, 1) := by decide +kernel
theorem dL_lay_91 : decode cL_lay 91 = .ok (.iinc 3 1, 3) := by decide +kernel
theorem dL_lay_94 : decode cL_lay 94 = .ok (.goto (-14), 3) := by decide +kernel
theorem dL_lay_97 : decode cL_lay 97 = .ok (.aload_n 0, 1) := by decide +kernel
theorem dL_lay_98 : decode cL_lay 98 = .ok (.iload_n 1, 1) := by decide +kernel
theorem dL_lay_99 : decode cL_lay 99 = .ok (.iconst 4, 1) := by decide +kernel
theorem dL_lay_100 : decode cL_lay 100 = .ok (.irem, 1) := by decide +kernel
theorem dL_lay_101 : decode cL_lay 101 = .ok (.iconst 5, 1) := by decide +kernel
theorem dL_lay_102 : decode cL_lay 102 = .ok (.iload_n 1, 1) := by decide +kernel
theorem dL_lay_103 : decode cL_lay 103 = .ok (.iconst 4, 1) := by decide +kernel
theorem dL_lay_104 : decode cL_lay 104 = .ok (.idiv, 1) := by decide +kernel
theorem dL_lay_105 : decode cL_lay 105 = .ok (.bipush 60, 2) := by decide +kernel
theorem dL_lay_107 : decode cL_lay 107 = .ok (.irem, 1) := by decide +kernel
theorem dL_lay_108 : decode cL_lay 108 = .ok (.iadd, 1) := by decide +kernel
theorem dL_lay_109 : decode cL_lay 109 = .ok (.invokevirtual 18, 3) := by decide +kernel
theorem dL_lay_112 : decode cL_lay 112 = .ok (.pop, 1) := by decide +kernel
theorem dL_lay_113 : decode cL_lay 113 = .ok (.aload_n 0, 1) := by decide +kernel
theorem dL_lay_114 : decode cL_lay 114 = .ok (.iconst 4, 1) := by decide +kernel
theorem dL_lay_115 : decode cL_lay 115 = .ok (.iconst (-1), 1) := by decide +kernel
theorem dL_lay_116 : decode cL_lay 116 = .ok (.bipush 10, 2) := by decide +kernel
theorem dL_lay_118 : decode cL_lay 118 = .ok (.iload_n 1, 1) := by decide +kernel
theorem dL_lay_119 : decode cL_lay 119 = .ok (.bipush 7, 2) := by decide +kernel
theorem dL_lay_121 : decode cL_lay 121 = .ok (.idiv, 1) := by decide +kernel
theorem dL_lay_122 : decode cL_lay 122 = .ok (.bipush 50, 2) := by decide +kernel
theorem dL_lay_124 : decode cL_lay 124 = .ok (.irem, 1) := by decide +kernel
theorem dL_lay_125 : decode cL_lay 125 = .ok (.iadd, 1) := by decide +kernel
theorem dL_lay_126 : decode cL_lay 126 = .ok (.invokevirtual 22, 3) := by decide +kernel
theorem dL_lay_129 : decode cL_lay 129 = .ok (.pop, 1) := by decide +kernel
theorem dL_lay_130 : decode cL_lay 130 = .ok (.aload_n 0, 1) := by decide +kernel
theorem dL_lay_131 : decode cL_lay 131 = .ok (.iconst 4, 1) := by decide +kernel
theorem dL_lay_132 : decode cL_lay 132 = .ok (.iload_n 1, 1) := by decide +kernel
theorem dL_lay_133 : decode cL_lay 133 = .ok (.bipush 9, 2) := by decide +kernel
theorem dL_lay_135 : decode cL_lay 135 = .ok (.idiv, 1) := by decide +kernel
theorem dL_lay_136 : decode cL_lay 136 = .ok (.iconst 4, 1) := by decide +kernel
theorem dL_lay_137 : decode cL_lay 137 = .ok (.irem, 1) := by decide +kernel
theorem dL_lay_138 : decode cL_lay 138 = .ok (.iconst 5, 1) := by decide +kernel
theorem dL_lay_139 : decode cL_lay 139 = .ok (.iload_n 1, 1) := by decide +kernel
theorem dL_lay_140 : decode cL_lay 140 = .ok (.bipush 11, 2) := by decide +kernel
theorem dL_lay_142 : decode cL_lay 142 = .ok (.idiv, 1) := by decide +kernel
theorem dL_lay_143 : decode cL_lay 143 = .ok (.bipush 30, 2) := by decide +kernel
theorem dL_lay_145 : decode cL_lay 145 = .ok (.irem, 1) := by decide +kernel
theorem dL_lay_146 : decode cL_lay 146 = .ok (.iadd, 1) := by decide +kernel
theorem dL_lay_147 : decode cL_lay 147 = .ok (.invokevirtual 22, 3) := by decide +kernel
theorem dL_lay_150 : decode cL_lay 150 = .ok (.pop, 1) := by decide +kernel
theorem dL_lay_151 : decode cL_lay 151 = .ok (.return_, 1) := by decide +kernel
theorem dL_does_0 : decode cL_does 0 = .ok (.iload_n 2, 1) := by decide +kernel
theorem dL_does_1 : decode cL_does 1 = .ok (.iconst 5, 1) := by decide +kernel
theorem dL_does_2 : decode cL_does 2 = .ok (.irem, 1) := by decide +kernel
theorem dL_does_3 : decode cL_does 3 = .ok (.istore_n 3, 1) := by decide +kernel
theorem dL_does_4 : decode cL_does 4 = .ok (.iload_n 2, 1) := by decide +kernel
theorem dL_does_5 : decode cL_does 5 = .ok (.iconst 5, 1) := by decide +kernel
theorem dL_does_6 : decode cL_does 6 = .ok (.idiv, 1) := by decide +kernel
theorem dL_does_7 : decode cL_does 7 = .ok (.sipush 400, 3) := by decide +kernel
theorem dL_does_10 : decode cL_does 10 = .ok (.irem, 1) := by decide +kernel
theorem dL_does_11 : decode cL_does 11 = .ok (.istore 4, 2) := by decide +kernel
theorem dL_does_13 : decode cL_does 13 = .ok (.aload_n 0, 1) := by decide +kernel
theorem dL_does_14 : decode cL_does 14 = .ok (.invokevirtual 25, 3) := by decide +kernel
theorem dL_does_17 : decode cL_does 17 = .ok (.ifCond .ne 7, 3) := by decide +kernel
theorem dL_does_20 : decode cL_does 20 = .ok (.iconst 0, 1) := by decide +kernel
theorem dL_does_21 : decode cL_does 21 = .ok (.goto 12, 3) := by decide +kernel
theorem dL_does_24 : decode cL_does 24 = .ok (.iload_n 1, 1) := by decide +kernel
theorem dL_does_25 : decode cL_does 25 = .ok (.bipush 8, 2) := by decide +kernel
theorem dL_does_27 : decode cL_does 27 = .ok (.idiv, 1) := by decide +kernel
theorem dL_does_28 : decode cL_does 28 = .ok (.aload_n 0, 1) := by decide +kernel
theorem dL_does_29 : decode cL_does 29 = .ok (.invokevirtual 25, 3) := by decide +kernel
theorem dL_does_32 : decode cL_does 32 = .ok (.irem, 1) := by decide +kernel
theorem dL_does_33 : decode cL_does 33 = .ok (.istore 5, 2) := by decide +kernel
theorem dL_does_35 : decode cL_does 35 = .ok (.aload_n 0, 1) := by decide +kernel
theorem dL_does_36 : decode cL_does 36 = .ok (.invokevirtual 25, 3) := by decide +kernel
theorem dL_does_39 : decode cL_does 39 = .ok (.ifCond .le 16, 3) := by decide +kernel
theorem dL_does_42 : decode cL_does 42 = .ok (.aload_n 0, 1) := by decide +kernel
theorem dL_does_43 : decode cL_does 43 = .ok (.iload 5, 2) := by decide +kernel
theorem dL_does_45 : decode cL_does 45 = .ok (.invokevirtual 29, 3) := by decide +kernel
theorem dL_does_48 : decode cL_does 48 = .ok (.ifCond .lt 7, 3) := by decide +kernel
theorem dL_does_51 : decode cL_does 51 = .ok (.iconst 1, 1) := by decide +kernel
theorem dL_does_52 : decode cL_does 52 = .ok (.goto 4, 3) := by decide +kernel
theorem dL_does_55 : decode cL_does 55 = .ok (.iconst 0, 1) := by decide +kernel
