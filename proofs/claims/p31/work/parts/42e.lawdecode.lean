theorem dL_isRight_137 : decode cL_isRight 137 = .ok (.ifCond .eq 35, 3) := by decide +kernel
theorem dL_isRight_140 : decode cL_isRight 140 = .ok (.aload_n 0, 1) := by decide +kernel
theorem dL_isRight_141 : decode cL_isRight 141 = .ok (.iload 6, 2) := by decide +kernel
theorem dL_isRight_143 : decode cL_isRight 143 = .ok (.iload_n 2, 1) := by decide +kernel
theorem dL_isRight_144 : decode cL_isRight 144 = .ok (.invokevirtual 83, 3) := by decide +kernel
theorem dL_isRight_147 : decode cL_isRight 147 = .ok (.iload 4, 2) := by decide +kernel
theorem dL_isRight_149 : decode cL_isRight 149 = .ok (.if_icmp .ne 19, 3) := by decide +kernel
theorem dL_isRight_152 : decode cL_isRight 152 = .ok (.iload 5, 2) := by decide +kernel
theorem dL_isRight_154 : decode cL_isRight 154 = .ok (.ifCond .eq 18, 3) := by decide +kernel
theorem dL_isRight_157 : decode cL_isRight 157 = .ok (.aload_n 0, 1) := by decide +kernel
theorem dL_isRight_158 : decode cL_isRight 158 = .ok (.iload 4, 2) := by decide +kernel
theorem dL_isRight_160 : decode cL_isRight 160 = .ok (.invokevirtual 44, 3) := by decide +kernel
theorem dL_isRight_163 : decode cL_isRight 163 = .ok (.iload 6, 2) := by decide +kernel
theorem dL_isRight_165 : decode cL_isRight 165 = .ok (.if_icmp .ne 7, 3) := by decide +kernel
theorem dL_isRight_168 : decode cL_isRight 168 = .ok (.iconst 1, 1) := by decide +kernel
theorem dL_isRight_169 : decode cL_isRight 169 = .ok (.goto 4, 3) := by decide +kernel
theorem dL_isRight_172 : decode cL_isRight 172 = .ok (.iconst 0, 1) := by decide +kernel
theorem dL_isRight_173 : decode cL_isRight 173 = .ok (.istore_n 3, 1) := by decide +kernel
theorem dL_isRight_174 : decode cL_isRight 174 = .ok (.iinc 6 1, 3) := by decide +kernel
theorem dL_isRight_177 : decode cL_isRight 177 = .ok (.goto (-47), 3) := by decide +kernel
theorem dL_isRight_180 : decode cL_isRight 180 = .ok (.iinc 4 1, 3) := by decide +kernel
theorem dL_isRight_183 : decode cL_isRight 183 = .ok (.goto (-178), 3) := by decide +kernel
theorem dL_isRight_186 : decode cL_isRight 186 = .ok (.iload_n 3, 1) := by decide +kernel
theorem dL_isRight_187 : decode cL_isRight 187 = .ok (.ireturn, 1) := by decide +kernel
theorem dL_isWorked_0 : decode cL_isWorked 0 = .ok (.iconst 0, 1) := by decide +kernel
theorem dL_isWorked_1 : decode cL_isWorked 1 = .ok (.istore_n 2, 1) := by decide +kernel
theorem dL_isWorked_2 : decode cL_isWorked 2 = .ok (.iconst 0, 1) := by decide +kernel
theorem dL_isWorked_3 : decode cL_isWorked 3 = .ok (.istore_n 3, 1) := by decide +kernel
theorem dL_isWorked_4 : decode cL_isWorked 4 = .ok (.iload_n 3, 1) := by decide +kernel
theorem dL_isWorked_5 : decode cL_isWorked 5 = .ok (.sipush 600, 3) := by decide +kernel
theorem dL_isWorked_8 : decode cL_isWorked 8 = .ok (.if_icmp .ge 26, 3) := by decide +kernel
theorem dL_isWorked_11 : decode cL_isWorked 11 = .ok (.iload_n 2, 1) := by decide +kernel
theorem dL_isWorked_12 : decode cL_isWorked 12 = .ok (.aload_n 0, 1) := by decide +kernel
theorem dL_isWorked_13 : decode cL_isWorked 13 = .ok (.iload_n 1, 1) := by decide +kernel
theorem dL_isWorked_14 : decode cL_isWorked 14 = .ok (.iload_n 3, 1) := by decide +kernel
theorem dL_isWorked_15 : decode cL_isWorked 15 = .ok (.invokevirtual 83, 3) := by decide +kernel
theorem dL_isWorked_18 : decode cL_isWorked 18 = .ok (.ifCond .lt 7, 3) := by decide +kernel
theorem dL_isWorked_21 : decode cL_isWorked 21 = .ok (.iconst 1, 1) := by decide +kernel
theorem dL_isWorked_22 : decode cL_isWorked 22 = .ok (.goto 4, 3) := by decide +kernel
theorem dL_isWorked_25 : decode cL_isWorked 25 = .ok (.iconst 0, 1) := by decide +kernel
theorem dL_isWorked_26 : decode cL_isWorked 26 = .ok (.iadd, 1) := by decide +kernel
theorem dL_isWorked_27 : decode cL_isWorked 27 = .ok (.istore_n 2, 1) := by decide +kernel
theorem dL_isWorked_28 : decode cL_isWorked 28 = .ok (.iinc 3 1, 3) := by decide +kernel
theorem dL_isWorked_31 : decode cL_isWorked 31 = .ok (.goto (-27), 3) := by decide +kernel
theorem dL_isWorked_34 : decode cL_isWorked 34 = .ok (.iload_n 2, 1) := by decide +kernel
theorem dL_isWorked_35 : decode cL_isWorked 35 = .ok (.aload_n 0, 1) := by decide +kernel
theorem dL_isWorked_36 : decode cL_isWorked 36 = .ok (.iload_n 1, 1) := by decide +kernel
theorem dL_isWorked_37 : decode cL_isWorked 37 = .ok (.invokevirtual 38, 3) := by decide +kernel
theorem dL_isWorked_40 : decode cL_isWorked 40 = .ok (.if_icmp .ne 7, 3) := by decide +kernel
theorem dL_isWorked_43 : decode cL_isWorked 43 = .ok (.iconst 1, 1) := by decide +kernel
theorem dL_isWorked_44 : decode cL_isWorked 44 = .ok (.goto 4, 3) := by decide +kernel
theorem dL_isWorked_47 : decode cL_isWorked 47 = .ok (.iconst 0, 1) := by decide +kernel
theorem dL_isWorked_48 : decode cL_isWorked 48 = .ok (.ireturn, 1) := by decide +kernel
theorem dL_law_0 : decode cL_law 0 = .ok (.new 9, 3) := by decide +kernel
theorem dL_law_3 : decode cL_law 3 = .ok (.dup, 1) := by decide +kernel
theorem dL_law_4 : decode cL_law 4 = .ok (.invokespecial 89, 3) := by decide +kernel
theorem dL_law_7 : decode cL_law 7 = .ok (.astore_n 1, 1) := by decide +kernel
theorem dL_law_8 : decode cL_law 8 = .ok (.aload_n 0, 1) := by decide +kernel
theorem dL_law_9 : decode cL_law 9 = .ok (.iconst 0, 1) := by decide +kernel
theorem dL_law_10 : decode cL_law 10 = .ok (.invokestatic 90, 3) := by decide +kernel
theorem dL_law_13 : decode cL_law 13 = .ok (.istore_n 2, 1) := by decide +kernel
theorem dL_law_14 : decode cL_law 14 = .ok (.aload_n 1, 1) := by decide +kernel
theorem dL_law_15 : decode cL_law 15 = .ok (.iload_n 2, 1) := by decide +kernel
theorem dL_law_16 : decode cL_law 16 = .ok (.invokestatic 94, 3) := by decide +kernel
theorem dL_law_19 : decode cL_law 19 = .ok (.iconst 1, 1) := by decide +kernel
theorem dL_law_20 : decode cL_law 20 = .ok (.iload_n 2, 1) := by decide +kernel
theorem dL_law_21 : decode cL_law 21 = .ok (.iconst 4, 1) := by decide +kernel
theorem dL_law_22 : decode cL_law 22 = .ok (.irem, 1) := by decide +kernel
theorem dL_law_23 : decode cL_law 23 = .ok (.iadd, 1) := by decide +kernel
theorem dL_law_24 : decode cL_law 24 = .ok (.istore_n 3, 1) := by decide +kernel
theorem dL_law_25 : decode cL_law 25 = .ok (.iconst 1, 1) := by decide +kernel
theorem dL_law_26 : decode cL_law 26 = .ok (.istore 4, 2) := by decide +kernel
theorem dL_law_28 : decode cL_law 28 = .ok (.iconst 1, 1) := by decide +kernel
theorem dL_law_29 : decode cL_law 29 = .ok (.istore 5, 2) := by decide +kernel
theorem dL_law_31 : decode cL_law 31 = .ok (.iload 5, 2) := by decide +kernel
theorem dL_law_33 : decode cL_law 33 = .ok (.bipush 40, 2) := by decide +kernel
theorem dL_law_35 : decode cL_law 35 = .ok (.if_icmp .ge 119, 3) := by decide +kernel
theorem dL_law_38 : decode cL_law 38 = .ok (.iload 4, 2) := by decide +kernel
theorem dL_law_40 : decode cL_law 40 = .ok (.ifCond .eq 114, 3) := by decide +kernel
theorem dL_law_43 : decode cL_law 43 = .ok (.aload_n 0, 1) := by decide +kernel
theorem dL_law_44 : decode cL_law 44 = .ok (.iload 5, 2) := by decide +kernel
theorem dL_law_46 : decode cL_law 46 = .ok (.invokestatic 90, 3) := by decide +kernel
theorem dL_law_49 : decode cL_law 49 = .ok (.istore_n 2, 1) := by decide +kernel
theorem dL_law_50 : decode cL_law 50 = .ok (.aload_n 1, 1) := by decide +kernel
theorem dL_law_51 : decode cL_law 51 = .ok (.iload_n 2, 1) := by decide +kernel
theorem dL_law_52 : decode cL_law 52 = .ok (.aload_n 0, 1) := by decide +kernel
theorem dL_law_53 : decode cL_law 53 = .ok (.iload 5, 2) := by decide +kernel
theorem dL_law_55 : decode cL_law 55 = .ok (.iconst 3, 1) := by decide +kernel
theorem dL_law_56 : decode cL_law 56 = .ok (.iadd, 1) := by decide +kernel
theorem dL_law_57 : decode cL_law 57 = .ok (.invokestatic 90, 3) := by decide +kernel
theorem dL_law_60 : decode cL_law 60 = .ok (.invokestatic 98, 3) := by decide +kernel
theorem dL_law_63 : decode cL_law 63 = .ok (.istore 4, 2) := by decide +kernel
theorem dL_law_65 : decode cL_law 65 = .ok (.iload 4, 2) := by decide +kernel
theorem dL_law_67 : decode cL_law 67 = .ok (.ifCond .eq 35, 3) := by decide +kernel
theorem dL_law_70 : decode cL_law 70 = .ok (.aload_n 1, 1) := by decide +kernel
theorem dL_law_71 : decode cL_law 71 = .ok (.iload_n 3, 1) := by decide +kernel
theorem dL_law_72 : decode cL_law 72 = .ok (.iload_n 2, 1) := by decide +kernel
theorem dL_law_73 : decode cL_law 73 = .ok (.bipush 16, 2) := by decide +kernel
theorem dL_law_75 : decode cL_law 75 = .ok (.idiv, 1) := by decide +kernel
theorem dL_law_76 : decode cL_law 76 = .ok (.sipush 600, 3) := by decide +kernel
theorem dL_law_79 : decode cL_law 79 = .ok (.irem, 1) := by decide +kernel
theorem dL_law_80 : decode cL_law 80 = .ok (.invokestatic 101, 3) := by decide +kernel
theorem dL_law_83 : decode cL_law 83 = .ok (.ifCond .eq 19, 3) := by decide +kernel
theorem dL_law_86 : decode cL_law 86 = .ok (.aload_n 1, 1) := by decide +kernel
theorem dL_law_87 : decode cL_law 87 = .ok (.iload_n 3, 1) := by decide +kernel
theorem dL_law_88 : decode cL_law 88 = .ok (.aload_n 1, 1) := by decide +kernel
theorem dL_law_89 : decode cL_law 89 = .ok (.invokevirtual 104, 3) := by decide +kernel
theorem dL_law_92 : decode cL_law 92 = .ok (.invokestatic 101, 3) := by decide +kernel
theorem dL_law_95 : decode cL_law 95 = .ok (.ifCond .eq 7, 3) := by decide +kernel
theorem dL_law_98 : decode cL_law 98 = .ok (.iconst 1, 1) := by decide +kernel
theorem dL_law_99 : decode cL_law 99 = .ok (.goto 4, 3) := by decide +kernel
theorem dL_law_102 : decode cL_law 102 = .ok (.iconst 0, 1) := by decide +kernel
theorem dL_law_103 : decode cL_law 103 = .ok (.istore 4, 2) := by decide +kernel
theorem dL_law_105 : decode cL_law 105 = .ok (.iload 4, 2) := by decide +kernel
theorem dL_law_107 : decode cL_law 107 = .ok (.ifCond .eq 38, 3) := by decide +kernel
theorem dL_law_110 : decode cL_law 110 = .ok (.aload_n 1, 1) := by decide +kernel
theorem dL_law_111 : decode cL_law 111 = .ok (.iload_n 2, 1) := by decide +kernel
theorem dL_law_112 : decode cL_law 112 = .ok (.iconst 5, 1) := by decide +kernel
theorem dL_law_113 : decode cL_law 113 = .ok (.irem, 1) := by decide +kernel
theorem dL_law_114 : decode cL_law 114 = .ok (.iload_n 2, 1) := by decide +kernel
theorem dL_law_115 : decode cL_law 115 = .ok (.iconst 5, 1) := by decide +kernel
theorem dL_law_116 : decode cL_law 116 = .ok (.idiv, 1) := by decide +kernel
theorem dL_law_117 : decode cL_law 117 = .ok (.sipush 600, 3) := by decide +kernel
theorem dL_law_120 : decode cL_law 120 = .ok (.irem, 1) := by decide +kernel
theorem dL_law_121 : decode cL_law 121 = .ok (.invokevirtual 32, 3) := by decide +kernel
theorem dL_law_124 : decode cL_law 124 = .ok (.aload_n 1, 1) := by decide +kernel
theorem dL_law_125 : decode cL_law 125 = .ok (.iload_n 2, 1) := by decide +kernel
theorem dL_law_126 : decode cL_law 126 = .ok (.iconst 5, 1) := by decide +kernel
theorem dL_law_127 : decode cL_law 127 = .ok (.irem, 1) := by decide +kernel
theorem dL_law_128 : decode cL_law 128 = .ok (.iload_n 2, 1) := by decide +kernel
theorem dL_law_129 : decode cL_law 129 = .ok (.iconst 5, 1) := by decide +kernel
theorem dL_law_130 : decode cL_law 130 = .ok (.idiv, 1) := by decide +kernel
theorem dL_law_131 : decode cL_law 131 = .ok (.sipush 600, 3) := by decide +kernel
theorem dL_law_134 : decode cL_law 134 = .ok (.irem, 1) := by decide +kernel
theorem dL_law_135 : decode cL_law 135 = .ok (.invokevirtual 107, 3) := by decide +kernel
theorem dL_law_138 : decode cL_law 138 = .ok (.if_icmp .ne 7, 3) := by decide +kernel
theorem dL_law_141 : decode cL_law 141 = .ok (.iconst 1, 1) := by decide +kernel
theorem dL_law_142 : decode cL_law 142 = .ok (.goto 4, 3) := by decide +kernel
theorem dL_law_145 : decode cL_law 145 = .ok (.iconst 0, 1) := by decide +kernel
theorem dL_law_146 : decode cL_law 146 = .ok (.istore 4, 2) := by decide +kernel
theorem dL_law_148 : decode cL_law 148 = .ok (.iinc 5 1, 3) := by decide +kernel
theorem dL_law_151 : decode cL_law 151 = .ok (.goto (-120), 3) := by decide +kernel
theorem dL_law_154 : decode cL_law 154 = .ok (.iload 4, 2) := by decide +kernel
theorem dL_law_156 : decode cL_law 156 = .ok (.ifCond .eq 17, 3) := by decide +kernel
theorem dL_law_159 : decode cL_law 159 = .ok (.aload_n 1, 1) := by decide +kernel
theorem dL_law_160 : decode cL_law 160 = .ok (.iload_n 2, 1) := by decide +kernel
theorem dL_law_161 : decode cL_law 161 = .ok (.iload_n 3, 1) := by decide +kernel
theorem dL_law_162 : decode cL_law 162 = .ok (.irem, 1) := by decide +kernel
theorem dL_law_163 : decode cL_law 163 = .ok (.invokestatic 110, 3) := by decide +kernel
theorem dL_law_166 : decode cL_law 166 = .ok (.ifCond .eq 7, 3) := by decide +kernel
theorem dL_law_169 : decode cL_law 169 = .ok (.iconst 1, 1) := by decide +kernel
theorem dL_law_170 : decode cL_law 170 = .ok (.goto 4, 3) := by decide +kernel
theorem dL_law_173 : decode cL_law 173 = .ok (.iconst 0, 1) := by decide +kernel
theorem dL_law_174 : decode cL_law 174 = .ok (.ireturn, 1) := by decide +kernel
