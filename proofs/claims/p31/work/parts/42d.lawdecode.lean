theorem dL_does_408 : decode cL_does 408 = .ok (.aload_n 0, 1) := by decide +kernel
theorem dL_does_409 : decode cL_does 409 = .ok (.iload 9, 2) := by decide +kernel
theorem dL_does_411 : decode cL_does 411 = .ok (.invokevirtual 68, 3) := by decide +kernel
theorem dL_does_414 : decode cL_does 414 = .ok (.iload_n 3, 1) := by decide +kernel
theorem dL_does_415 : decode cL_does 415 = .ok (.if_icmp .ne 7, 3) := by decide +kernel
theorem dL_does_418 : decode cL_does 418 = .ok (.iconst 1, 1) := by decide +kernel
theorem dL_does_419 : decode cL_does 419 = .ok (.goto 4, 3) := by decide +kernel
theorem dL_does_422 : decode cL_does 422 = .ok (.iconst 0, 1) := by decide +kernel
theorem dL_does_423 : decode cL_does 423 = .ok (.ireturn, 1) := by decide +kernel
theorem dL_does_424 : decode cL_does 424 = .ok (.iconst 1, 1) := by decide +kernel
theorem dL_does_425 : decode cL_does 425 = .ok (.ireturn, 1) := by decide +kernel
theorem dL_does_426 : decode cL_does 426 = .ok (.iload 6, 2) := by decide +kernel
theorem dL_does_428 : decode cL_does 428 = .ok (.ifCond .eq 13, 3) := by decide +kernel
theorem dL_does_431 : decode cL_does 431 = .ok (.aload_n 0, 1) := by decide +kernel
theorem dL_does_432 : decode cL_does 432 = .ok (.iload 5, 2) := by decide +kernel
theorem dL_does_434 : decode cL_does 434 = .ok (.iload_n 3, 1) := by decide +kernel
theorem dL_does_435 : decode cL_does 435 = .ok (.invokestatic 71, 3) := by decide +kernel
theorem dL_does_438 : decode cL_does 438 = .ok (.goto 4, 3) := by decide +kernel
theorem dL_does_441 : decode cL_does 441 = .ok (.iconst 1, 1) := by decide +kernel
theorem dL_does_442 : decode cL_does 442 = .ok (.ireturn, 1) := by decide +kernel
theorem dL_isInRest_0 : decode cL_isInRest 0 = .ok (.aload_n 0, 1) := by decide +kernel
theorem dL_isInRest_1 : decode cL_isInRest 1 = .ok (.iload_n 1, 1) := by decide +kernel
theorem dL_isInRest_2 : decode cL_isInRest 2 = .ok (.iload_n 2, 1) := by decide +kernel
theorem dL_isInRest_3 : decode cL_isInRest 3 = .ok (.invokevirtual 77, 3) := by decide +kernel
theorem dL_isInRest_6 : decode cL_isInRest 6 = .ok (.istore_n 3, 1) := by decide +kernel
theorem dL_isInRest_7 : decode cL_isInRest 7 = .ok (.iload_n 3, 1) := by decide +kernel
theorem dL_isInRest_8 : decode cL_isInRest 8 = .ok (.iconst (-1), 1) := by decide +kernel
theorem dL_isInRest_9 : decode cL_isInRest 9 = .ok (.if_icmp .eq 37, 3) := by decide +kernel
theorem dL_isInRest_12 : decode cL_isInRest 12 = .ok (.iload_n 3, 1) := by decide +kernel
theorem dL_isInRest_13 : decode cL_isInRest 13 = .ok (.aload_n 0, 1) := by decide +kernel
theorem dL_isInRest_14 : decode cL_isInRest 14 = .ok (.iload_n 1, 1) := by decide +kernel
theorem dL_isInRest_15 : decode cL_isInRest 15 = .ok (.invokevirtual 29, 3) := by decide +kernel
theorem dL_isInRest_18 : decode cL_isInRest 18 = .ok (.if_icmp .le 32, 3) := by decide +kernel
theorem dL_isInRest_21 : decode cL_isInRest 21 = .ok (.iload_n 3, 1) := by decide +kernel
theorem dL_isInRest_22 : decode cL_isInRest 22 = .ok (.aload_n 0, 1) := by decide +kernel
theorem dL_isInRest_23 : decode cL_isInRest 23 = .ok (.iload_n 2, 1) := by decide +kernel
theorem dL_isInRest_24 : decode cL_isInRest 24 = .ok (.invokevirtual 80, 3) := by decide +kernel
theorem dL_isInRest_27 : decode cL_isInRest 27 = .ok (.iadd, 1) := by decide +kernel
theorem dL_isInRest_28 : decode cL_isInRest 28 = .ok (.aload_n 0, 1) := by decide +kernel
theorem dL_isInRest_29 : decode cL_isInRest 29 = .ok (.iload_n 1, 1) := by decide +kernel
theorem dL_isInRest_30 : decode cL_isInRest 30 = .ok (.invokevirtual 29, 3) := by decide +kernel
theorem dL_isInRest_33 : decode cL_isInRest 33 = .ok (.aload_n 0, 1) := by decide +kernel
theorem dL_isInRest_34 : decode cL_isInRest 34 = .ok (.aload_n 0, 1) := by decide +kernel
theorem dL_isInRest_35 : decode cL_isInRest 35 = .ok (.iload_n 1, 1) := by decide +kernel
theorem dL_isInRest_36 : decode cL_isInRest 36 = .ok (.invokevirtual 47, 3) := by decide +kernel
theorem dL_isInRest_39 : decode cL_isInRest 39 = .ok (.invokevirtual 80, 3) := by decide +kernel
theorem dL_isInRest_42 : decode cL_isInRest 42 = .ok (.iadd, 1) := by decide +kernel
theorem dL_isInRest_43 : decode cL_isInRest 43 = .ok (.if_icmp .ge 7, 3) := by decide +kernel
theorem dL_isInRest_46 : decode cL_isInRest 46 = .ok (.iconst 1, 1) := by decide +kernel
theorem dL_isInRest_47 : decode cL_isInRest 47 = .ok (.goto 4, 3) := by decide +kernel
theorem dL_isInRest_50 : decode cL_isInRest 50 = .ok (.iconst 0, 1) := by decide +kernel
theorem dL_isInRest_51 : decode cL_isInRest 51 = .ok (.istore 4, 2) := by decide +kernel
theorem dL_isInRest_53 : decode cL_isInRest 53 = .ok (.iload_n 3, 1) := by decide +kernel
theorem dL_isInRest_54 : decode cL_isInRest 54 = .ok (.istore 5, 2) := by decide +kernel
theorem dL_isInRest_56 : decode cL_isInRest 56 = .ok (.iload 4, 2) := by decide +kernel
theorem dL_isInRest_58 : decode cL_isInRest 58 = .ok (.ifCond .eq 62, 3) := by decide +kernel
theorem dL_isInRest_61 : decode cL_isInRest 61 = .ok (.iload_n 3, 1) := by decide +kernel
theorem dL_isInRest_62 : decode cL_isInRest 62 = .ok (.ifCond .lt 58, 3) := by decide +kernel
theorem dL_isInRest_65 : decode cL_isInRest 65 = .ok (.iload 5, 2) := by decide +kernel
theorem dL_isInRest_67 : decode cL_isInRest 67 = .ok (.iload_n 3, 1) := by decide +kernel
theorem dL_isInRest_68 : decode cL_isInRest 68 = .ok (.aload_n 0, 1) := by decide +kernel
theorem dL_isInRest_69 : decode cL_isInRest 69 = .ok (.iload_n 2, 1) := by decide +kernel
theorem dL_isInRest_70 : decode cL_isInRest 70 = .ok (.invokevirtual 80, 3) := by decide +kernel
theorem dL_isInRest_73 : decode cL_isInRest 73 = .ok (.iadd, 1) := by decide +kernel
theorem dL_isInRest_74 : decode cL_isInRest 74 = .ok (.if_icmp .ge 46, 3) := by decide +kernel
theorem dL_isInRest_77 : decode cL_isInRest 77 = .ok (.aload_n 0, 1) := by decide +kernel
theorem dL_isInRest_78 : decode cL_isInRest 78 = .ok (.aload_n 0, 1) := by decide +kernel
theorem dL_isInRest_79 : decode cL_isInRest 79 = .ok (.iload_n 1, 1) := by decide +kernel
theorem dL_isInRest_80 : decode cL_isInRest 80 = .ok (.invokevirtual 44, 3) := by decide +kernel
theorem dL_isInRest_83 : decode cL_isInRest 83 = .ok (.iload 5, 2) := by decide +kernel
theorem dL_isInRest_85 : decode cL_isInRest 85 = .ok (.invokevirtual 83, 3) := by decide +kernel
theorem dL_isInRest_88 : decode cL_isInRest 88 = .ok (.iload_n 1, 1) := by decide +kernel
theorem dL_isInRest_89 : decode cL_isInRest 89 = .ok (.if_icmp .eq 22, 3) := by decide +kernel
theorem dL_isInRest_92 : decode cL_isInRest 92 = .ok (.aload_n 0, 1) := by decide +kernel
theorem dL_isInRest_93 : decode cL_isInRest 93 = .ok (.aload_n 0, 1) := by decide +kernel
theorem dL_isInRest_94 : decode cL_isInRest 94 = .ok (.iload_n 1, 1) := by decide +kernel
theorem dL_isInRest_95 : decode cL_isInRest 95 = .ok (.invokevirtual 62, 3) := by decide +kernel
theorem dL_isInRest_98 : decode cL_isInRest 98 = .ok (.iload 5, 2) := by decide +kernel
theorem dL_isInRest_100 : decode cL_isInRest 100 = .ok (.invokevirtual 86, 3) := by decide +kernel
theorem dL_isInRest_103 : decode cL_isInRest 103 = .ok (.iload_n 1, 1) := by decide +kernel
theorem dL_isInRest_104 : decode cL_isInRest 104 = .ok (.if_icmp .ne 7, 3) := by decide +kernel
theorem dL_isInRest_107 : decode cL_isInRest 107 = .ok (.iconst 1, 1) := by decide +kernel
theorem dL_isInRest_108 : decode cL_isInRest 108 = .ok (.goto 4, 3) := by decide +kernel
theorem dL_isInRest_111 : decode cL_isInRest 111 = .ok (.iconst 0, 1) := by decide +kernel
theorem dL_isInRest_112 : decode cL_isInRest 112 = .ok (.istore 4, 2) := by decide +kernel
theorem dL_isInRest_114 : decode cL_isInRest 114 = .ok (.iinc 5 1, 3) := by decide +kernel
theorem dL_isInRest_117 : decode cL_isInRest 117 = .ok (.goto (-61), 3) := by decide +kernel
theorem dL_isInRest_120 : decode cL_isInRest 120 = .ok (.iload 4, 2) := by decide +kernel
theorem dL_isInRest_122 : decode cL_isInRest 122 = .ok (.ireturn, 1) := by decide +kernel
theorem dL_isRight_0 : decode cL_isRight 0 = .ok (.iconst 1, 1) := by decide +kernel
theorem dL_isRight_1 : decode cL_isRight 1 = .ok (.istore_n 3, 1) := by decide +kernel
theorem dL_isRight_2 : decode cL_isRight 2 = .ok (.iconst 0, 1) := by decide +kernel
theorem dL_isRight_3 : decode cL_isRight 3 = .ok (.istore 4, 2) := by decide +kernel
theorem dL_isRight_5 : decode cL_isRight 5 = .ok (.iload 4, 2) := by decide +kernel
theorem dL_isRight_7 : decode cL_isRight 7 = .ok (.aload_n 0, 1) := by decide +kernel
theorem dL_isRight_8 : decode cL_isRight 8 = .ok (.invokevirtual 25, 3) := by decide +kernel
theorem dL_isRight_11 : decode cL_isRight 11 = .ok (.if_icmp .ge 175, 3) := by decide +kernel
theorem dL_isRight_14 : decode cL_isRight 14 = .ok (.aload_n 0, 1) := by decide +kernel
theorem dL_isRight_15 : decode cL_isRight 15 = .ok (.iload 4, 2) := by decide +kernel
theorem dL_isRight_17 : decode cL_isRight 17 = .ok (.invokevirtual 29, 3) := by decide +kernel
theorem dL_isRight_20 : decode cL_isRight 20 = .ok (.ifCond .lt 38, 3) := by decide +kernel
theorem dL_isRight_23 : decode cL_isRight 23 = .ok (.iload_n 2, 1) := by decide +kernel
theorem dL_isRight_24 : decode cL_isRight 24 = .ok (.aload_n 0, 1) := by decide +kernel
theorem dL_isRight_25 : decode cL_isRight 25 = .ok (.iload 4, 2) := by decide +kernel
theorem dL_isRight_27 : decode cL_isRight 27 = .ok (.invokevirtual 29, 3) := by decide +kernel
theorem dL_isRight_30 : decode cL_isRight 30 = .ok (.if_icmp .lt 28, 3) := by decide +kernel
theorem dL_isRight_33 : decode cL_isRight 33 = .ok (.iload_n 2, 1) := by decide +kernel
theorem dL_isRight_34 : decode cL_isRight 34 = .ok (.aload_n 0, 1) := by decide +kernel
theorem dL_isRight_35 : decode cL_isRight 35 = .ok (.iload 4, 2) := by decide +kernel
theorem dL_isRight_37 : decode cL_isRight 37 = .ok (.invokevirtual 29, 3) := by decide +kernel
theorem dL_isRight_40 : decode cL_isRight 40 = .ok (.aload_n 0, 1) := by decide +kernel
theorem dL_isRight_41 : decode cL_isRight 41 = .ok (.aload_n 0, 1) := by decide +kernel
theorem dL_isRight_42 : decode cL_isRight 42 = .ok (.iload 4, 2) := by decide +kernel
theorem dL_isRight_44 : decode cL_isRight 44 = .ok (.invokevirtual 47, 3) := by decide +kernel
theorem dL_isRight_47 : decode cL_isRight 47 = .ok (.invokevirtual 80, 3) := by decide +kernel
theorem dL_isRight_50 : decode cL_isRight 50 = .ok (.iadd, 1) := by decide +kernel
theorem dL_isRight_51 : decode cL_isRight 51 = .ok (.if_icmp .ge 7, 3) := by decide +kernel
theorem dL_isRight_54 : decode cL_isRight 54 = .ok (.iconst 1, 1) := by decide +kernel
theorem dL_isRight_55 : decode cL_isRight 55 = .ok (.goto 4, 3) := by decide +kernel
theorem dL_isRight_58 : decode cL_isRight 58 = .ok (.iconst 0, 1) := by decide +kernel
theorem dL_isRight_59 : decode cL_isRight 59 = .ok (.istore 5, 2) := by decide +kernel
theorem dL_isRight_61 : decode cL_isRight 61 = .ok (.iconst 0, 1) := by decide +kernel
theorem dL_isRight_62 : decode cL_isRight 62 = .ok (.istore 6, 2) := by decide +kernel
theorem dL_isRight_64 : decode cL_isRight 64 = .ok (.iload 6, 2) := by decide +kernel
theorem dL_isRight_66 : decode cL_isRight 66 = .ok (.iconst 4, 1) := by decide +kernel
theorem dL_isRight_67 : decode cL_isRight 67 = .ok (.if_icmp .ge 60, 3) := by decide +kernel
theorem dL_isRight_70 : decode cL_isRight 70 = .ok (.iload_n 3, 1) := by decide +kernel
theorem dL_isRight_71 : decode cL_isRight 71 = .ok (.ifCond .eq 48, 3) := by decide +kernel
theorem dL_isRight_74 : decode cL_isRight 74 = .ok (.aload_n 0, 1) := by decide +kernel
theorem dL_isRight_75 : decode cL_isRight 75 = .ok (.iload 6, 2) := by decide +kernel
theorem dL_isRight_77 : decode cL_isRight 77 = .ok (.iload_n 2, 1) := by decide +kernel
theorem dL_isRight_78 : decode cL_isRight 78 = .ok (.invokevirtual 86, 3) := by decide +kernel
theorem dL_isRight_81 : decode cL_isRight 81 = .ok (.iload 4, 2) := by decide +kernel
theorem dL_isRight_83 : decode cL_isRight 83 = .ok (.if_icmp .ne 7, 3) := by decide +kernel
theorem dL_isRight_86 : decode cL_isRight 86 = .ok (.iconst 1, 1) := by decide +kernel
theorem dL_isRight_87 : decode cL_isRight 87 = .ok (.goto 4, 3) := by decide +kernel
theorem dL_isRight_90 : decode cL_isRight 90 = .ok (.iconst 0, 1) := by decide +kernel
theorem dL_isRight_91 : decode cL_isRight 91 = .ok (.iload 5, 2) := by decide +kernel
theorem dL_isRight_93 : decode cL_isRight 93 = .ok (.ifCond .eq 18, 3) := by decide +kernel
theorem dL_isRight_96 : decode cL_isRight 96 = .ok (.aload_n 0, 1) := by decide +kernel
theorem dL_isRight_97 : decode cL_isRight 97 = .ok (.iload 4, 2) := by decide +kernel
theorem dL_isRight_99 : decode cL_isRight 99 = .ok (.invokevirtual 62, 3) := by decide +kernel
theorem dL_isRight_102 : decode cL_isRight 102 = .ok (.iload 6, 2) := by decide +kernel
theorem dL_isRight_104 : decode cL_isRight 104 = .ok (.if_icmp .ne 7, 3) := by decide +kernel
theorem dL_isRight_107 : decode cL_isRight 107 = .ok (.iconst 1, 1) := by decide +kernel
theorem dL_isRight_108 : decode cL_isRight 108 = .ok (.goto 4, 3) := by decide +kernel
theorem dL_isRight_111 : decode cL_isRight 111 = .ok (.iconst 0, 1) := by decide +kernel
theorem dL_isRight_112 : decode cL_isRight 112 = .ok (.if_icmp .ne 7, 3) := by decide +kernel
theorem dL_isRight_115 : decode cL_isRight 115 = .ok (.iconst 1, 1) := by decide +kernel
theorem dL_isRight_116 : decode cL_isRight 116 = .ok (.goto 4, 3) := by decide +kernel
theorem dL_isRight_119 : decode cL_isRight 119 = .ok (.iconst 0, 1) := by decide +kernel
theorem dL_isRight_120 : decode cL_isRight 120 = .ok (.istore_n 3, 1) := by decide +kernel
theorem dL_isRight_121 : decode cL_isRight 121 = .ok (.iinc 6 1, 3) := by decide +kernel
theorem dL_isRight_124 : decode cL_isRight 124 = .ok (.goto (-60), 3) := by decide +kernel
theorem dL_isRight_127 : decode cL_isRight 127 = .ok (.iconst 0, 1) := by decide +kernel
theorem dL_isRight_128 : decode cL_isRight 128 = .ok (.istore 6, 2) := by decide +kernel
theorem dL_isRight_130 : decode cL_isRight 130 = .ok (.iload 6, 2) := by decide +kernel
theorem dL_isRight_132 : decode cL_isRight 132 = .ok (.iload_n 1, 1) := by decide +kernel
theorem dL_isRight_133 : decode cL_isRight 133 = .ok (.if_icmp .ge 47, 3) := by decide +kernel
theorem dL_isRight_136 : decode cL_isRight 136 = .ok (.iload_n 3, 1) := by decide +kernel
