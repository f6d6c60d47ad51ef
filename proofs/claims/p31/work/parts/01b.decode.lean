theorem dX0_init_0 : decode cX0_init 0 = .ok (.aload_n 0, 1) := by decide +kernel
theorem dX0_init_1 : decode cX0_init 1 = .ok (.invokespecial 3, 3) := by decide +kernel
theorem dX0_init_4 : decode cX0_init 4 = .ok (.aload_n 0, 1) := by decide +kernel
theorem dX0_init_5 : decode cX0_init 5 = .ok (.sipush 600, 3) := by decide +kernel
theorem dX0_init_8 : decode cX0_init 8 = .ok (.newarray .int, 2) := by decide +kernel
theorem dX0_init_10 : decode cX0_init 10 = .ok (.putfield 9, 3) := by decide +kernel
theorem dX0_init_13 : decode cX0_init 13 = .ok (.aload_n 0, 1) := by decide +kernel
theorem dX0_init_14 : decode cX0_init 14 = .ok (.sipush 601, 3) := by decide +kernel
theorem dX0_init_17 : decode cX0_init 17 = .ok (.newarray .int, 2) := by decide +kernel
theorem dX0_init_19 : decode cX0_init 19 = .ok (.putfield 15, 3) := by decide +kernel
theorem dX0_init_22 : decode cX0_init 22 = .ok (.iconst 0, 1) := by decide +kernel
theorem dX0_init_23 : decode cX0_init 23 = .ok (.istore_n 1, 1) := by decide +kernel
theorem dX0_init_24 : decode cX0_init 24 = .ok (.iload_n 1, 1) := by decide +kernel
theorem dX0_init_25 : decode cX0_init 25 = .ok (.sipush 600, 3) := by decide +kernel
theorem dX0_init_28 : decode cX0_init 28 = .ok (.if_icmp .ge 16, 3) := by decide +kernel
theorem dX0_init_31 : decode cX0_init 31 = .ok (.aload_n 0, 1) := by decide +kernel
theorem dX0_init_32 : decode cX0_init 32 = .ok (.getfield 9, 3) := by decide +kernel
theorem dX0_init_35 : decode cX0_init 35 = .ok (.iload_n 1, 1) := by decide +kernel
theorem dX0_init_36 : decode cX0_init 36 = .ok (.iconst (-1), 1) := by decide +kernel
theorem dX0_init_37 : decode cX0_init 37 = .ok (.iastore, 1) := by decide +kernel
theorem dX0_init_38 : decode cX0_init 38 = .ok (.iinc 1 1, 3) := by decide +kernel
theorem dX0_init_41 : decode cX0_init 41 = .ok (.goto (-17), 3) := by decide +kernel
theorem dX0_init_44 : decode cX0_init 44 = .ok (.return_, 1) := by decide +kernel
theorem dX0_at_0 : decode cX0_at 0 = .ok (.iload_n 1, 1) := by decide +kernel
theorem dX0_at_1 : decode cX0_at 1 = .ok (.invokestatic 18, 3) := by decide +kernel
theorem dX0_at_4 : decode cX0_at 4 = .ok (.ifCond .eq 12, 3) := by decide +kernel
theorem dX0_at_7 : decode cX0_at 7 = .ok (.aload_n 0, 1) := by decide +kernel
theorem dX0_at_8 : decode cX0_at 8 = .ok (.getfield 9, 3) := by decide +kernel
theorem dX0_at_11 : decode cX0_at 11 = .ok (.iload_n 1, 1) := by decide +kernel
theorem dX0_at_12 : decode cX0_at 12 = .ok (.iaload, 1) := by decide +kernel
theorem dX0_at_13 : decode cX0_at 13 = .ok (.goto 4, 3) := by decide +kernel
theorem dX0_at_16 : decode cX0_at 16 = .ok (.iconst (-1), 1) := by decide +kernel
theorem dX0_at_17 : decode cX0_at 17 = .ok (.ireturn, 1) := by decide +kernel
theorem dX0_isFree_0 : decode cX0_isFree 0 = .ok (.iload_n 1, 1) := by decide +kernel
theorem dX0_isFree_1 : decode cX0_isFree 1 = .ok (.ifCond .lt 15, 3) := by decide +kernel
theorem dX0_isFree_4 : decode cX0_isFree 4 = .ok (.iload_n 2, 1) := by decide +kernel
theorem dX0_isFree_5 : decode cX0_isFree 5 = .ok (.iload_n 1, 1) := by decide +kernel
theorem dX0_isFree_6 : decode cX0_isFree 6 = .ok (.if_icmp .lt 10, 3) := by decide +kernel
theorem dX0_isFree_9 : decode cX0_isFree 9 = .ok (.iload_n 2, 1) := by decide +kernel
theorem dX0_isFree_10 : decode cX0_isFree 10 = .ok (.sipush 600, 3) := by decide +kernel
theorem dX0_isFree_13 : decode cX0_isFree 13 = .ok (.if_icmp .le 5, 3) := by decide +kernel
theorem dX0_isFree_16 : decode cX0_isFree 16 = .ok (.iconst 0, 1) := by decide +kernel
theorem dX0_isFree_17 : decode cX0_isFree 17 = .ok (.ireturn, 1) := by decide +kernel
theorem dX0_isFree_18 : decode cX0_isFree 18 = .ok (.aload_n 0, 1) := by decide +kernel
theorem dX0_isFree_19 : decode cX0_isFree 19 = .ok (.getfield 15, 3) := by decide +kernel
theorem dX0_isFree_22 : decode cX0_isFree 22 = .ok (.iload_n 1, 1) := by decide +kernel
theorem dX0_isFree_23 : decode cX0_isFree 23 = .ok (.iaload, 1) := by decide +kernel
theorem dX0_isFree_24 : decode cX0_isFree 24 = .ok (.aload_n 0, 1) := by decide +kernel
theorem dX0_isFree_25 : decode cX0_isFree 25 = .ok (.getfield 15, 3) := by decide +kernel
theorem dX0_isFree_28 : decode cX0_isFree 28 = .ok (.iload_n 2, 1) := by decide +kernel
theorem dX0_isFree_29 : decode cX0_isFree 29 = .ok (.iaload, 1) := by decide +kernel
theorem dX0_isFree_30 : decode cX0_isFree 30 = .ok (.if_icmp .ne 7, 3) := by decide +kernel
theorem dX0_isFree_33 : decode cX0_isFree 33 = .ok (.iconst 1, 1) := by decide +kernel
theorem dX0_isFree_34 : decode cX0_isFree 34 = .ok (.goto 4, 3) := by decide +kernel
theorem dX0_isFree_37 : decode cX0_isFree 37 = .ok (.iconst 0, 1) := by decide +kernel
theorem dX0_isFree_38 : decode cX0_isFree 38 = .ok (.ireturn, 1) := by decide +kernel
theorem dX0_write_0 : decode cX0_write 0 = .ok (.iload_n 1, 1) := by decide +kernel
theorem dX0_write_1 : decode cX0_write 1 = .ok (.ifCond .lt 10, 3) := by decide +kernel
theorem dX0_write_4 : decode cX0_write 4 = .ok (.iload_n 2, 1) := by decide +kernel
theorem dX0_write_5 : decode cX0_write 5 = .ok (.sipush 600, 3) := by decide +kernel
theorem dX0_write_8 : decode cX0_write 8 = .ok (.if_icmp .le 4, 3) := by decide +kernel
theorem dX0_write_11 : decode cX0_write 11 = .ok (.return_, 1) := by decide +kernel
theorem dX0_write_12 : decode cX0_write 12 = .ok (.iload_n 1, 1) := by decide +kernel
theorem dX0_write_13 : decode cX0_write 13 = .ok (.istore 4, 2) := by decide +kernel
theorem dX0_write_15 : decode cX0_write 15 = .ok (.iload 4, 2) := by decide +kernel
theorem dX0_write_17 : decode cX0_write 17 = .ok (.iload_n 2, 1) := by decide +kernel
theorem dX0_write_18 : decode cX0_write 18 = .ok (.if_icmp .ge 17, 3) := by decide +kernel
theorem dX0_write_21 : decode cX0_write 21 = .ok (.aload_n 0, 1) := by decide +kernel
theorem dX0_write_22 : decode cX0_write 22 = .ok (.getfield 9, 3) := by decide +kernel
theorem dX0_write_25 : decode cX0_write 25 = .ok (.iload 4, 2) := by decide +kernel
theorem dX0_write_27 : decode cX0_write 27 = .ok (.iload_n 3, 1) := by decide +kernel
theorem dX0_write_28 : decode cX0_write 28 = .ok (.iastore, 1) := by decide +kernel
theorem dX0_write_29 : decode cX0_write 29 = .ok (.iinc 4 1, 3) := by decide +kernel
theorem dX0_write_32 : decode cX0_write 32 = .ok (.goto (-17), 3) := by decide +kernel
theorem dX0_write_35 : decode cX0_write 35 = .ok (.iload_n 1, 1) := by decide +kernel
theorem dX0_write_36 : decode cX0_write 36 = .ok (.istore 4, 2) := by decide +kernel
theorem dX0_write_38 : decode cX0_write 38 = .ok (.iload 4, 2) := by decide +kernel
theorem dX0_write_40 : decode cX0_write 40 = .ok (.sipush 600, 3) := by decide +kernel
theorem dX0_write_43 : decode cX0_write 43 = .ok (.if_icmp .ge 42, 3) := by decide +kernel
theorem dX0_write_46 : decode cX0_write 46 = .ok (.aload_n 0, 1) := by decide +kernel
theorem dX0_write_47 : decode cX0_write 47 = .ok (.getfield 15, 3) := by decide +kernel
theorem dX0_write_50 : decode cX0_write 50 = .ok (.iload 4, 2) := by decide +kernel
theorem dX0_write_52 : decode cX0_write 52 = .ok (.iconst 1, 1) := by decide +kernel
theorem dX0_write_53 : decode cX0_write 53 = .ok (.iadd, 1) := by decide +kernel
theorem dX0_write_54 : decode cX0_write 54 = .ok (.aload_n 0, 1) := by decide +kernel
theorem dX0_write_55 : decode cX0_write 55 = .ok (.getfield 15, 3) := by decide +kernel
theorem dX0_write_58 : decode cX0_write 58 = .ok (.iload 4, 2) := by decide +kernel
theorem dX0_write_60 : decode cX0_write 60 = .ok (.iaload, 1) := by decide +kernel
theorem dX0_write_61 : decode cX0_write 61 = .ok (.aload_n 0, 1) := by decide +kernel
theorem dX0_write_62 : decode cX0_write 62 = .ok (.getfield 9, 3) := by decide +kernel
theorem dX0_write_65 : decode cX0_write 65 = .ok (.iload 4, 2) := by decide +kernel
theorem dX0_write_67 : decode cX0_write 67 = .ok (.iaload, 1) := by decide +kernel
theorem dX0_write_68 : decode cX0_write 68 = .ok (.iconst (-1), 1) := by decide +kernel
theorem dX0_write_69 : decode cX0_write 69 = .ok (.if_icmp .ne 7, 3) := by decide +kernel
theorem dX0_write_72 : decode cX0_write 72 = .ok (.iconst 0, 1) := by decide +kernel
theorem dX0_write_73 : decode cX0_write 73 = .ok (.goto 4, 3) := by decide +kernel
theorem dX0_write_76 : decode cX0_write 76 = .ok (.iconst 1, 1) := by decide +kernel
theorem dX0_write_77 : decode cX0_write 77 = .ok (.iadd, 1) := by decide +kernel
theorem dX0_write_78 : decode cX0_write 78 = .ok (.iastore, 1) := by decide +kernel
theorem dX0_write_79 : decode cX0_write 79 = .ok (.iinc 4 1, 3) := by decide +kernel
theorem dX0_write_82 : decode cX0_write 82 = .ok (.goto (-44), 3) := by decide +kernel
theorem dX0_write_85 : decode cX0_write 85 = .ok (.return_, 1) := by decide +kernel
theorem dX1_init_0 : decode cX1_init 0 = .ok (.aload_n 0, 1) := by decide +kernel
theorem dX1_init_1 : decode cX1_init 1 = .ok (.invokespecial 1, 3) := by decide +kernel
theorem dX1_init_4 : decode cX1_init 4 = .ok (.aload_n 0, 1) := by decide +kernel
theorem dX1_init_5 : decode cX1_init 5 = .ok (.new 7, 3) := by decide +kernel
theorem dX1_init_8 : decode cX1_init 8 = .ok (.dup, 1) := by decide +kernel
theorem dX1_init_9 : decode cX1_init 9 = .ok (.invokespecial 9, 3) := by decide +kernel
theorem dX1_init_12 : decode cX1_init 12 = .ok (.putfield 10, 3) := by decide +kernel
theorem dX1_init_15 : decode cX1_init 15 = .ok (.aload_n 0, 1) := by decide +kernel
theorem dX1_init_16 : decode cX1_init 16 = .ok (.iload_n 1, 1) := by decide +kernel
theorem dX1_init_17 : decode cX1_init 17 = .ok (.putfield 16, 3) := by decide +kernel
theorem dX1_init_20 : decode cX1_init 20 = .ok (.aload_n 0, 1) := by decide +kernel
theorem dX1_init_21 : decode cX1_init 21 = .ok (.iload_n 2, 1) := by decide +kernel
theorem dX1_init_22 : decode cX1_init 22 = .ok (.putfield 20, 3) := by decide +kernel
theorem dX1_init_25 : decode cX1_init 25 = .ok (.aload_n 0, 1) := by decide +kernel
theorem dX1_init_26 : decode cX1_init 26 = .ok (.iload_n 3, 1) := by decide +kernel
theorem dX1_init_27 : decode cX1_init 27 = .ok (.putfield 23, 3) := by decide +kernel
theorem dX1_init_30 : decode cX1_init 30 = .ok (.return_, 1) := by decide +kernel
theorem dX1_canTake_0 : decode cX1_canTake 0 = .ok (.aload_n 0, 1) := by decide +kernel
theorem dX1_canTake_1 : decode cX1_canTake 1 = .ok (.getfield 16, 3) := by decide +kernel
theorem dX1_canTake_4 : decode cX1_canTake 4 = .ok (.aload_n 1, 1) := by decide +kernel
theorem dX1_canTake_5 : decode cX1_canTake 5 = .ok (.getfield 26, 3) := by decide +kernel
theorem dX1_canTake_8 : decode cX1_canTake 8 = .ok (.iand, 1) := by decide +kernel
theorem dX1_canTake_9 : decode cX1_canTake 9 = .ok (.aload_n 1, 1) := by decide +kernel
theorem dX1_canTake_10 : decode cX1_canTake 10 = .ok (.getfield 26, 3) := by decide +kernel
theorem dX1_canTake_13 : decode cX1_canTake 13 = .ok (.if_icmp .eq 5, 3) := by decide +kernel
theorem dX1_canTake_16 : decode cX1_canTake 16 = .ok (.iconst 0, 1) := by decide +kernel
theorem dX1_canTake_17 : decode cX1_canTake 17 = .ok (.ireturn, 1) := by decide +kernel
theorem dX1_canTake_18 : decode cX1_canTake 18 = .ok (.iload_n 2, 1) := by decide +kernel
theorem dX1_canTake_19 : decode cX1_canTake 19 = .ok (.aload_n 0, 1) := by decide +kernel
theorem dX1_canTake_20 : decode cX1_canTake 20 = .ok (.getfield 20, 3) := by decide +kernel
theorem dX1_canTake_23 : decode cX1_canTake 23 = .ok (.if_icmp .lt 16, 3) := by decide +kernel
theorem dX1_canTake_26 : decode cX1_canTake 26 = .ok (.iload_n 2, 1) := by decide +kernel
theorem dX1_canTake_27 : decode cX1_canTake 27 = .ok (.aload_n 1, 1) := by decide +kernel
theorem dX1_canTake_28 : decode cX1_canTake 28 = .ok (.getfield 29, 3) := by decide +kernel
theorem dX1_canTake_31 : decode cX1_canTake 31 = .ok (.iadd, 1) := by decide +kernel
theorem dX1_canTake_32 : decode cX1_canTake 32 = .ok (.aload_n 0, 1) := by decide +kernel
theorem dX1_canTake_33 : decode cX1_canTake 33 = .ok (.getfield 23, 3) := by decide +kernel
theorem dX1_canTake_36 : decode cX1_canTake 36 = .ok (.if_icmp .le 5, 3) := by decide +kernel
theorem dX1_canTake_39 : decode cX1_canTake 39 = .ok (.iconst 0, 1) := by decide +kernel
theorem dX1_canTake_40 : decode cX1_canTake 40 = .ok (.ireturn, 1) := by decide +kernel
theorem dX1_canTake_41 : decode cX1_canTake 41 = .ok (.iconst 0, 1) := by decide +kernel
theorem dX1_canTake_42 : decode cX1_canTake 42 = .ok (.istore_n 3, 1) := by decide +kernel
theorem dX1_canTake_43 : decode cX1_canTake 43 = .ok (.iload_n 3, 1) := by decide +kernel
theorem dX1_canTake_44 : decode cX1_canTake 44 = .ok (.aload_n 1, 1) := by decide +kernel
theorem dX1_canTake_45 : decode cX1_canTake 45 = .ok (.getfield 32, 3) := by decide +kernel
theorem dX1_canTake_48 : decode cX1_canTake 48 = .ok (.if_icmp .ge 51, 3) := by decide +kernel
theorem dX1_canTake_51 : decode cX1_canTake 51 = .ok (.iload_n 2, 1) := by decide +kernel
theorem dX1_canTake_52 : decode cX1_canTake 52 = .ok (.aload_n 1, 1) := by decide +kernel
theorem dX1_canTake_53 : decode cX1_canTake 53 = .ok (.iload_n 3, 1) := by decide +kernel
theorem dX1_canTake_54 : decode cX1_canTake 54 = .ok (.invokevirtual 35, 3) := by decide +kernel
theorem dX1_canTake_57 : decode cX1_canTake 57 = .ok (.iadd, 1) := by decide +kernel
theorem dX1_canTake_58 : decode cX1_canTake 58 = .ok (.istore 4, 2) := by decide +kernel
theorem dX1_canTake_60 : decode cX1_canTake 60 = .ok (.iload_n 2, 1) := by decide +kernel
theorem dX1_canTake_61 : decode cX1_canTake 61 = .ok (.aload_n 1, 1) := by decide +kernel
theorem dX1_canTake_62 : decode cX1_canTake 62 = .ok (.iload_n 3, 1) := by decide +kernel
theorem dX1_canTake_63 : decode cX1_canTake 63 = .ok (.invokevirtual 39, 3) := by decide +kernel
theorem dX1_canTake_66 : decode cX1_canTake 66 = .ok (.iadd, 1) := by decide +kernel
theorem dX1_canTake_67 : decode cX1_canTake 67 = .ok (.istore 5, 2) := by decide +kernel
theorem dX1_canTake_69 : decode cX1_canTake 69 = .ok (.aload_n 1, 1) := by decide +kernel
theorem dX1_canTake_70 : decode cX1_canTake 70 = .ok (.iload_n 3, 1) := by decide +kernel
theorem dX1_canTake_71 : decode cX1_canTake 71 = .ok (.invokevirtual 42, 3) := by decide +kernel
theorem dX1_canTake_74 : decode cX1_canTake 74 = .ok (.ifCond .ne 19, 3) := by decide +kernel
theorem dX1_canTake_77 : decode cX1_canTake 77 = .ok (.aload_n 0, 1) := by decide +kernel
theorem dX1_canTake_78 : decode cX1_canTake 78 = .ok (.getfield 10, 3) := by decide +kernel
theorem dX1_canTake_81 : decode cX1_canTake 81 = .ok (.iload 4, 2) := by decide +kernel
theorem dX1_canTake_83 : decode cX1_canTake 83 = .ok (.iload 5, 2) := by decide +kernel
theorem dX1_canTake_85 : decode cX1_canTake 85 = .ok (.invokevirtual 46, 3) := by decide +kernel
theorem dX1_canTake_88 : decode cX1_canTake 88 = .ok (.ifCond .ne 5, 3) := by decide +kernel
theorem dX1_canTake_91 : decode cX1_canTake 91 = .ok (.iconst 0, 1) := by decide +kernel
theorem dX1_canTake_92 : decode cX1_canTake 92 = .ok (.ireturn, 1) := by decide +kernel
theorem dX1_canTake_93 : decode cX1_canTake 93 = .ok (.iinc 3 1, 3) := by decide +kernel
theorem dX1_canTake_96 : decode cX1_canTake 96 = .ok (.goto (-53), 3) := by decide +kernel
theorem dX1_canTake_99 : decode cX1_canTake 99 = .ok (.iconst 1, 1) := by decide +kernel
theorem dX1_canTake_100 : decode cX1_canTake 100 = .ok (.ireturn, 1) := by decide +kernel
theorem dX2_init_0 : decode cX2_init 0 = .ok (.aload_n 0, 1) := by decide +kernel
theorem dX2_init_1 : decode cX2_init 1 = .ok (.invokespecial 3, 3) := by decide +kernel
theorem dX2_init_4 : decode cX2_init 4 = .ok (.aload_n 0, 1) := by decide +kernel
theorem dX2_init_5 : decode cX2_init 5 = .ok (.sipush 600, 3) := by decide +kernel
theorem dX2_init_8 : decode cX2_init 8 = .ok (.newarray .boolean, 2) := by decide +kernel
theorem dX2_init_10 : decode cX2_init 10 = .ok (.putfield 9, 3) := by decide +kernel
theorem dX2_init_13 : decode cX2_init 13 = .ok (.return_, 1) := by decide +kernel
theorem dX2_clear_0 : decode cX2_clear 0 = .ok (.iconst 0, 1) := by decide +kernel
theorem dX2_clear_1 : decode cX2_clear 1 = .ok (.istore_n 1, 1) := by decide +kernel
theorem dX2_clear_2 : decode cX2_clear 2 = .ok (.iload_n 1, 1) := by decide +kernel
theorem dX2_clear_3 : decode cX2_clear 3 = .ok (.sipush 600, 3) := by decide +kernel
theorem dX2_clear_6 : decode cX2_clear 6 = .ok (.if_icmp .ge 16, 3) := by decide +kernel
theorem dX2_clear_9 : decode cX2_clear 9 = .ok (.aload_n 0, 1) := by decide +kernel
theorem dX2_clear_10 : decode cX2_clear 10 = .ok (.getfield 9, 3) := by decide +kernel
theorem dX2_clear_13 : decode cX2_clear 13 = .ok (.iload_n 1, 1) := by decide +kernel
theorem dX2_clear_14 : decode cX2_clear 14 = .ok (.iconst 0, 1) := by decide +kernel
theorem dX2_clear_15 : decode cX2_clear 15 = .ok (.bastore, 1) := by decide +kernel
theorem dX2_clear_16 : decode cX2_clear 16 = .ok (.iinc 1 1, 3) := by decide +kernel
theorem dX2_clear_19 : decode cX2_clear 19 = .ok (.goto (-17), 3) := by decide +kernel
theorem dX2_clear_22 : decode cX2_clear 22 = .ok (.return_, 1) := by decide +kernel
theorem dX2_add_0 : decode cX2_add 0 = .ok (.iload_n 1, 1) := by decide +kernel
theorem dX2_add_1 : decode cX2_add 1 = .ok (.invokestatic 15, 3) := by decide +kernel
theorem dX2_add_4 : decode cX2_add 4 = .ok (.ifCond .eq 10, 3) := by decide +kernel
theorem dX2_add_7 : decode cX2_add 7 = .ok (.aload_n 0, 1) := by decide +kernel
theorem dX2_add_8 : decode cX2_add 8 = .ok (.getfield 9, 3) := by decide +kernel
theorem dX2_add_11 : decode cX2_add 11 = .ok (.iload_n 1, 1) := by decide +kernel
theorem dX2_add_12 : decode cX2_add 12 = .ok (.iconst 1, 1) := by decide +kernel
theorem dX2_add_13 : decode cX2_add 13 = .ok (.bastore, 1) := by decide +kernel
theorem dX2_add_14 : decode cX2_add 14 = .ok (.return_, 1) := by decide +kernel
theorem dX2_has_0 : decode cX2_has 0 = .ok (.iload_n 1, 1) := by decide +kernel
theorem dX2_has_1 : decode cX2_has 1 = .ok (.invokestatic 15, 3) := by decide +kernel
theorem dX2_has_4 : decode cX2_has 4 = .ok (.ifCond .eq 16, 3) := by decide +kernel
theorem dX2_has_7 : decode cX2_has 7 = .ok (.aload_n 0, 1) := by decide +kernel
theorem dX2_has_8 : decode cX2_has 8 = .ok (.getfield 9, 3) := by decide +kernel
theorem dX2_has_11 : decode cX2_has 11 = .ok (.iload_n 1, 1) := by decide +kernel
theorem dX2_has_12 : decode cX2_has 12 = .ok (.baload, 1) := by decide +kernel
theorem dX2_has_13 : decode cX2_has 13 = .ok (.ifCond .eq 7, 3) := by decide +kernel
theorem dX2_has_16 : decode cX2_has 16 = .ok (.iconst 1, 1) := by decide +kernel
theorem dX2_has_17 : decode cX2_has 17 = .ok (.goto 4, 3) := by decide +kernel
theorem dX2_has_20 : decode cX2_has 20 = .ok (.iconst 0, 1) := by decide +kernel
theorem dX2_has_21 : decode cX2_has 21 = .ok (.ireturn, 1) := by decide +kernel
theorem dX3_init_0 : decode cX3_init 0 = .ok (.aload_n 0, 1) := by decide +kernel
theorem dX3_init_1 : decode cX3_init 1 = .ok (.invokespecial 1, 3) := by decide +kernel
theorem dX3_init_4 : decode cX3_init 4 = .ok (.aload_n 0, 1) := by decide +kernel
theorem dX3_init_5 : decode cX3_init 5 = .ok (.aload_n 1, 1) := by decide +kernel
theorem dX3_init_6 : decode cX3_init 6 = .ok (.putfield 7, 3) := by decide +kernel
theorem dX3_init_9 : decode cX3_init 9 = .ok (.aload_n 0, 1) := by decide +kernel
theorem dX3_init_10 : decode cX3_init 10 = .ok (.iload_n 2, 1) := by decide +kernel
theorem dX3_init_11 : decode cX3_init 11 = .ok (.putfield 13, 3) := by decide +kernel
theorem dX3_init_14 : decode cX3_init 14 = .ok (.return_, 1) := by decide +kernel
theorem dX4_init_0 : decode cX4_init 0 = .ok (.aload_n 0, 1) := by decide +kernel
theorem dX4_init_1 : decode cX4_init 1 = .ok (.invokespecial 3, 3) := by decide +kernel
theorem dX4_init_4 : decode cX4_init 4 = .ok (.aload_n 0, 1) := by decide +kernel
theorem dX4_init_5 : decode cX4_init 5 = .ok (.iconst 5, 1) := by decide +kernel
theorem dX4_init_6 : decode cX4_init 6 = .ok (.newarray .int, 2) := by decide +kernel
theorem dX4_init_8 : decode cX4_init 8 = .ok (.putfield 9, 3) := by decide +kernel
theorem dX4_init_11 : decode cX4_init 11 = .ok (.aload_n 0, 1) := by decide +kernel
theorem dX4_init_12 : decode cX4_init 12 = .ok (.iconst 5, 1) := by decide +kernel
theorem dX4_init_13 : decode cX4_init 13 = .ok (.newarray .int, 2) := by decide +kernel
theorem dX4_init_15 : decode cX4_init 15 = .ok (.putfield 15, 3) := by decide +kernel
theorem dX4_init_18 : decode cX4_init 18 = .ok (.aload_n 0, 1) := by decide +kernel
theorem dX4_init_19 : decode cX4_init 19 = .ok (.iconst 5, 1) := by decide +kernel
theorem dX4_init_20 : decode cX4_init 20 = .ok (.newarray .int, 2) := by decide +kernel
theorem dX4_init_22 : decode cX4_init 22 = .ok (.putfield 18, 3) := by decide +kernel
theorem dX4_init_25 : decode cX4_init 25 = .ok (.aload_n 0, 1) := by decide +kernel
theorem dX4_init_26 : decode cX4_init 26 = .ok (.iload_n 1, 1) := by decide +kernel
theorem dX4_init_27 : decode cX4_init 27 = .ok (.putfield 21, 3) := by decide +kernel
theorem dX4_init_30 : decode cX4_init 30 = .ok (.return_, 1) := by decide +kernel
theorem dX4_append_0 : decode cX4_append 0 = .ok (.aload_n 0, 1) := by decide +kernel
theorem dX4_append_1 : decode cX4_append 1 = .ok (.getfield 25, 3) := by decide +kernel
theorem dX4_append_4 : decode cX4_append 4 = .ok (.ifCond .lt 11, 3) := by decide +kernel
theorem dX4_append_7 : decode cX4_append 7 = .ok (.aload_n 0, 1) := by decide +kernel
theorem dX4_append_8 : decode cX4_append 8 = .ok (.getfield 25, 3) := by decide +kernel
theorem dX4_append_11 : decode cX4_append 11 = .ok (.iconst 5, 1) := by decide +kernel
theorem dX4_append_12 : decode cX4_append 12 = .ok (.if_icmp .lt 4, 3) := by decide +kernel
theorem dX4_append_15 : decode cX4_append 15 = .ok (.return_, 1) := by decide +kernel
theorem dX4_append_16 : decode cX4_append 16 = .ok (.aload_n 0, 1) := by decide +kernel
theorem dX4_append_17 : decode cX4_append 17 = .ok (.getfield 9, 3) := by decide +kernel
theorem dX4_append_20 : decode cX4_append 20 = .ok (.aload_n 0, 1) := by decide +kernel
theorem dX4_append_21 : decode cX4_append 21 = .ok (.getfield 25, 3) := by decide +kernel
theorem dX4_append_24 : decode cX4_append 24 = .ok (.iload_n 1, 1) := by decide +kernel
theorem dX4_append_25 : decode cX4_append 25 = .ok (.iastore, 1) := by decide +kernel
theorem dX4_append_26 : decode cX4_append 26 = .ok (.aload_n 0, 1) := by decide +kernel
theorem dX4_append_27 : decode cX4_append 27 = .ok (.getfield 15, 3) := by decide +kernel
theorem dX4_append_30 : decode cX4_append 30 = .ok (.aload_n 0, 1) := by decide +kernel
theorem dX4_append_31 : decode cX4_append 31 = .ok (.getfield 25, 3) := by decide +kernel
theorem dX4_append_34 : decode cX4_append 34 = .ok (.aload_n 0, 1) := by decide +kernel
theorem dX4_append_35 : decode cX4_append 35 = .ok (.getfield 28, 3) := by decide +kernel
theorem dX4_append_38 : decode cX4_append 38 = .ok (.iastore, 1) := by decide +kernel
theorem dX4_append_39 : decode cX4_append 39 = .ok (.aload_n 0, 1) := by decide +kernel
theorem dX4_append_40 : decode cX4_append 40 = .ok (.getfield 18, 3) := by decide +kernel
theorem dX4_append_43 : decode cX4_append 43 = .ok (.aload_n 0, 1) := by decide +kernel
theorem dX4_append_44 : decode cX4_append 44 = .ok (.getfield 25, 3) := by decide +kernel
theorem dX4_append_47 : decode cX4_append 47 = .ok (.aload_n 0, 1) := by decide +kernel
theorem dX4_append_48 : decode cX4_append 48 = .ok (.getfield 28, 3) := by decide +kernel
theorem dX4_append_51 : decode cX4_append 51 = .ok (.iload_n 2, 1) := by decide +kernel
theorem dX4_append_52 : decode cX4_append 52 = .ok (.iadd, 1) := by decide +kernel
theorem dX4_append_53 : decode cX4_append 53 = .ok (.iastore, 1) := by decide +kernel
theorem dX4_append_54 : decode cX4_append 54 = .ok (.aload_n 0, 1) := by decide +kernel
theorem dX4_append_55 : decode cX4_append 55 = .ok (.dup, 1) := by decide +kernel
theorem dX4_append_56 : decode cX4_append 56 = .ok (.getfield 25, 3) := by decide +kernel
theorem dX4_append_59 : decode cX4_append 59 = .ok (.iconst 1, 1) := by decide +kernel
theorem dX4_append_60 : decode cX4_append 60 = .ok (.iadd, 1) := by decide +kernel
theorem dX4_append_61 : decode cX4_append 61 = .ok (.putfield 25, 3) := by decide +kernel
theorem dX4_append_64 : decode cX4_append 64 = .ok (.aload_n 0, 1) := by decide +kernel
theorem dX4_append_65 : decode cX4_append 65 = .ok (.dup, 1) := by decide +kernel
theorem dX4_append_66 : decode cX4_append 66 = .ok (.getfield 28, 3) := by decide +kernel
theorem dX4_append_69 : decode cX4_append 69 = .ok (.iload_n 2, 1) := by decide +kernel
theorem dX4_append_70 : decode cX4_append 70 = .ok (.iadd, 1) := by decide +kernel
theorem dX4_append_71 : decode cX4_append 71 = .ok (.putfield 28, 3) := by decide +kernel
theorem dX4_append_74 : decode cX4_append 74 = .ok (.iload_n 1, 1) := by decide +kernel
theorem dX4_append_75 : decode cX4_append 75 = .ok (.iconst (-1), 1) := by decide +kernel
theorem dX4_append_76 : decode cX4_append 76 = .ok (.if_icmp .eq 25, 3) := by decide +kernel
theorem dX4_append_79 : decode cX4_append 79 = .ok (.aload_n 0, 1) := by decide +kernel
theorem dX4_append_80 : decode cX4_append 80 = .ok (.dup, 1) := by decide +kernel
theorem dX4_append_81 : decode cX4_append 81 = .ok (.getfield 31, 3) := by decide +kernel
theorem dX4_append_84 : decode cX4_append 84 = .ok (.iload_n 2, 1) := by decide +kernel
theorem dX4_append_85 : decode cX4_append 85 = .ok (.iadd, 1) := by decide +kernel
theorem dX4_append_86 : decode cX4_append 86 = .ok (.putfield 31, 3) := by decide +kernel
theorem dX4_append_89 : decode cX4_append 89 = .ok (.aload_n 0, 1) := by decide +kernel
theorem dX4_append_90 : decode cX4_append 90 = .ok (.dup, 1) := by decide +kernel
theorem dX4_append_91 : decode cX4_append 91 = .ok (.getfield 34, 3) := by decide +kernel
theorem dX4_append_94 : decode cX4_append 94 = .ok (.iconst 1, 1) := by decide +kernel
theorem dX4_append_95 : decode cX4_append 95 = .ok (.iload_n 1, 1) := by decide +kernel
theorem dX4_append_96 : decode cX4_append 96 = .ok (.ishl, 1) := by decide +kernel
theorem dX4_append_97 : decode cX4_append 97 = .ok (.ior, 1) := by decide +kernel
theorem dX4_append_98 : decode cX4_append 98 = .ok (.putfield 34, 3) := by decide +kernel
theorem dX4_append_101 : decode cX4_append 101 = .ok (.return_, 1) := by decide +kernel
theorem dX4_isRest_0 : decode cX4_isRest 0 = .ok (.iload_n 1, 1) := by decide +kernel
theorem dX4_isRest_1 : decode cX4_isRest 1 = .ok (.ifCond .lt 22, 3) := by decide +kernel
theorem dX4_isRest_4 : decode cX4_isRest 4 = .ok (.iload_n 1, 1) := by decide +kernel
theorem dX4_isRest_5 : decode cX4_isRest 5 = .ok (.iconst 5, 1) := by decide +kernel
theorem dX4_isRest_6 : decode cX4_isRest 6 = .ok (.if_icmp .ge 17, 3) := by decide +kernel
theorem dX4_isRest_9 : decode cX4_isRest 9 = .ok (.aload_n 0, 1) := by decide +kernel
theorem dX4_isRest_10 : decode cX4_isRest 10 = .ok (.getfield 9, 3) := by decide +kernel
theorem dX4_isRest_13 : decode cX4_isRest 13 = .ok (.iload_n 1, 1) := by decide +kernel
theorem dX4_isRest_14 : decode cX4_isRest 14 = .ok (.iaload, 1) := by decide +kernel
theorem dX4_isRest_15 : decode cX4_isRest 15 = .ok (.iconst (-1), 1) := by decide +kernel
theorem dX4_isRest_16 : decode cX4_isRest 16 = .ok (.if_icmp .ne 7, 3) := by decide +kernel
theorem dX4_isRest_19 : decode cX4_isRest 19 = .ok (.iconst 1, 1) := by decide +kernel
theorem dX4_isRest_20 : decode cX4_isRest 20 = .ok (.goto 4, 3) := by decide +kernel
theorem dX4_isRest_23 : decode cX4_isRest 23 = .ok (.iconst 0, 1) := by decide +kernel
theorem dX4_isRest_24 : decode cX4_isRest 24 = .ok (.ireturn, 1) := by decide +kernel
theorem dX4_stepFrom_0 : decode cX4_stepFrom 0 = .ok (.iload_n 1, 1) := by decide +kernel
theorem dX4_stepFrom_1 : decode cX4_stepFrom 1 = .ok (.ifCond .lt 17, 3) := by decide +kernel
theorem dX4_stepFrom_4 : decode cX4_stepFrom 4 = .ok (.iload_n 1, 1) := by decide +kernel
theorem dX4_stepFrom_5 : decode cX4_stepFrom 5 = .ok (.iconst 5, 1) := by decide +kernel
theorem dX4_stepFrom_6 : decode cX4_stepFrom 6 = .ok (.if_icmp .ge 12, 3) := by decide +kernel
theorem dX4_stepFrom_9 : decode cX4_stepFrom 9 = .ok (.aload_n 0, 1) := by decide +kernel
theorem dX4_stepFrom_10 : decode cX4_stepFrom 10 = .ok (.getfield 15, 3) := by decide +kernel
theorem dX4_stepFrom_13 : decode cX4_stepFrom 13 = .ok (.iload_n 1, 1) := by decide +kernel
theorem dX4_stepFrom_14 : decode cX4_stepFrom 14 = .ok (.iaload, 1) := by decide +kernel
theorem dX4_stepFrom_15 : decode cX4_stepFrom 15 = .ok (.goto 4, 3) := by decide +kernel
theorem dX4_stepFrom_18 : decode cX4_stepFrom 18 = .ok (.iconst 0, 1) := by decide +kernel
theorem dX4_stepFrom_19 : decode cX4_stepFrom 19 = .ok (.ireturn, 1) := by decide +kernel
theorem dX4_stepTo_0 : decode cX4_stepTo 0 = .ok (.iload_n 1, 1) := by decide +kernel
theorem dX4_stepTo_1 : decode cX4_stepTo 1 = .ok (.ifCond .lt 17, 3) := by decide +kernel
theorem dX4_stepTo_4 : decode cX4_stepTo 4 = .ok (.iload_n 1, 1) := by decide +kernel
theorem dX4_stepTo_5 : decode cX4_stepTo 5 = .ok (.iconst 5, 1) := by decide +kernel
theorem dX4_stepTo_6 : decode cX4_stepTo 6 = .ok (.if_icmp .ge 12, 3) := by decide +kernel
theorem dX4_stepTo_9 : decode cX4_stepTo 9 = .ok (.aload_n 0, 1) := by decide +kernel
theorem dX4_stepTo_10 : decode cX4_stepTo 10 = .ok (.getfield 18, 3) := by decide +kernel
theorem dX4_stepTo_13 : decode cX4_stepTo 13 = .ok (.iload_n 1, 1) := by decide +kernel
theorem dX4_stepTo_14 : decode cX4_stepTo 14 = .ok (.iaload, 1) := by decide +kernel
theorem dX4_stepTo_15 : decode cX4_stepTo 15 = .ok (.goto 4, 3) := by decide +kernel
theorem dX4_stepTo_18 : decode cX4_stepTo 18 = .ok (.iconst 0, 1) := by decide +kernel
theorem dX4_stepTo_19 : decode cX4_stepTo 19 = .ok (.ireturn, 1) := by decide +kernel
theorem dX5_init_0 : decode cX5_init 0 = .ok (.aload_n 0, 1) := by decide +kernel
theorem dX5_init_1 : decode cX5_init 1 = .ok (.invokespecial 3, 3) := by decide +kernel
theorem dX5_init_4 : decode cX5_init 4 = .ok (.aload_n 0, 1) := by decide +kernel
theorem dX5_init_5 : decode cX5_init 5 = .ok (.iconst (-1), 1) := by decide +kernel
theorem dX5_init_6 : decode cX5_init 6 = .ok (.putfield 9, 3) := by decide +kernel
theorem dX5_init_9 : decode cX5_init 9 = .ok (.aload_n 0, 1) := by decide +kernel
theorem dX5_init_10 : decode cX5_init 10 = .ok (.iconst (-1), 1) := by decide +kernel
theorem dX5_init_11 : decode cX5_init 11 = .ok (.putfield 15, 3) := by decide +kernel
theorem dX5_init_14 : decode cX5_init 14 = .ok (.aload_n 0, 1) := by decide +kernel
theorem dX5_init_15 : decode cX5_init 15 = .ok (.iconst (-1), 1) := by decide +kernel
theorem dX5_init_16 : decode cX5_init 16 = .ok (.putfield 18, 3) := by decide +kernel
theorem dX5_init_19 : decode cX5_init 19 = .ok (.aload_n 0, 1) := by decide +kernel
theorem dX5_init_20 : decode cX5_init 20 = .ok (.iload_n 1, 1) := by decide +kernel
theorem dX5_init_21 : decode cX5_init 21 = .ok (.putfield 21, 3) := by decide +kernel
theorem dX5_init_24 : decode cX5_init 24 = .ok (.aload_n 0, 1) := by decide +kernel
theorem dX5_init_25 : decode cX5_init 25 = .ok (.aload_n 2, 1) := by decide +kernel
theorem dX5_init_26 : decode cX5_init 26 = .ok (.putfield 24, 3) := by decide +kernel
theorem dX5_init_29 : decode cX5_init 29 = .ok (.return_, 1) := by decide +kernel
theorem dX5_isDropped_0 : decode cX5_isDropped 0 = .ok (.aload_n 0, 1) := by decide +kernel
theorem dX5_isDropped_1 : decode cX5_isDropped 1 = .ok (.getfield 18, 3) := by decide +kernel
theorem dX5_isDropped_4 : decode cX5_isDropped 4 = .ok (.iconst (-1), 1) := by decide +kernel
theorem dX5_isDropped_5 : decode cX5_isDropped 5 = .ok (.if_icmp .ne 7, 3) := by decide +kernel
theorem dX5_isDropped_8 : decode cX5_isDropped 8 = .ok (.iconst 1, 1) := by decide +kernel
theorem dX5_isDropped_9 : decode cX5_isDropped 9 = .ok (.goto 4, 3) := by decide +kernel
theorem dX5_isDropped_12 : decode cX5_isDropped 12 = .ok (.iconst 0, 1) := by decide +kernel
theorem dX5_isDropped_13 : decode cX5_isDropped 13 = .ok (.ireturn, 1) := by decide +kernel
theorem dX6_init_0 : decode cX6_init 0 = .ok (.aload_n 0, 1) := by decide +kernel
theorem dX6_init_1 : decode cX6_init 1 = .ok (.invokespecial 1, 3) := by decide +kernel
theorem dX6_init_4 : decode cX6_init 4 = .ok (.aload_n 0, 1) := by decide +kernel
theorem dX6_init_5 : decode cX6_init 5 = .ok (.new 7, 3) := by decide +kernel
theorem dX6_init_8 : decode cX6_init 8 = .ok (.dup, 1) := by decide +kernel
theorem dX6_init_9 : decode cX6_init 9 = .ok (.invokespecial 9, 3) := by decide +kernel
theorem dX6_init_12 : decode cX6_init 12 = .ok (.putfield 10, 3) := by decide +kernel
theorem dX6_init_15 : decode cX6_init 15 = .ok (.aload_n 0, 1) := by decide +kernel
theorem dX6_init_16 : decode cX6_init 16 = .ok (.new 7, 3) := by decide +kernel
theorem dX6_init_19 : decode cX6_init 19 = .ok (.dup, 1) := by decide +kernel
theorem dX6_init_20 : decode cX6_init 20 = .ok (.invokespecial 9, 3) := by decide +kernel
theorem dX6_init_23 : decode cX6_init 23 = .ok (.putfield 16, 3) := by decide +kernel
theorem dX6_init_26 : decode cX6_init 26 = .ok (.aload_n 0, 1) := by decide +kernel
theorem dX6_init_27 : decode cX6_init 27 = .ok (.new 7, 3) := by decide +kernel
theorem dX6_init_30 : decode cX6_init 30 = .ok (.dup, 1) := by decide +kernel
theorem dX6_init_31 : decode cX6_init 31 = .ok (.invokespecial 9, 3) := by decide +kernel
theorem dX6_init_34 : decode cX6_init 34 = .ok (.putfield 19, 3) := by decide +kernel
theorem dX6_init_37 : decode cX6_init 37 = .ok (.aload_n 0, 1) := by decide +kernel
theorem dX6_init_38 : decode cX6_init 38 = .ok (.new 7, 3) := by decide +kernel
theorem dX6_init_41 : decode cX6_init 41 = .ok (.dup, 1) := by decide +kernel
theorem dX6_init_42 : decode cX6_init 42 = .ok (.invokespecial 9, 3) := by decide +kernel
theorem dX6_init_45 : decode cX6_init 45 = .ok (.putfield 22, 3) := by decide +kernel
theorem dX6_init_48 : decode cX6_init 48 = .ok (.aload_n 0, 1) := by decide +kernel
theorem dX6_init_49 : decode cX6_init 49 = .ok (.iconst 4, 1) := by decide +kernel
theorem dX6_init_50 : decode cX6_init 50 = .ok (.anewarray 25, 3) := by decide +kernel
theorem dX6_init_53 : decode cX6_init 53 = .ok (.putfield 27, 3) := by decide +kernel
theorem dX6_init_56 : decode cX6_init 56 = .ok (.iconst 0, 1) := by decide +kernel
theorem dX6_init_57 : decode cX6_init 57 = .ok (.istore_n 1, 1) := by decide +kernel
theorem dX6_init_58 : decode cX6_init 58 = .ok (.iload_n 1, 1) := by decide +kernel
theorem dX6_init_59 : decode cX6_init 59 = .ok (.iconst 4, 1) := by decide +kernel
theorem dX6_init_60 : decode cX6_init 60 = .ok (.if_icmp .ge 22, 3) := by decide +kernel
theorem dX6_init_63 : decode cX6_init 63 = .ok (.aload_n 0, 1) := by decide +kernel
theorem dX6_init_64 : decode cX6_init 64 = .ok (.getfield 27, 3) := by decide +kernel
theorem dX6_init_67 : decode cX6_init 67 = .ok (.iload_n 1, 1) := by decide +kernel
theorem dX6_init_68 : decode cX6_init 68 = .ok (.new 25, 3) := by decide +kernel
theorem dX6_init_71 : decode cX6_init 71 = .ok (.dup, 1) := by decide +kernel
theorem dX6_init_72 : decode cX6_init 72 = .ok (.invokespecial 31, 3) := by decide +kernel
theorem dX6_init_75 : decode cX6_init 75 = .ok (.aastore, 1) := by decide +kernel
theorem dX6_init_76 : decode cX6_init 76 = .ok (.iinc 1 1, 3) := by decide +kernel
theorem dX6_init_79 : decode cX6_init 79 = .ok (.goto (-21), 3) := by decide +kernel
theorem dX6_init_82 : decode cX6_init 82 = .ok (.aload_n 0, 1) := by decide +kernel
theorem dX6_init_83 : decode cX6_init 83 = .ok (.new 32, 3) := by decide +kernel
theorem dX6_init_86 : decode cX6_init 86 = .ok (.dup, 1) := by decide +kernel
theorem dX6_init_87 : decode cX6_init 87 = .ok (.invokespecial 34, 3) := by decide +kernel
theorem dX6_init_90 : decode cX6_init 90 = .ok (.putfield 35, 3) := by decide +kernel
theorem dX6_init_93 : decode cX6_init 93 = .ok (.return_, 1) := by decide +kernel
theorem dX6_hire_0 : decode cX6_hire 0 = .ok (.iload_n 1, 1) := by decide +kernel
theorem dX6_hire_1 : decode cX6_hire 1 = .ok (.iconst 1, 1) := by decide +kernel
theorem dX6_hire_2 : decode cX6_hire 2 = .ok (.if_icmp .lt 9, 3) := by decide +kernel
theorem dX6_hire_5 : decode cX6_hire 5 = .ok (.iload_n 1, 1) := by decide +kernel
theorem dX6_hire_6 : decode cX6_hire 6 = .ok (.bipush 15, 2) := by decide +kernel
theorem dX6_hire_8 : decode cX6_hire 8 = .ok (.if_icmp .le 13, 3) := by decide +kernel
theorem dX6_hire_11 : decode cX6_hire 11 = .ok (.new 39, 3) := by decide +kernel
theorem dX6_hire_14 : decode cX6_hire 14 = .ok (.dup, 1) := by decide +kernel
theorem dX6_hire_15 : decode cX6_hire 15 = .ok (.ldc 41, 2) := by decide +kernel
theorem dX6_hire_17 : decode cX6_hire 17 = .ok (.invokespecial 43, 3) := by decide +kernel
theorem dX6_hire_20 : decode cX6_hire 20 = .ok (.athrow, 1) := by decide +kernel
theorem dX6_hire_21 : decode cX6_hire 21 = .ok (.iload_n 2, 1) := by decide +kernel
theorem dX6_hire_22 : decode cX6_hire 22 = .ok (.invokestatic 46, 3) := by decide +kernel
theorem dX6_hire_25 : decode cX6_hire 25 = .ok (.ifCond .eq 15, 3) := by decide +kernel
theorem dX6_hire_28 : decode cX6_hire 28 = .ok (.iload_n 3, 1) := by decide +kernel
theorem dX6_hire_29 : decode cX6_hire 29 = .ok (.iload_n 2, 1) := by decide +kernel
theorem dX6_hire_30 : decode cX6_hire 30 = .ok (.if_icmp .le 10, 3) := by decide +kernel
theorem dX6_hire_33 : decode cX6_hire 33 = .ok (.iload_n 3, 1) := by decide +kernel
theorem dX6_hire_34 : decode cX6_hire 34 = .ok (.sipush 600, 3) := by decide +kernel
theorem dX6_hire_37 : decode cX6_hire 37 = .ok (.if_icmp .le 13, 3) := by decide +kernel
theorem dX6_hire_40 : decode cX6_hire 40 = .ok (.new 39, 3) := by decide +kernel
theorem dX6_hire_43 : decode cX6_hire 43 = .ok (.dup, 1) := by decide +kernel
theorem dX6_hire_44 : decode cX6_hire 44 = .ok (.ldc 50, 2) := by decide +kernel
theorem dX6_hire_46 : decode cX6_hire 46 = .ok (.invokespecial 43, 3) := by decide +kernel
theorem dX6_hire_49 : decode cX6_hire 49 = .ok (.athrow, 1) := by decide +kernel
theorem dX6_hire_50 : decode cX6_hire 50 = .ok (.aload_n 0, 1) := by decide +kernel
theorem dX6_hire_51 : decode cX6_hire 51 = .ok (.getfield 10, 3) := by decide +kernel
theorem dX6_hire_54 : decode cX6_hire 54 = .ok (.invokevirtual 52, 3) := by decide +kernel
theorem dX6_hire_57 : decode cX6_hire 57 = .ok (.iconst 5, 1) := by decide +kernel
theorem dX6_hire_58 : decode cX6_hire 58 = .ok (.if_icmp .lt 13, 3) := by decide +kernel
theorem dX6_hire_61 : decode cX6_hire 61 = .ok (.new 56, 3) := by decide +kernel
theorem dX6_hire_64 : decode cX6_hire 64 = .ok (.dup, 1) := by decide +kernel
theorem dX6_hire_65 : decode cX6_hire 65 = .ok (.ldc 58, 2) := by decide +kernel
theorem dX6_hire_67 : decode cX6_hire 67 = .ok (.invokespecial 60, 3) := by decide +kernel
theorem dX6_hire_70 : decode cX6_hire 70 = .ok (.athrow, 1) := by decide +kernel
theorem dX6_hire_71 : decode cX6_hire 71 = .ok (.aload_n 0, 1) := by decide +kernel
theorem dX6_hire_72 : decode cX6_hire 72 = .ok (.getfield 10, 3) := by decide +kernel
theorem dX6_hire_75 : decode cX6_hire 75 = .ok (.new 61, 3) := by decide +kernel
theorem dX6_hire_78 : decode cX6_hire 78 = .ok (.dup, 1) := by decide +kernel
theorem dX6_hire_79 : decode cX6_hire 79 = .ok (.iload_n 1, 1) := by decide +kernel
theorem dX6_hire_80 : decode cX6_hire 80 = .ok (.iload_n 2, 1) := by decide +kernel
theorem dX6_hire_81 : decode cX6_hire 81 = .ok (.iload_n 3, 1) := by decide +kernel
theorem dX6_hire_82 : decode cX6_hire 82 = .ok (.invokespecial 63, 3) := by decide +kernel
theorem dX6_hire_85 : decode cX6_hire 85 = .ok (.invokevirtual 66, 3) := by decide +kernel
theorem dX6_hire_88 : decode cX6_hire 88 = .ok (.pop, 1) := by decide +kernel
theorem dX6_hire_89 : decode cX6_hire 89 = .ok (.aload_n 0, 1) := by decide +kernel
theorem dX6_hire_90 : decode cX6_hire 90 = .ok (.getfield 10, 3) := by decide +kernel
theorem dX6_hire_93 : decode cX6_hire 93 = .ok (.invokevirtual 52, 3) := by decide +kernel
theorem dX6_hire_96 : decode cX6_hire 96 = .ok (.iconst 1, 1) := by decide +kernel
theorem dX6_hire_97 : decode cX6_hire 97 = .ok (.isub, 1) := by decide +kernel
theorem dX6_hire_98 : decode cX6_hire 98 = .ok (.ireturn, 1) := by decide +kernel
theorem dX6_addService_0 : decode cX6_addService 0 = .ok (.iload_n 1, 1) := by decide +kernel
theorem dX6_addService_1 : decode cX6_addService 1 = .ok (.invokestatic 70, 3) := by decide +kernel
theorem dX6_addService_4 : decode cX6_addService 4 = .ok (.ifCond .ne 13, 3) := by decide +kernel
theorem dX6_addService_7 : decode cX6_addService 7 = .ok (.new 39, 3) := by decide +kernel
theorem dX6_addService_10 : decode cX6_addService 10 = .ok (.dup, 1) := by decide +kernel
theorem dX6_addService_11 : decode cX6_addService 11 = .ok (.ldc 73, 2) := by decide +kernel
theorem dX6_addService_13 : decode cX6_addService 13 = .ok (.invokespecial 43, 3) := by decide +kernel
theorem dX6_addService_16 : decode cX6_addService 16 = .ok (.athrow, 1) := by decide +kernel
theorem dX6_addService_17 : decode cX6_addService 17 = .ok (.iload_n 2, 1) := by decide +kernel
theorem dX6_addService_18 : decode cX6_addService 18 = .ok (.invokestatic 75, 3) := by decide +kernel
theorem dX6_addService_21 : decode cX6_addService 21 = .ok (.aload_n 0, 1) := by decide +kernel
theorem dX6_addService_22 : decode cX6_addService 22 = .ok (.invokevirtual 79, 3) := by decide +kernel
theorem dX6_addService_25 : decode cX6_addService 25 = .ok (.aload_n 0, 1) := by decide +kernel
theorem dX6_addService_26 : decode cX6_addService 26 = .ok (.invokevirtual 82, 3) := by decide +kernel
theorem dX6_addService_29 : decode cX6_addService 29 = .ok (.astore_n 3, 1) := by decide +kernel
theorem dX6_addService_30 : decode cX6_addService 30 = .ok (.aload_n 3, 1) := by decide +kernel
theorem dX6_addService_31 : decode cX6_addService 31 = .ok (.iload_n 1, 1) := by decide +kernel
theorem dX6_addService_32 : decode cX6_addService 32 = .ok (.iload_n 2, 1) := by decide +kernel
theorem dX6_addService_33 : decode cX6_addService 33 = .ok (.invokevirtual 86, 3) := by decide +kernel
theorem dX6_addService_36 : decode cX6_addService 36 = .ok (.aload_n 3, 1) := by decide +kernel
theorem dX6_addService_37 : decode cX6_addService 37 = .ok (.getfield 92, 3) := by decide +kernel
theorem dX6_addService_40 : decode cX6_addService 40 = .ok (.ireturn, 1) := by decide +kernel
theorem dX6_addStep_0 : decode cX6_addStep 0 = .ok (.aload_n 0, 1) := by decide +kernel
theorem dX6_addStep_1 : decode cX6_addStep 1 = .ok (.iload_n 1, 1) := by decide +kernel
theorem dX6_addStep_2 : decode cX6_addStep 2 = .ok (.invokevirtual 96, 3) := by decide +kernel
theorem dX6_addStep_5 : decode cX6_addStep 5 = .ok (.iload_n 2, 1) := by decide +kernel
theorem dX6_addStep_6 : decode cX6_addStep 6 = .ok (.iconst (-1), 1) := by decide +kernel
theorem dX6_addStep_7 : decode cX6_addStep 7 = .ok (.if_icmp .eq 20, 3) := by decide +kernel
theorem dX6_addStep_10 : decode cX6_addStep 10 = .ok (.iload_n 2, 1) := by decide +kernel
theorem dX6_addStep_11 : decode cX6_addStep 11 = .ok (.invokestatic 70, 3) := by decide +kernel
theorem dX6_addStep_14 : decode cX6_addStep 14 = .ok (.ifCond .ne 13, 3) := by decide +kernel
theorem dX6_addStep_17 : decode cX6_addStep 17 = .ok (.new 39, 3) := by decide +kernel
theorem dX6_addStep_20 : decode cX6_addStep 20 = .ok (.dup, 1) := by decide +kernel
theorem dX6_addStep_21 : decode cX6_addStep 21 = .ok (.ldc 73, 2) := by decide +kernel
theorem dX6_addStep_23 : decode cX6_addStep 23 = .ok (.invokespecial 43, 3) := by decide +kernel
theorem dX6_addStep_26 : decode cX6_addStep 26 = .ok (.athrow, 1) := by decide +kernel
theorem dX6_addStep_27 : decode cX6_addStep 27 = .ok (.iload_n 3, 1) := by decide +kernel
theorem dX6_addStep_28 : decode cX6_addStep 28 = .ok (.invokestatic 75, 3) := by decide +kernel
theorem dX6_addStep_31 : decode cX6_addStep 31 = .ok (.aload_n 0, 1) := by decide +kernel
theorem dX6_addStep_32 : decode cX6_addStep 32 = .ok (.getfield 16, 3) := by decide +kernel
theorem dX6_addStep_35 : decode cX6_addStep 35 = .ok (.iload_n 1, 1) := by decide +kernel
theorem dX6_addStep_36 : decode cX6_addStep 36 = .ok (.invokevirtual 99, 3) := by decide +kernel
theorem dX6_addStep_39 : decode cX6_addStep 39 = .ok (.checkcast 87, 3) := by decide +kernel
theorem dX6_addStep_42 : decode cX6_addStep 42 = .ok (.astore 4, 2) := by decide +kernel
theorem dX6_addStep_44 : decode cX6_addStep 44 = .ok (.aload 4, 2) := by decide +kernel
theorem dX6_addStep_46 : decode cX6_addStep 46 = .ok (.getfield 103, 3) := by decide +kernel
theorem dX6_addStep_49 : decode cX6_addStep 49 = .ok (.iconst 5, 1) := by decide +kernel
theorem dX6_addStep_50 : decode cX6_addStep 50 = .ok (.if_icmp .lt 13, 3) := by decide +kernel
theorem dX6_addStep_53 : decode cX6_addStep 53 = .ok (.new 56, 3) := by decide +kernel
theorem dX6_addStep_56 : decode cX6_addStep 56 = .ok (.dup, 1) := by decide +kernel
theorem dX6_addStep_57 : decode cX6_addStep 57 = .ok (.ldc 106, 2) := by decide +kernel
theorem dX6_addStep_59 : decode cX6_addStep 59 = .ok (.invokespecial 60, 3) := by decide +kernel
theorem dX6_addStep_62 : decode cX6_addStep 62 = .ok (.athrow, 1) := by decide +kernel
theorem dX6_addStep_63 : decode cX6_addStep 63 = .ok (.aload 4, 2) := by decide +kernel
theorem dX6_addStep_65 : decode cX6_addStep 65 = .ok (.getfield 108, 3) := by decide +kernel
theorem dX6_addStep_68 : decode cX6_addStep 68 = .ok (.ifCond .eq 13, 3) := by decide +kernel
theorem dX6_addStep_71 : decode cX6_addStep 71 = .ok (.new 56, 3) := by decide +kernel
theorem dX6_addStep_74 : decode cX6_addStep 74 = .ok (.dup, 1) := by decide +kernel
theorem dX6_addStep_75 : decode cX6_addStep 75 = .ok (.ldc 112, 2) := by decide +kernel
theorem dX6_addStep_77 : decode cX6_addStep 77 = .ok (.invokespecial 60, 3) := by decide +kernel
theorem dX6_addStep_80 : decode cX6_addStep 80 = .ok (.athrow, 1) := by decide +kernel
theorem dX6_addStep_81 : decode cX6_addStep 81 = .ok (.aload 4, 2) := by decide +kernel
theorem dX6_addStep_83 : decode cX6_addStep 83 = .ok (.iload_n 2, 1) := by decide +kernel
theorem dX6_addStep_84 : decode cX6_addStep 84 = .ok (.iload_n 3, 1) := by decide +kernel
theorem dX6_addStep_85 : decode cX6_addStep 85 = .ok (.invokevirtual 86, 3) := by decide +kernel
theorem dX6_addStep_88 : decode cX6_addStep 88 = .ok (.aload 4, 2) := by decide +kernel
theorem dX6_addStep_90 : decode cX6_addStep 90 = .ok (.getfield 103, 3) := by decide +kernel
theorem dX6_addStep_93 : decode cX6_addStep 93 = .ok (.ireturn, 1) := by decide +kernel
theorem dX6_addUsual_0 : decode cX6_addUsual 0 = .ok (.iload_n 1, 1) := by decide +kernel
theorem dX6_addUsual_1 : decode cX6_addUsual 1 = .ok (.ifCond .lt 8, 3) := by decide +kernel
theorem dX6_addUsual_4 : decode cX6_addUsual 4 = .ok (.iload_n 1, 1) := by decide +kernel
theorem dX6_addUsual_5 : decode cX6_addUsual 5 = .ok (.iconst 4, 1) := by decide +kernel
theorem dX6_addUsual_6 : decode cX6_addUsual 6 = .ok (.if_icmp .lt 13, 3) := by decide +kernel
theorem dX6_addUsual_9 : decode cX6_addUsual 9 = .ok (.new 39, 3) := by decide +kernel
theorem dX6_addUsual_12 : decode cX6_addUsual 12 = .ok (.dup, 1) := by decide +kernel
theorem dX6_addUsual_13 : decode cX6_addUsual 13 = .ok (.ldc 114, 2) := by decide +kernel
theorem dX6_addUsual_15 : decode cX6_addUsual 15 = .ok (.invokespecial 43, 3) := by decide +kernel
theorem dX6_addUsual_18 : decode cX6_addUsual 18 = .ok (.athrow, 1) := by decide +kernel
theorem dX6_addUsual_19 : decode cX6_addUsual 19 = .ok (.aload_n 0, 1) := by decide +kernel
theorem dX6_addUsual_20 : decode cX6_addUsual 20 = .ok (.invokevirtual 79, 3) := by decide +kernel
theorem dX6_addUsual_23 : decode cX6_addUsual 23 = .ok (.aload_n 0, 1) := by decide +kernel
theorem dX6_addUsual_24 : decode cX6_addUsual 24 = .ok (.invokevirtual 82, 3) := by decide +kernel
theorem dX6_addUsual_27 : decode cX6_addUsual 27 = .ok (.astore_n 2, 1) := by decide +kernel
theorem dX6_addUsual_28 : decode cX6_addUsual 28 = .ok (.aload_n 2, 1) := by decide +kernel
theorem dX6_addUsual_29 : decode cX6_addUsual 29 = .ok (.iload_n 1, 1) := by decide +kernel
theorem dX6_addUsual_30 : decode cX6_addUsual 30 = .ok (.invokestatic 116, 3) := by decide +kernel
theorem dX6_addUsual_33 : decode cX6_addUsual 33 = .ok (.aload_n 2, 1) := by decide +kernel
theorem dX6_addUsual_34 : decode cX6_addUsual 34 = .ok (.getfield 92, 3) := by decide +kernel
theorem dX6_addUsual_37 : decode cX6_addUsual 37 = .ok (.ireturn, 1) := by decide +kernel
theorem dX6_book_0 : decode cX6_book 0 = .ok (.aload_n 0, 1) := by decide +kernel
theorem dX6_book_1 : decode cX6_book 1 = .ok (.iload_n 1, 1) := by decide +kernel
theorem dX6_book_2 : decode cX6_book 2 = .ok (.invokevirtual 96, 3) := by decide +kernel
theorem dX6_book_5 : decode cX6_book 5 = .ok (.iload_n 2, 1) := by decide +kernel
theorem dX6_book_6 : decode cX6_book 6 = .ok (.invokestatic 120, 3) := by decide +kernel
theorem dX6_book_9 : decode cX6_book 9 = .ok (.aload_n 0, 1) := by decide +kernel
theorem dX6_book_10 : decode cX6_book 10 = .ok (.invokevirtual 123, 3) := by decide +kernel
theorem dX6_book_13 : decode cX6_book 13 = .ok (.aload_n 0, 1) := by decide +kernel
theorem dX6_book_14 : decode cX6_book 14 = .ok (.aload_n 0, 1) := by decide +kernel
theorem dX6_book_15 : decode cX6_book 15 = .ok (.getfield 16, 3) := by decide +kernel
theorem dX6_book_18 : decode cX6_book 18 = .ok (.iload_n 1, 1) := by decide +kernel
theorem dX6_book_19 : decode cX6_book 19 = .ok (.invokevirtual 99, 3) := by decide +kernel
theorem dX6_book_22 : decode cX6_book 22 = .ok (.checkcast 87, 3) := by decide +kernel
theorem dX6_book_25 : decode cX6_book 25 = .ok (.bipush 31, 2) := by decide +kernel
theorem dX6_book_27 : decode cX6_book 27 = .ok (.iload_n 2, 1) := by decide +kernel
theorem dX6_book_28 : decode cX6_book 28 = .ok (.invokevirtual 126, 3) := by decide +kernel
theorem dX6_book_31 : decode cX6_book 31 = .ok (.ireturn, 1) := by decide +kernel
theorem dX6_move_0 : decode cX6_move 0 = .ok (.aload_n 0, 1) := by decide +kernel
theorem dX6_move_1 : decode cX6_move 1 = .ok (.iload_n 1, 1) := by decide +kernel
theorem dX6_move_2 : decode cX6_move 2 = .ok (.invokevirtual 133, 3) := by decide +kernel
theorem dX6_move_5 : decode cX6_move 5 = .ok (.iload_n 2, 1) := by decide +kernel
theorem dX6_move_6 : decode cX6_move 6 = .ok (.invokestatic 120, 3) := by decide +kernel
theorem dX6_move_9 : decode cX6_move 9 = .ok (.aload_n 0, 1) := by decide +kernel
theorem dX6_move_10 : decode cX6_move 10 = .ok (.getfield 19, 3) := by decide +kernel
theorem dX6_move_13 : decode cX6_move 13 = .ok (.iload_n 1, 1) := by decide +kernel
theorem dX6_move_14 : decode cX6_move 14 = .ok (.invokevirtual 99, 3) := by decide +kernel
theorem dX6_move_17 : decode cX6_move 17 = .ok (.checkcast 136, 3) := by decide +kernel
theorem dX6_move_20 : decode cX6_move 20 = .ok (.astore_n 3, 1) := by decide +kernel
theorem dX6_move_21 : decode cX6_move 21 = .ok (.aload_n 3, 1) := by decide +kernel
theorem dX6_move_22 : decode cX6_move 22 = .ok (.getfield 138, 3) := by decide +kernel
theorem dX6_move_25 : decode cX6_move 25 = .ok (.istore 4, 2) := by decide +kernel
theorem dX6_move_27 : decode cX6_move 27 = .ok (.aload_n 3, 1) := by decide +kernel
theorem dX6_move_28 : decode cX6_move 28 = .ok (.getfield 141, 3) := by decide +kernel
theorem dX6_move_31 : decode cX6_move 31 = .ok (.istore 5, 2) := by decide +kernel
theorem dX6_move_33 : decode cX6_move 33 = .ok (.aload_n 3, 1) := by decide +kernel
theorem dX6_move_34 : decode cX6_move 34 = .ok (.getfield 144, 3) := by decide +kernel
theorem dX6_move_37 : decode cX6_move 37 = .ok (.istore 6, 2) := by decide +kernel
theorem dX6_move_39 : decode cX6_move 39 = .ok (.aload_n 0, 1) := by decide +kernel
theorem dX6_move_40 : decode cX6_move 40 = .ok (.aload_n 3, 1) := by decide +kernel
theorem dX6_move_41 : decode cX6_move 41 = .ok (.invokevirtual 147, 3) := by decide +kernel
theorem dX6_move_44 : decode cX6_move 44 = .ok (.aload_n 0, 1) := by decide +kernel
theorem dX6_move_45 : decode cX6_move 45 = .ok (.aload_n 3, 1) := by decide +kernel
theorem dX6_move_46 : decode cX6_move 46 = .ok (.getfield 151, 3) := by decide +kernel
theorem dX6_move_49 : decode cX6_move 49 = .ok (.bipush 31, 2) := by decide +kernel
theorem dX6_move_51 : decode cX6_move 51 = .ok (.iload_n 2, 1) := by decide +kernel
theorem dX6_move_52 : decode cX6_move 52 = .ok (.invokevirtual 155, 3) := by decide +kernel
theorem dX6_move_55 : decode cX6_move 55 = .ok (.istore 7, 2) := by decide +kernel
theorem dX6_move_57 : decode cX6_move 57 = .ok (.iload 7, 2) := by decide +kernel
theorem dX6_move_59 : decode cX6_move 59 = .ok (.iconst (-1), 1) := by decide +kernel
theorem dX6_move_60 : decode cX6_move 60 = .ok (.if_icmp .ne 24, 3) := by decide +kernel
theorem dX6_move_63 : decode cX6_move 63 = .ok (.aload_n 0, 1) := by decide +kernel
theorem dX6_move_64 : decode cX6_move 64 = .ok (.aload_n 3, 1) := by decide +kernel
theorem dX6_move_65 : decode cX6_move 65 = .ok (.iload 4, 2) := by decide +kernel
theorem dX6_move_67 : decode cX6_move 67 = .ok (.iload 5, 2) := by decide +kernel
theorem dX6_move_69 : decode cX6_move 69 = .ok (.iload 6, 2) := by decide +kernel
theorem dX6_move_71 : decode cX6_move 71 = .ok (.invokevirtual 158, 3) := by decide +kernel
theorem dX6_move_74 : decode cX6_move 74 = .ok (.new 162, 3) := by decide +kernel
theorem dX6_move_77 : decode cX6_move 77 = .ok (.dup, 1) := by decide +kernel
theorem dX6_move_78 : decode cX6_move 78 = .ok (.ldc 164, 2) := by decide +kernel
theorem dX6_move_80 : decode cX6_move 80 = .ok (.invokespecial 166, 3) := by decide +kernel
theorem dX6_move_83 : decode cX6_move 83 = .ok (.athrow, 1) := by decide +kernel
theorem dX6_move_84 : decode cX6_move 84 = .ok (.aload_n 0, 1) := by decide +kernel
theorem dX6_move_85 : decode cX6_move 85 = .ok (.aload_n 3, 1) := by decide +kernel
theorem dX6_move_86 : decode cX6_move 86 = .ok (.bipush 31, 2) := by decide +kernel
theorem dX6_move_88 : decode cX6_move 88 = .ok (.iload 7, 2) := by decide +kernel
theorem dX6_move_90 : decode cX6_move 90 = .ok (.invokevirtual 167, 3) := by decide +kernel
theorem dX6_move_93 : decode cX6_move 93 = .ok (.aload_n 0, 1) := by decide +kernel
theorem dX6_move_94 : decode cX6_move 94 = .ok (.invokevirtual 171, 3) := by decide +kernel
theorem dX6_move_97 : decode cX6_move 97 = .ok (.pop, 1) := by decide +kernel
theorem dX6_move_98 : decode cX6_move 98 = .ok (.iload 7, 2) := by decide +kernel
theorem dX6_move_100 : decode cX6_move 100 = .ok (.ireturn, 1) := by decide +kernel
theorem dX6_drop_0 : decode cX6_drop 0 = .ok (.aload_n 0, 1) := by decide +kernel
theorem dX6_drop_1 : decode cX6_drop 1 = .ok (.iload_n 1, 1) := by decide +kernel
theorem dX6_drop_2 : decode cX6_drop 2 = .ok (.invokevirtual 133, 3) := by decide +kernel
theorem dX6_drop_5 : decode cX6_drop 5 = .ok (.aload_n 0, 1) := by decide +kernel
theorem dX6_drop_6 : decode cX6_drop 6 = .ok (.aload_n 0, 1) := by decide +kernel
theorem dX6_drop_7 : decode cX6_drop 7 = .ok (.getfield 19, 3) := by decide +kernel
theorem dX6_drop_10 : decode cX6_drop 10 = .ok (.iload_n 1, 1) := by decide +kernel
theorem dX6_drop_11 : decode cX6_drop 11 = .ok (.invokevirtual 99, 3) := by decide +kernel
theorem dX6_drop_14 : decode cX6_drop 14 = .ok (.checkcast 136, 3) := by decide +kernel
theorem dX6_drop_17 : decode cX6_drop 17 = .ok (.invokevirtual 147, 3) := by decide +kernel
theorem dX6_drop_20 : decode cX6_drop 20 = .ok (.aload_n 0, 1) := by decide +kernel
theorem dX6_drop_21 : decode cX6_drop 21 = .ok (.invokevirtual 171, 3) := by decide +kernel
theorem dX6_drop_24 : decode cX6_drop 24 = .ok (.ireturn, 1) := by decide +kernel
theorem dX6_request_0 : decode cX6_request 0 = .ok (.aload_n 0, 1) := by decide +kernel
theorem dX6_request_1 : decode cX6_request 1 = .ok (.iload_n 1, 1) := by decide +kernel
theorem dX6_request_2 : decode cX6_request 2 = .ok (.invokevirtual 96, 3) := by decide +kernel
theorem dX6_request_5 : decode cX6_request 5 = .ok (.iload_n 2, 1) := by decide +kernel
theorem dX6_request_6 : decode cX6_request 6 = .ok (.invokestatic 120, 3) := by decide +kernel
theorem dX6_request_9 : decode cX6_request 9 = .ok (.aload_n 0, 1) := by decide +kernel
theorem dX6_request_10 : decode cX6_request 10 = .ok (.getfield 22, 3) := by decide +kernel
theorem dX6_request_13 : decode cX6_request 13 = .ok (.invokevirtual 52, 3) := by decide +kernel
theorem dX6_request_16 : decode cX6_request 16 = .ok (.bipush 6, 2) := by decide +kernel
theorem dX6_request_18 : decode cX6_request 18 = .ok (.if_icmp .lt 13, 3) := by decide +kernel
theorem dX6_request_21 : decode cX6_request 21 = .ok (.new 56, 3) := by decide +kernel
theorem dX6_request_24 : decode cX6_request 24 = .ok (.dup, 1) := by decide +kernel
theorem dX6_request_25 : decode cX6_request 25 = .ok (.ldc 174, 2) := by decide +kernel
theorem dX6_request_27 : decode cX6_request 27 = .ok (.invokespecial 60, 3) := by decide +kernel
theorem dX6_request_30 : decode cX6_request 30 = .ok (.athrow, 1) := by decide +kernel
theorem dX6_request_31 : decode cX6_request 31 = .ok (.aload_n 0, 1) := by decide +kernel
theorem dX6_request_32 : decode cX6_request 32 = .ok (.getfield 16, 3) := by decide +kernel
theorem dX6_request_35 : decode cX6_request 35 = .ok (.iload_n 1, 1) := by decide +kernel
theorem dX6_request_36 : decode cX6_request 36 = .ok (.invokevirtual 99, 3) := by decide +kernel
theorem dX6_request_39 : decode cX6_request 39 = .ok (.checkcast 87, 3) := by decide +kernel
theorem dX6_request_42 : decode cX6_request 42 = .ok (.astore_n 3, 1) := by decide +kernel
theorem dX6_request_43 : decode cX6_request 43 = .ok (.aload_n 3, 1) := by decide +kernel
theorem dX6_request_44 : decode cX6_request 44 = .ok (.iconst 1, 1) := by decide +kernel
theorem dX6_request_45 : decode cX6_request 45 = .ok (.putfield 108, 3) := by decide +kernel
theorem dX6_request_48 : decode cX6_request 48 = .ok (.aload_n 0, 1) := by decide +kernel
theorem dX6_request_49 : decode cX6_request 49 = .ok (.getfield 22, 3) := by decide +kernel
theorem dX6_request_52 : decode cX6_request 52 = .ok (.new 176, 3) := by decide +kernel
theorem dX6_request_55 : decode cX6_request 55 = .ok (.dup, 1) := by decide +kernel
theorem dX6_request_56 : decode cX6_request 56 = .ok (.aload_n 3, 1) := by decide +kernel
theorem dX6_request_57 : decode cX6_request 57 = .ok (.iload_n 2, 1) := by decide +kernel
theorem dX6_request_58 : decode cX6_request 58 = .ok (.invokespecial 178, 3) := by decide +kernel
theorem dX6_request_61 : decode cX6_request 61 = .ok (.invokevirtual 66, 3) := by decide +kernel
theorem dX6_request_64 : decode cX6_request 64 = .ok (.pop, 1) := by decide +kernel
theorem dX6_request_65 : decode cX6_request 65 = .ok (.aload_n 0, 1) := by decide +kernel
theorem dX6_request_66 : decode cX6_request 66 = .ok (.getfield 22, 3) := by decide +kernel
theorem dX6_request_69 : decode cX6_request 69 = .ok (.invokevirtual 52, 3) := by decide +kernel
theorem dX6_request_72 : decode cX6_request 72 = .ok (.ireturn, 1) := by decide +kernel
theorem dX6_requests_0 : decode cX6_requests 0 = .ok (.aload_n 0, 1) := by decide +kernel
theorem dX6_requests_1 : decode cX6_requests 1 = .ok (.getfield 22, 3) := by decide +kernel
theorem dX6_requests_4 : decode cX6_requests 4 = .ok (.invokevirtual 52, 3) := by decide +kernel
theorem dX6_requests_7 : decode cX6_requests 7 = .ok (.ireturn, 1) := by decide +kernel
theorem dX6_requestAt_0 : decode cX6_requestAt 0 = .ok (.iload_n 1, 1) := by decide +kernel
theorem dX6_requestAt_1 : decode cX6_requestAt 1 = .ok (.ifCond .lt 14, 3) := by decide +kernel
theorem dX6_requestAt_4 : decode cX6_requestAt 4 = .ok (.iload_n 1, 1) := by decide +kernel
theorem dX6_requestAt_5 : decode cX6_requestAt 5 = .ok (.aload_n 0, 1) := by decide +kernel
theorem dX6_requestAt_6 : decode cX6_requestAt 6 = .ok (.getfield 22, 3) := by decide +kernel
theorem dX6_requestAt_9 : decode cX6_requestAt 9 = .ok (.invokevirtual 52, 3) := by decide +kernel
theorem dX6_requestAt_12 : decode cX6_requestAt 12 = .ok (.if_icmp .lt 13, 3) := by decide +kernel
theorem dX6_requestAt_15 : decode cX6_requestAt 15 = .ok (.new 180, 3) := by decide +kernel
theorem dX6_requestAt_18 : decode cX6_requestAt 18 = .ok (.dup, 1) := by decide +kernel
theorem dX6_requestAt_19 : decode cX6_requestAt 19 = .ok (.ldc 182, 2) := by decide +kernel
theorem dX6_requestAt_21 : decode cX6_requestAt 21 = .ok (.invokespecial 184, 3) := by decide +kernel
theorem dX6_requestAt_24 : decode cX6_requestAt 24 = .ok (.athrow, 1) := by decide +kernel
theorem dX6_requestAt_25 : decode cX6_requestAt 25 = .ok (.aload_n 0, 1) := by decide +kernel
theorem dX6_requestAt_26 : decode cX6_requestAt 26 = .ok (.getfield 22, 3) := by decide +kernel
theorem dX6_requestAt_29 : decode cX6_requestAt 29 = .ok (.iload_n 1, 1) := by decide +kernel
theorem dX6_requestAt_30 : decode cX6_requestAt 30 = .ok (.invokevirtual 99, 3) := by decide +kernel
theorem dX6_requestAt_33 : decode cX6_requestAt 33 = .ok (.checkcast 176, 3) := by decide +kernel
theorem dX6_requestAt_36 : decode cX6_requestAt 36 = .ok (.getfield 185, 3) := by decide +kernel
theorem dX6_requestAt_39 : decode cX6_requestAt 39 = .ok (.getfield 92, 3) := by decide +kernel
theorem dX6_requestAt_42 : decode cX6_requestAt 42 = .ok (.ireturn, 1) := by decide +kernel
theorem dX6_lengthOf_0 : decode cX6_lengthOf 0 = .ok (.aload_n 0, 1) := by decide +kernel
theorem dX6_lengthOf_1 : decode cX6_lengthOf 1 = .ok (.iload_n 1, 1) := by decide +kernel
theorem dX6_lengthOf_2 : decode cX6_lengthOf 2 = .ok (.invokevirtual 96, 3) := by decide +kernel
theorem dX6_lengthOf_5 : decode cX6_lengthOf 5 = .ok (.aload_n 0, 1) := by decide +kernel
theorem dX6_lengthOf_6 : decode cX6_lengthOf 6 = .ok (.getfield 16, 3) := by decide +kernel
theorem dX6_lengthOf_9 : decode cX6_lengthOf 9 = .ok (.iload_n 1, 1) := by decide +kernel
theorem dX6_lengthOf_10 : decode cX6_lengthOf 10 = .ok (.invokevirtual 99, 3) := by decide +kernel
theorem dX6_lengthOf_13 : decode cX6_lengthOf 13 = .ok (.checkcast 87, 3) := by decide +kernel
theorem dX6_lengthOf_16 : decode cX6_lengthOf 16 = .ok (.getfield 186, 3) := by decide +kernel
theorem dX6_lengthOf_19 : decode cX6_lengthOf 19 = .ok (.ireturn, 1) := by decide +kernel
theorem dX6_workOf_0 : decode cX6_workOf 0 = .ok (.aload_n 0, 1) := by decide +kernel
theorem dX6_workOf_1 : decode cX6_workOf 1 = .ok (.iload_n 1, 1) := by decide +kernel
theorem dX6_workOf_2 : decode cX6_workOf 2 = .ok (.invokevirtual 96, 3) := by decide +kernel
theorem dX6_workOf_5 : decode cX6_workOf 5 = .ok (.aload_n 0, 1) := by decide +kernel
theorem dX6_workOf_6 : decode cX6_workOf 6 = .ok (.getfield 16, 3) := by decide +kernel
theorem dX6_workOf_9 : decode cX6_workOf 9 = .ok (.iload_n 1, 1) := by decide +kernel
theorem dX6_workOf_10 : decode cX6_workOf 10 = .ok (.invokevirtual 99, 3) := by decide +kernel
theorem dX6_workOf_13 : decode cX6_workOf 13 = .ok (.checkcast 87, 3) := by decide +kernel
theorem dX6_workOf_16 : decode cX6_workOf 16 = .ok (.getfield 189, 3) := by decide +kernel
theorem dX6_workOf_19 : decode cX6_workOf 19 = .ok (.ireturn, 1) := by decide +kernel
theorem dX6_visits_0 : decode cX6_visits 0 = .ok (.aload_n 0, 1) := by decide +kernel
theorem dX6_visits_1 : decode cX6_visits 1 = .ok (.getfield 19, 3) := by decide +kernel
theorem dX6_visits_4 : decode cX6_visits 4 = .ok (.invokevirtual 52, 3) := by decide +kernel
theorem dX6_visits_7 : decode cX6_visits 7 = .ok (.ireturn, 1) := by decide +kernel
theorem dX6_startOf_0 : decode cX6_startOf 0 = .ok (.aload_n 0, 1) := by decide +kernel
theorem dX6_startOf_1 : decode cX6_startOf 1 = .ok (.iload_n 1, 1) := by decide +kernel
theorem dX6_startOf_2 : decode cX6_startOf 2 = .ok (.invokevirtual 195, 3) := by decide +kernel
theorem dX6_startOf_5 : decode cX6_startOf 5 = .ok (.aload_n 0, 1) := by decide +kernel
theorem dX6_startOf_6 : decode cX6_startOf 6 = .ok (.getfield 19, 3) := by decide +kernel
theorem dX6_startOf_9 : decode cX6_startOf 9 = .ok (.iload_n 1, 1) := by decide +kernel
theorem dX6_startOf_10 : decode cX6_startOf 10 = .ok (.invokevirtual 99, 3) := by decide +kernel
theorem dX6_startOf_13 : decode cX6_startOf 13 = .ok (.checkcast 136, 3) := by decide +kernel
theorem dX6_startOf_16 : decode cX6_startOf 16 = .ok (.getfield 144, 3) := by decide +kernel
theorem dX6_startOf_19 : decode cX6_startOf 19 = .ok (.ireturn, 1) := by decide +kernel
theorem dX6_staffOf_0 : decode cX6_staffOf 0 = .ok (.aload_n 0, 1) := by decide +kernel
theorem dX6_staffOf_1 : decode cX6_staffOf 1 = .ok (.iload_n 1, 1) := by decide +kernel
theorem dX6_staffOf_2 : decode cX6_staffOf 2 = .ok (.invokevirtual 195, 3) := by decide +kernel
theorem dX6_staffOf_5 : decode cX6_staffOf 5 = .ok (.aload_n 0, 1) := by decide +kernel
theorem dX6_staffOf_6 : decode cX6_staffOf 6 = .ok (.getfield 19, 3) := by decide +kernel
theorem dX6_staffOf_9 : decode cX6_staffOf 9 = .ok (.iload_n 1, 1) := by decide +kernel
theorem dX6_staffOf_10 : decode cX6_staffOf 10 = .ok (.invokevirtual 99, 3) := by decide +kernel
theorem dX6_staffOf_13 : decode cX6_staffOf 13 = .ok (.checkcast 136, 3) := by decide +kernel
theorem dX6_staffOf_16 : decode cX6_staffOf 16 = .ok (.getfield 138, 3) := by decide +kernel
theorem dX6_staffOf_19 : decode cX6_staffOf 19 = .ok (.ireturn, 1) := by decide +kernel
theorem dX6_chairOf_0 : decode cX6_chairOf 0 = .ok (.aload_n 0, 1) := by decide +kernel
theorem dX6_chairOf_1 : decode cX6_chairOf 1 = .ok (.iload_n 1, 1) := by decide +kernel
theorem dX6_chairOf_2 : decode cX6_chairOf 2 = .ok (.invokevirtual 195, 3) := by decide +kernel
theorem dX6_chairOf_5 : decode cX6_chairOf 5 = .ok (.aload_n 0, 1) := by decide +kernel
theorem dX6_chairOf_6 : decode cX6_chairOf 6 = .ok (.getfield 19, 3) := by decide +kernel
theorem dX6_chairOf_9 : decode cX6_chairOf 9 = .ok (.iload_n 1, 1) := by decide +kernel
theorem dX6_chairOf_10 : decode cX6_chairOf 10 = .ok (.invokevirtual 99, 3) := by decide +kernel
theorem dX6_chairOf_13 : decode cX6_chairOf 13 = .ok (.checkcast 136, 3) := by decide +kernel
theorem dX6_chairOf_16 : decode cX6_chairOf 16 = .ok (.getfield 141, 3) := by decide +kernel
theorem dX6_chairOf_19 : decode cX6_chairOf 19 = .ok (.ireturn, 1) := by decide +kernel
theorem dX6_serviceOf_0 : decode cX6_serviceOf 0 = .ok (.aload_n 0, 1) := by decide +kernel
theorem dX6_serviceOf_1 : decode cX6_serviceOf 1 = .ok (.iload_n 1, 1) := by decide +kernel
theorem dX6_serviceOf_2 : decode cX6_serviceOf 2 = .ok (.invokevirtual 195, 3) := by decide +kernel
theorem dX6_serviceOf_5 : decode cX6_serviceOf 5 = .ok (.aload_n 0, 1) := by decide +kernel
theorem dX6_serviceOf_6 : decode cX6_serviceOf 6 = .ok (.getfield 19, 3) := by decide +kernel
theorem dX6_serviceOf_9 : decode cX6_serviceOf 9 = .ok (.iload_n 1, 1) := by decide +kernel
theorem dX6_serviceOf_10 : decode cX6_serviceOf 10 = .ok (.invokevirtual 99, 3) := by decide +kernel
theorem dX6_serviceOf_13 : decode cX6_serviceOf 13 = .ok (.checkcast 136, 3) := by decide +kernel
theorem dX6_serviceOf_16 : decode cX6_serviceOf 16 = .ok (.getfield 151, 3) := by decide +kernel
theorem dX6_serviceOf_19 : decode cX6_serviceOf 19 = .ok (.getfield 92, 3) := by decide +kernel
theorem dX6_serviceOf_22 : decode cX6_serviceOf 22 = .ok (.ireturn, 1) := by decide +kernel
theorem dX6_loadOf_0 : decode cX6_loadOf 0 = .ok (.aload_n 0, 1) := by decide +kernel
theorem dX6_loadOf_1 : decode cX6_loadOf 1 = .ok (.iload_n 1, 1) := by decide +kernel
theorem dX6_loadOf_2 : decode cX6_loadOf 2 = .ok (.invokevirtual 130, 3) := by decide +kernel
theorem dX6_loadOf_5 : decode cX6_loadOf 5 = .ok (.aload_n 0, 1) := by decide +kernel
theorem dX6_loadOf_6 : decode cX6_loadOf 6 = .ok (.iload_n 1, 1) := by decide +kernel
theorem dX6_loadOf_7 : decode cX6_loadOf 7 = .ok (.invokevirtual 198, 3) := by decide +kernel
theorem dX6_loadOf_10 : decode cX6_loadOf 10 = .ok (.ireturn, 1) := by decide +kernel
theorem dX6_staffAt_0 : decode cX6_staffAt 0 = .ok (.aload_n 0, 1) := by decide +kernel
theorem dX6_staffAt_1 : decode cX6_staffAt 1 = .ok (.iload_n 1, 1) := by decide +kernel
theorem dX6_staffAt_2 : decode cX6_staffAt 2 = .ok (.invokevirtual 130, 3) := by decide +kernel
theorem dX6_staffAt_5 : decode cX6_staffAt 5 = .ok (.iload_n 2, 1) := by decide +kernel
theorem dX6_staffAt_6 : decode cX6_staffAt 6 = .ok (.invokestatic 120, 3) := by decide +kernel
theorem dX6_staffAt_9 : decode cX6_staffAt 9 = .ok (.aload_n 0, 1) := by decide +kernel
theorem dX6_staffAt_10 : decode cX6_staffAt 10 = .ok (.getfield 10, 3) := by decide +kernel
theorem dX6_staffAt_13 : decode cX6_staffAt 13 = .ok (.iload_n 1, 1) := by decide +kernel
theorem dX6_staffAt_14 : decode cX6_staffAt 14 = .ok (.invokevirtual 99, 3) := by decide +kernel
theorem dX6_staffAt_17 : decode cX6_staffAt 17 = .ok (.checkcast 61, 3) := by decide +kernel
theorem dX6_staffAt_20 : decode cX6_staffAt 20 = .ok (.getfield 202, 3) := by decide +kernel
theorem dX6_staffAt_23 : decode cX6_staffAt 23 = .ok (.iload_n 2, 1) := by decide +kernel
theorem dX6_staffAt_24 : decode cX6_staffAt 24 = .ok (.invokevirtual 206, 3) := by decide +kernel
theorem dX6_staffAt_27 : decode cX6_staffAt 27 = .ok (.ireturn, 1) := by decide +kernel
theorem dX6_chairAt_0 : decode cX6_chairAt 0 = .ok (.iload_n 1, 1) := by decide +kernel
theorem dX6_chairAt_1 : decode cX6_chairAt 1 = .ok (.invokestatic 209, 3) := by decide +kernel
theorem dX6_chairAt_4 : decode cX6_chairAt 4 = .ok (.ifCond .ne 13, 3) := by decide +kernel
theorem dX6_chairAt_7 : decode cX6_chairAt 7 = .ok (.new 180, 3) := by decide +kernel
theorem dX6_chairAt_10 : decode cX6_chairAt 10 = .ok (.dup, 1) := by decide +kernel
theorem dX6_chairAt_11 : decode cX6_chairAt 11 = .ok (.ldc 212, 2) := by decide +kernel
theorem dX6_chairAt_13 : decode cX6_chairAt 13 = .ok (.invokespecial 184, 3) := by decide +kernel
theorem dX6_chairAt_16 : decode cX6_chairAt 16 = .ok (.athrow, 1) := by decide +kernel
theorem dX6_chairAt_17 : decode cX6_chairAt 17 = .ok (.iload_n 2, 1) := by decide +kernel
theorem dX6_chairAt_18 : decode cX6_chairAt 18 = .ok (.invokestatic 120, 3) := by decide +kernel
theorem dX6_chairAt_21 : decode cX6_chairAt 21 = .ok (.aload_n 0, 1) := by decide +kernel
theorem dX6_chairAt_22 : decode cX6_chairAt 22 = .ok (.getfield 27, 3) := by decide +kernel
theorem dX6_chairAt_25 : decode cX6_chairAt 25 = .ok (.iload_n 1, 1) := by decide +kernel
theorem dX6_chairAt_26 : decode cX6_chairAt 26 = .ok (.aaload, 1) := by decide +kernel
theorem dX6_chairAt_27 : decode cX6_chairAt 27 = .ok (.iload_n 2, 1) := by decide +kernel
theorem dX6_chairAt_28 : decode cX6_chairAt 28 = .ok (.invokevirtual 206, 3) := by decide +kernel
theorem dX6_chairAt_31 : decode cX6_chairAt 31 = .ok (.ireturn, 1) := by decide +kernel
theorem dX6_earliest_0 : decode cX6_earliest 0 = .ok (.aload_n 0, 1) := by decide +kernel
theorem dX6_earliest_1 : decode cX6_earliest 1 = .ok (.iload_n 1, 1) := by decide +kernel
theorem dX6_earliest_2 : decode cX6_earliest 2 = .ok (.invokevirtual 96, 3) := by decide +kernel
theorem dX6_earliest_5 : decode cX6_earliest 5 = .ok (.iload_n 2, 1) := by decide +kernel
theorem dX6_earliest_6 : decode cX6_earliest 6 = .ok (.invokestatic 120, 3) := by decide +kernel
theorem dX6_earliest_9 : decode cX6_earliest 9 = .ok (.aload_n 0, 1) := by decide +kernel
theorem dX6_earliest_10 : decode cX6_earliest 10 = .ok (.aload_n 0, 1) := by decide +kernel
theorem dX6_earliest_11 : decode cX6_earliest 11 = .ok (.getfield 16, 3) := by decide +kernel
theorem dX6_earliest_14 : decode cX6_earliest 14 = .ok (.iload_n 1, 1) := by decide +kernel
theorem dX6_earliest_15 : decode cX6_earliest 15 = .ok (.invokevirtual 99, 3) := by decide +kernel
theorem dX6_earliest_18 : decode cX6_earliest 18 = .ok (.checkcast 87, 3) := by decide +kernel
theorem dX6_earliest_21 : decode cX6_earliest 21 = .ok (.bipush 31, 2) := by decide +kernel
theorem dX6_earliest_23 : decode cX6_earliest 23 = .ok (.iload_n 2, 1) := by decide +kernel
theorem dX6_earliest_24 : decode cX6_earliest 24 = .ok (.invokevirtual 155, 3) := by decide +kernel
theorem dX6_earliest_27 : decode cX6_earliest 27 = .ok (.ireturn, 1) := by decide +kernel
theorem dX6_earliestByScan_0 : decode cX6_earliestByScan 0 = .ok (.aload_n 0, 1) := by decide +kernel
theorem dX6_earliestByScan_1 : decode cX6_earliestByScan 1 = .ok (.iload_n 1, 1) := by decide +kernel
theorem dX6_earliestByScan_2 : decode cX6_earliestByScan 2 = .ok (.invokevirtual 96, 3) := by decide +kernel
theorem dX6_earliestByScan_5 : decode cX6_earliestByScan 5 = .ok (.iload_n 2, 1) := by decide +kernel
theorem dX6_earliestByScan_6 : decode cX6_earliestByScan 6 = .ok (.invokestatic 120, 3) := by decide +kernel
theorem dX6_earliestByScan_9 : decode cX6_earliestByScan 9 = .ok (.aload_n 0, 1) := by decide +kernel
theorem dX6_earliestByScan_10 : decode cX6_earliestByScan 10 = .ok (.aload_n 0, 1) := by decide +kernel
theorem dX6_earliestByScan_11 : decode cX6_earliestByScan 11 = .ok (.getfield 16, 3) := by decide +kernel
theorem dX6_earliestByScan_14 : decode cX6_earliestByScan 14 = .ok (.iload_n 1, 1) := by decide +kernel
theorem dX6_earliestByScan_15 : decode cX6_earliestByScan 15 = .ok (.invokevirtual 99, 3) := by decide +kernel
theorem dX6_earliestByScan_18 : decode cX6_earliestByScan 18 = .ok (.checkcast 87, 3) := by decide +kernel
theorem dX6_earliestByScan_21 : decode cX6_earliestByScan 21 = .ok (.bipush 31, 2) := by decide +kernel
theorem dX6_earliestByScan_23 : decode cX6_earliestByScan 23 = .ok (.iload_n 2, 1) := by decide +kernel
theorem dX6_earliestByScan_24 : decode cX6_earliestByScan 24 = .ok (.sipush 600, 3) := by decide +kernel
theorem dX6_earliestByScan_27 : decode cX6_earliestByScan 27 = .ok (.invokevirtual 214, 3) := by decide +kernel
theorem dX6_earliestByScan_30 : decode cX6_earliestByScan 30 = .ok (.ireturn, 1) := by decide +kernel
theorem dX6_staffFor_0 : decode cX6_staffFor 0 = .ok (.aload_n 0, 1) := by decide +kernel
theorem dX6_staffFor_1 : decode cX6_staffFor 1 = .ok (.iload_n 1, 1) := by decide +kernel
theorem dX6_staffFor_2 : decode cX6_staffFor 2 = .ok (.invokevirtual 96, 3) := by decide +kernel
theorem dX6_staffFor_5 : decode cX6_staffFor 5 = .ok (.iload_n 2, 1) := by decide +kernel
theorem dX6_staffFor_6 : decode cX6_staffFor 6 = .ok (.invokestatic 120, 3) := by decide +kernel
theorem dX6_staffFor_9 : decode cX6_staffFor 9 = .ok (.aload_n 0, 1) := by decide +kernel
theorem dX6_staffFor_10 : decode cX6_staffFor 10 = .ok (.getfield 16, 3) := by decide +kernel
theorem dX6_staffFor_13 : decode cX6_staffFor 13 = .ok (.iload_n 1, 1) := by decide +kernel
theorem dX6_staffFor_14 : decode cX6_staffFor 14 = .ok (.invokevirtual 99, 3) := by decide +kernel
theorem dX6_staffFor_17 : decode cX6_staffFor 17 = .ok (.checkcast 87, 3) := by decide +kernel
theorem dX6_staffFor_20 : decode cX6_staffFor 20 = .ok (.astore_n 3, 1) := by decide +kernel
theorem dX6_staffFor_21 : decode cX6_staffFor 21 = .ok (.aload_n 0, 1) := by decide +kernel
theorem dX6_staffFor_22 : decode cX6_staffFor 22 = .ok (.aload_n 3, 1) := by decide +kernel
theorem dX6_staffFor_23 : decode cX6_staffFor 23 = .ok (.bipush 31, 2) := by decide +kernel
theorem dX6_staffFor_25 : decode cX6_staffFor 25 = .ok (.iload_n 2, 1) := by decide +kernel
theorem dX6_staffFor_26 : decode cX6_staffFor 26 = .ok (.invokevirtual 155, 3) := by decide +kernel
theorem dX6_staffFor_29 : decode cX6_staffFor 29 = .ok (.istore 4, 2) := by decide +kernel
theorem dX6_staffFor_31 : decode cX6_staffFor 31 = .ok (.iload 4, 2) := by decide +kernel
theorem dX6_staffFor_33 : decode cX6_staffFor 33 = .ok (.iconst (-1), 1) := by decide +kernel
theorem dX6_staffFor_34 : decode cX6_staffFor 34 = .ok (.if_icmp .ne 7, 3) := by decide +kernel
theorem dX6_staffFor_37 : decode cX6_staffFor 37 = .ok (.iconst (-1), 1) := by decide +kernel
theorem dX6_staffFor_38 : decode cX6_staffFor 38 = .ok (.goto 12, 3) := by decide +kernel
theorem dX6_staffFor_41 : decode cX6_staffFor 41 = .ok (.aload_n 0, 1) := by decide +kernel
theorem dX6_staffFor_42 : decode cX6_staffFor 42 = .ok (.aload_n 3, 1) := by decide +kernel
theorem dX6_staffFor_43 : decode cX6_staffFor 43 = .ok (.bipush 31, 2) := by decide +kernel
theorem dX6_staffFor_45 : decode cX6_staffFor 45 = .ok (.iload 4, 2) := by decide +kernel
theorem dX6_staffFor_47 : decode cX6_staffFor 47 = .ok (.invokevirtual 218, 3) := by decide +kernel
theorem dX6_staffFor_50 : decode cX6_staffFor 50 = .ok (.ireturn, 1) := by decide +kernel
theorem dX6_inRest_0 : decode cX6_inRest 0 = .ok (.aload_n 0, 1) := by decide +kernel
theorem dX6_inRest_1 : decode cX6_inRest 1 = .ok (.iload_n 1, 1) := by decide +kernel
theorem dX6_inRest_2 : decode cX6_inRest 2 = .ok (.invokevirtual 133, 3) := by decide +kernel
theorem dX6_inRest_5 : decode cX6_inRest 5 = .ok (.aload_n 0, 1) := by decide +kernel
theorem dX6_inRest_6 : decode cX6_inRest 6 = .ok (.iload_n 2, 1) := by decide +kernel
theorem dX6_inRest_7 : decode cX6_inRest 7 = .ok (.invokevirtual 96, 3) := by decide +kernel
theorem dX6_inRest_10 : decode cX6_inRest 10 = .ok (.aload_n 0, 1) := by decide +kernel
theorem dX6_inRest_11 : decode cX6_inRest 11 = .ok (.getfield 19, 3) := by decide +kernel
theorem dX6_inRest_14 : decode cX6_inRest 14 = .ok (.iload_n 1, 1) := by decide +kernel
theorem dX6_inRest_15 : decode cX6_inRest 15 = .ok (.invokevirtual 99, 3) := by decide +kernel
theorem dX6_inRest_18 : decode cX6_inRest 18 = .ok (.checkcast 136, 3) := by decide +kernel
theorem dX6_inRest_21 : decode cX6_inRest 21 = .ok (.astore_n 3, 1) := by decide +kernel
theorem dX6_inRest_22 : decode cX6_inRest 22 = .ok (.aload_n 0, 1) := by decide +kernel
theorem dX6_inRest_23 : decode cX6_inRest 23 = .ok (.getfield 16, 3) := by decide +kernel
theorem dX6_inRest_26 : decode cX6_inRest 26 = .ok (.iload_n 2, 1) := by decide +kernel
theorem dX6_inRest_27 : decode cX6_inRest 27 = .ok (.invokevirtual 99, 3) := by decide +kernel
theorem dX6_inRest_30 : decode cX6_inRest 30 = .ok (.checkcast 87, 3) := by decide +kernel
theorem dX6_inRest_33 : decode cX6_inRest 33 = .ok (.astore 4, 2) := by decide +kernel
theorem dX6_inRest_35 : decode cX6_inRest 35 = .ok (.iconst 0, 1) := by decide +kernel
theorem dX6_inRest_36 : decode cX6_inRest 36 = .ok (.istore 5, 2) := by decide +kernel
theorem dX6_inRest_38 : decode cX6_inRest 38 = .ok (.iload 5, 2) := by decide +kernel
theorem dX6_inRest_40 : decode cX6_inRest 40 = .ok (.aload_n 3, 1) := by decide +kernel
theorem dX6_inRest_41 : decode cX6_inRest 41 = .ok (.getfield 151, 3) := by decide +kernel
theorem dX6_inRest_44 : decode cX6_inRest 44 = .ok (.getfield 103, 3) := by decide +kernel
theorem dX6_inRest_47 : decode cX6_inRest 47 = .ok (.if_icmp .ge 80, 3) := by decide +kernel
theorem dX6_inRest_50 : decode cX6_inRest 50 = .ok (.aload_n 3, 1) := by decide +kernel
theorem dX6_inRest_51 : decode cX6_inRest 51 = .ok (.getfield 151, 3) := by decide +kernel
theorem dX6_inRest_54 : decode cX6_inRest 54 = .ok (.iload 5, 2) := by decide +kernel
theorem dX6_inRest_56 : decode cX6_inRest 56 = .ok (.invokevirtual 221, 3) := by decide +kernel
theorem dX6_inRest_59 : decode cX6_inRest 59 = .ok (.ifCond .eq 62, 3) := by decide +kernel
theorem dX6_inRest_62 : decode cX6_inRest 62 = .ok (.aload_n 3, 1) := by decide +kernel
theorem dX6_inRest_63 : decode cX6_inRest 63 = .ok (.getfield 144, 3) := by decide +kernel
theorem dX6_inRest_66 : decode cX6_inRest 66 = .ok (.aload_n 3, 1) := by decide +kernel
theorem dX6_inRest_67 : decode cX6_inRest 67 = .ok (.getfield 151, 3) := by decide +kernel
theorem dX6_inRest_70 : decode cX6_inRest 70 = .ok (.iload 5, 2) := by decide +kernel
theorem dX6_inRest_72 : decode cX6_inRest 72 = .ok (.invokevirtual 224, 3) := by decide +kernel
theorem dX6_inRest_75 : decode cX6_inRest 75 = .ok (.iadd, 1) := by decide +kernel
theorem dX6_inRest_76 : decode cX6_inRest 76 = .ok (.istore 6, 2) := by decide +kernel
theorem dX6_inRest_78 : decode cX6_inRest 78 = .ok (.aload_n 3, 1) := by decide +kernel
theorem dX6_inRest_79 : decode cX6_inRest 79 = .ok (.getfield 144, 3) := by decide +kernel
theorem dX6_inRest_82 : decode cX6_inRest 82 = .ok (.aload_n 3, 1) := by decide +kernel
theorem dX6_inRest_83 : decode cX6_inRest 83 = .ok (.getfield 151, 3) := by decide +kernel
theorem dX6_inRest_86 : decode cX6_inRest 86 = .ok (.iload 5, 2) := by decide +kernel
theorem dX6_inRest_88 : decode cX6_inRest 88 = .ok (.invokevirtual 227, 3) := by decide +kernel
theorem dX6_inRest_91 : decode cX6_inRest 91 = .ok (.iadd, 1) := by decide +kernel
theorem dX6_inRest_92 : decode cX6_inRest 92 = .ok (.istore 7, 2) := by decide +kernel
theorem dX6_inRest_94 : decode cX6_inRest 94 = .ok (.aload_n 0, 1) := by decide +kernel
theorem dX6_inRest_95 : decode cX6_inRest 95 = .ok (.aload 4, 2) := by decide +kernel
theorem dX6_inRest_97 : decode cX6_inRest 97 = .ok (.iconst 1, 1) := by decide +kernel
theorem dX6_inRest_98 : decode cX6_inRest 98 = .ok (.aload_n 3, 1) := by decide +kernel
theorem dX6_inRest_99 : decode cX6_inRest 99 = .ok (.getfield 138, 3) := by decide +kernel
theorem dX6_inRest_102 : decode cX6_inRest 102 = .ok (.ishl, 1) := by decide +kernel
theorem dX6_inRest_103 : decode cX6_inRest 103 = .ok (.iload 6, 2) := by decide +kernel
theorem dX6_inRest_105 : decode cX6_inRest 105 = .ok (.iload 7, 2) := by decide +kernel
theorem dX6_inRest_107 : decode cX6_inRest 107 = .ok (.invokevirtual 214, 3) := by decide +kernel
theorem dX6_inRest_110 : decode cX6_inRest 110 = .ok (.istore 8, 2) := by decide +kernel
theorem dX6_inRest_112 : decode cX6_inRest 112 = .ok (.iload 8, 2) := by decide +kernel
theorem dX6_inRest_114 : decode cX6_inRest 114 = .ok (.iconst (-1), 1) := by decide +kernel
theorem dX6_inRest_115 : decode cX6_inRest 115 = .ok (.if_icmp .eq 6, 3) := by decide +kernel
theorem dX6_inRest_118 : decode cX6_inRest 118 = .ok (.iload 8, 2) := by decide +kernel
theorem dX6_inRest_120 : decode cX6_inRest 120 = .ok (.ireturn, 1) := by decide +kernel
theorem dX6_inRest_121 : decode cX6_inRest 121 = .ok (.iinc 5 1, 3) := by decide +kernel
theorem dX6_inRest_124 : decode cX6_inRest 124 = .ok (.goto (-86), 3) := by decide +kernel
theorem dX6_inRest_127 : decode cX6_inRest 127 = .ok (.iconst (-1), 1) := by decide +kernel
theorem dX6_inRest_128 : decode cX6_inRest 128 = .ok (.ireturn, 1) := by decide +kernel
theorem dX6_peak_0 : decode cX6_peak 0 = .ok (.iconst 0, 1) := by decide +kernel
theorem dX6_peak_1 : decode cX6_peak 1 = .ok (.istore_n 1, 1) := by decide +kernel
theorem dX6_peak_2 : decode cX6_peak 2 = .ok (.iconst 0, 1) := by decide +kernel
theorem dX6_peak_3 : decode cX6_peak 3 = .ok (.istore_n 2, 1) := by decide +kernel
theorem dX6_peak_4 : decode cX6_peak 4 = .ok (.iconst 0, 1) := by decide +kernel
theorem dX6_peak_5 : decode cX6_peak 5 = .ok (.istore_n 3, 1) := by decide +kernel
theorem dX6_peak_6 : decode cX6_peak 6 = .ok (.iload_n 3, 1) := by decide +kernel
theorem dX6_peak_7 : decode cX6_peak 7 = .ok (.sipush 600, 3) := by decide +kernel
theorem dX6_peak_10 : decode cX6_peak 10 = .ok (.if_icmp .ge 27, 3) := by decide +kernel
theorem dX6_peak_13 : decode cX6_peak 13 = .ok (.aload_n 0, 1) := by decide +kernel
theorem dX6_peak_14 : decode cX6_peak 14 = .ok (.iload_n 3, 1) := by decide +kernel
theorem dX6_peak_15 : decode cX6_peak 15 = .ok (.invokevirtual 235, 3) := by decide +kernel
theorem dX6_peak_18 : decode cX6_peak 18 = .ok (.istore 4, 2) := by decide +kernel
theorem dX6_peak_20 : decode cX6_peak 20 = .ok (.iload 4, 2) := by decide +kernel
theorem dX6_peak_22 : decode cX6_peak 22 = .ok (.iload_n 2, 1) := by decide +kernel
theorem dX6_peak_23 : decode cX6_peak 23 = .ok (.if_icmp .le 8, 3) := by decide +kernel
theorem dX6_peak_26 : decode cX6_peak 26 = .ok (.iload_n 3, 1) := by decide +kernel
theorem dX6_peak_27 : decode cX6_peak 27 = .ok (.istore_n 1, 1) := by decide +kernel
theorem dX6_peak_28 : decode cX6_peak 28 = .ok (.iload 4, 2) := by decide +kernel
theorem dX6_peak_30 : decode cX6_peak 30 = .ok (.istore_n 2, 1) := by decide +kernel
theorem dX6_peak_31 : decode cX6_peak 31 = .ok (.iinc 3 1, 3) := by decide +kernel
theorem dX6_peak_34 : decode cX6_peak 34 = .ok (.goto (-28), 3) := by decide +kernel
theorem dX6_peak_37 : decode cX6_peak 37 = .ok (.iload_n 1, 1) := by decide +kernel
theorem dX6_peak_38 : decode cX6_peak 38 = .ok (.ireturn, 1) := by decide +kernel
theorem dX6_isMinute_0 : decode cX6_isMinute 0 = .ok (.iload_n 0, 1) := by decide +kernel
theorem dX6_isMinute_1 : decode cX6_isMinute 1 = .ok (.ifCond .lt 14, 3) := by decide +kernel
theorem dX6_isMinute_4 : decode cX6_isMinute 4 = .ok (.iload_n 0, 1) := by decide +kernel
theorem dX6_isMinute_5 : decode cX6_isMinute 5 = .ok (.sipush 600, 3) := by decide +kernel
theorem dX6_isMinute_8 : decode cX6_isMinute 8 = .ok (.if_icmp .ge 7, 3) := by decide +kernel
theorem dX6_isMinute_11 : decode cX6_isMinute 11 = .ok (.iconst 1, 1) := by decide +kernel
theorem dX6_isMinute_12 : decode cX6_isMinute 12 = .ok (.goto 4, 3) := by decide +kernel
theorem dX6_isMinute_15 : decode cX6_isMinute 15 = .ok (.iconst 0, 1) := by decide +kernel
theorem dX6_isMinute_16 : decode cX6_isMinute 16 = .ok (.ireturn, 1) := by decide +kernel
