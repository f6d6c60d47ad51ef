theorem dX0_init_0 : decode cX0_init 0 = .ok (.aload_n 0, 1) := by decide +kernel
theorem dX0_init_1 : decode cX0_init 1 = .ok (.invokespecial 3, 3) := by decide +kernel
theorem dX0_init_4 : decode cX0_init 4 = .ok (.aload_n 0, 1) := by decide +kernel
theorem dX0_init_5 : decode cX0_init 5 = .ok (.sipush 600, 3) := by decide +kernel
theorem dX0_init_8 : decode cX0_init 8 = .ok (.newarray .int, 2) := by decide +kernel
theorem dX0_init_10 : decode cX0_init 10 = .ok (.putfield 9, 3) := by decide +kernel
theorem dX0_init_13 : decode cX0_init 13 = .ok (.aload_n 0, 1) := by decide +kernel
theorem dX0_init_14 : decode cX0_init 14 = .ok (.sipush 601, 3) := by decide +kernel
theorem dX0_init_17 : decode cX0_init 17 = .ok (.newarray .int, 2) := by decide +kernel
theorem dX0_init_19 : decode cX0_init 19 = .ok (.putfield 15, 3) := by decide +kernel
theorem dX0_init_22 : decode cX0_init 22 = .ok (.iconst 0, 1) := by decide +kernel
theorem dX0_init_23 : decode cX0_init 23 = .ok (.istore_n 1, 1) := by decide +kernel
theorem dX0_init_24 : decode cX0_init 24 = .ok (.iload_n 1, 1) := by decide +kernel
theorem dX0_init_25 : decode cX0_init 25 = .ok (.sipush 600, 3) := by decide +kernel
theorem dX0_init_28 : decode cX0_init 28 = .ok (.if_icmp .ge 16, 3) := by decide +kernel
theorem dX0_init_31 : decode cX0_init 31 = .ok (.aload_n 0, 1) := by decide +kernel
theorem dX0_init_32 : decode cX0_init 32 = .ok (.getfield 9, 3) := by decide +kernel
theorem dX0_init_35 : decode cX0_init 35 = .ok (.iload_n 1, 1) := by decide +kernel
theorem dX0_init_36 : decode cX0_init 36 = .ok (.iconst (-1), 1) := by decide +kernel
theorem dX0_init_37 : decode cX0_init 37 = .ok (.iastore, 1) := by decide +kernel
theorem dX0_init_38 : decode cX0_init 38 = .ok (.iinc 1 1, 3) := by decide +kernel
theorem dX0_init_41 : decode cX0_init 41 = .ok (.goto (-17), 3) := by decide +kernel
theorem dX0_init_44 : decode cX0_init 44 = .ok (.return_, 1) := by decide +kernel
theorem dX0_at_0 : decode cX0_at 0 = .ok (.iload_n 1, 1) := by decide +kernel
theorem dX0_at_1 : decode cX0_at 1 = .ok (.invokestatic 18, 3) := by decide +kernel
theorem dX0_at_4 : decode cX0_at 4 = .ok (.ifCond .eq 12, 3) := by decide +kernel
theorem dX0_at_7 : decode cX0_at 7 = .ok (.aload_n 0, 1) := by decide +kernel
theorem dX0_at_8 : decode cX0_at 8 = .ok (.getfield 9, 3) := by decide +kernel
theorem dX0_at_11 : decode cX0_at 11 = .ok (.iload_n 1, 1) := by decide +kernel
theorem dX0_at_12 : decode cX0_at 12 = .ok (.iaload, 1) := by decide +kernel
theorem dX0_at_13 : decode cX0_at 13 = .ok (.goto 4, 3) := by decide +kernel
theorem dX0_at_16 : decode cX0_at 16 = .ok (.iconst (-1), 1) := by decide +kernel
theorem dX0_at_17 : decode cX0_at 17 = .ok (.ireturn, 1) := by decide +kernel
theorem dX0_isFree_0 : decode cX0_isFree 0 = .ok (.iload_n 1, 1) := by decide +kernel
theorem dX0_isFree_1 : decode cX0_isFree 1 = .ok (.ifCond .lt 15, 3) := by decide +kernel
theorem dX0_isFree_4 : decode cX0_isFree 4 = .ok (.iload_n 2, 1) := by decide +kernel
theorem dX0_isFree_5 : decode cX0_isFree 5 = .ok (.iload_n 1, 1) := by decide +kernel
theorem dX0_isFree_6 : decode cX0_isFree 6 = .ok (.if_icmp .lt 10, 3) := by decide +kernel
theorem dX0_isFree_9 : decode cX0_isFree 9 = .ok (.iload_n 2, 1) := by decide +kernel
theorem dX0_isFree_10 : decode cX0_isFree 10 = .ok (.sipush 600, 3) := by decide +kernel
theorem dX0_isFree_13 : decode cX0_isFree 13 = .ok (.if_icmp .le 5, 3) := by decide +kernel
theorem dX0_isFree_16 : decode cX0_isFree 16 = .ok (.iconst 0, 1) := by decide +kernel
theorem dX0_isFree_17 : decode cX0_isFree 17 = .ok (.ireturn, 1) := by decide +kernel
theorem dX0_isFree_18 : decode cX0_isFree 18 = .ok (.aload_n 0, 1) := by decide +kernel
theorem dX0_isFree_19 : decode cX0_isFree 19 = .ok (.getfield 15, 3) := by decide +kernel
theorem dX0_isFree_22 : decode cX0_isFree 22 = .ok (.iload_n 1, 1) := by decide +kernel
theorem dX0_isFree_23 : decode cX0_isFree 23 = .ok (.iaload, 1) := by decide +kernel
theorem dX0_isFree_24 : decode cX0_isFree 24 = .ok (.aload_n 0, 1) := by decide +kernel
theorem dX0_isFree_25 : decode cX0_isFree 25 = .ok (.getfield 15, 3) := by decide +kernel
theorem dX0_isFree_28 : decode cX0_isFree 28 = .ok (.iload_n 2, 1) := by decide +kernel
theorem dX0_isFree_29 : decode cX0_isFree 29 = .ok (.iaload, 1) := by decide +kernel
theorem dX0_isFree_30 : decode cX0_isFree 30 = .ok (.if_icmp .ne 7, 3) := by decide +kernel
theorem dX0_isFree_33 : decode cX0_isFree 33 = .ok (.iconst 1, 1) := by decide +kernel
theorem dX0_isFree_34 : decode cX0_isFree 34 = .ok (.goto 4, 3) := by decide +kernel
theorem dX0_isFree_37 : decode cX0_isFree 37 = .ok (.iconst 0, 1) := by decide +kernel
theorem dX0_isFree_38 : decode cX0_isFree 38 = .ok (.ireturn, 1) := by decide +kernel
theorem dX0_write_0 : decode cX0_write 0 = .ok (.iload_n 1, 1) := by decide +kernel
theorem dX0_write_1 : decode cX0_write 1 = .ok (.ifCond .lt 10, 3) := by decide +kernel
theorem dX0_write_4 : decode cX0_write 4 = .ok (.iload_n 2, 1) := by decide +kernel
theorem dX0_write_5 : decode cX0_write 5 = .ok (.sipush 600, 3) := by decide +kernel
theorem dX0_write_8 : decode cX0_write 8 = .ok (.if_icmp .le 4, 3) := by decide +kernel
theorem dX0_write_11 : decode cX0_write 11 = .ok (.return_, 1) := by decide +kernel
theorem dX0_write_12 : decode cX0_write 12 = .ok (.iload_n 1, 1) := by decide +kernel
theorem dX0_write_13 : decode cX0_write 13 = .ok (.istore 4, 2) := by decide +kernel
theorem dX0_write_15 : decode cX0_write 15 = .ok (.iload 4, 2) := by decide +kernel
theorem dX0_write_17 : decode cX0_write 17 = .ok (.iload_n 2, 1) := by decide +kernel
theorem dX0_write_18 : decode cX0_write 18 = .ok (.if_icmp .ge 17, 3) := by decide +kernel
theorem dX0_write_21 : decode cX0_write 21 = .ok (.aload_n 0, 1) := by decide +kernel
theorem dX0_write_22 : decode cX0_write 22 = .ok (.getfield 9, 3) := by decide +kernel
theorem dX0_write_25 : decode cX0_write 25 = .ok (.iload 4, 2) := by decide +kernel
theorem dX0_write_27 : decode cX0_write 27 = .ok (.iload_n 3, 1) := by decide +kernel
theorem dX0_write_28 : decode cX0_write 28 = .ok (.iastore, 1) := by decide +kernel
theorem dX0_write_29 : decode cX0_write 29 = .ok (.iinc 4 1, 3) := by decide +kernel
theorem dX0_write_32 : decode cX0_write 32 = .ok (.goto (-17), 3) := by decide +kernel
theorem dX0_write_35 : decode cX0_write 35 = .ok (.iload_n 1, 1) := by decide +kernel
theorem dX0_write_36 : decode cX0_write 36 = .ok (.istore 4, 2) := by decide +kernel
theorem dX0_write_38 : decode cX0_write 38 = .ok (.iload 4, 2) := by decide +kernel
theorem dX0_write_40 : decode cX0_write 40 = .ok (.sipush 600, 3) := by decide +kernel
theorem dX0_write_43 : decode cX0_write 43 = .ok (.if_icmp .ge 42, 3) := by decide +kernel
theorem dX0_write_46 : decode cX0_write 46 = .ok (.aload_n 0, 1) := by decide +kernel
theorem dX0_write_47 : decode cX0_write 47 = .ok (.getfield 15, 3) := by decide +kernel
theorem dX0_write_50 : decode cX0_write 50 = .ok (.iload 4, 2) := by decide +kernel
theorem dX0_write_52 : decode cX0_write 52 = .ok (.iconst 1, 1) := by decide +kernel
theorem dX0_write_53 : decode cX0_write 53 = .ok (.iadd, 1) := by decide +kernel
theorem dX0_write_54 : decode cX0_write 54 = .ok (.aload_n 0, 1) := by decide +kernel
theorem dX0_write_55 : decode cX0_write 55 = .ok (.getfield 15, 3) := by decide +kernel
theorem dX0_write_58 : decode cX0_write 58 = .ok (.iload 4, 2) := by decide +kernel
theorem dX0_write_60 : decode cX0_write 60 = .ok (.iaload, 1) := by decide +kernel
theorem dX0_write_61 : decode cX0_write 61 = .ok (.aload_n 0, 1) := by decide +kernel
theorem dX0_write_62 : decode cX0_write 62 = .ok (.getfield 9, 3) := by decide +kernel
theorem dX0_write_65 : decode cX0_write 65 = .ok (.iload 4, 2) := by decide +kernel
theorem dX0_write_67 : decode cX0_write 67 = .ok (.iaload, 1) := by decide +kernel
theorem dX0_write_68 : decode cX0_write 68 = .ok (.iconst (-1), 1) := by decide +kernel
theorem dX0_write_69 : decode cX0_write 69 = .ok (.if_icmp .ne 7, 3) := by decide +kernel
theorem dX0_write_72 : decode cX0_write 72 = .ok (.iconst 0, 1) := by decide +kernel
theorem dX0_write_73 : decode cX0_write 73 = .ok (.goto 4, 3) := by decide +kernel
theorem dX0_write_76 : decode cX0_write 76 = .ok (.iconst 1, 1) := by decide +kernel
theorem dX0_write_77 : decode cX0_write 77 = .ok (.iadd, 1) := by decide +kernel
theorem dX0_write_78 : decode cX0_write 78 = .ok (.iastore, 1) := by decide +kernel
theorem dX0_write_79 : decode cX0_write 79 = .ok (.iinc 4 1, 3) := by decide +kernel
theorem dX0_write_82 : decode cX0_write 82 = .ok (.goto (-44), 3) := by decide +kernel
theorem dX0_write_85 : decode cX0_write 85 = .ok (.return_, 1) := by decide +kernel
theorem dX1_init_0 : decode cX1_init 0 = .ok (.aload_n 0, 1) := by decide +kernel
theorem dX1_init_1 : decode cX1_init 1 = .ok (.invokespecial 1, 3) := by decide +kernel
theorem dX1_init_4 : decode cX1_init 4 = .ok (.aload_n 0, 1) := by decide +kernel
theorem dX1_init_5 : decode cX1_init 5 = .ok (.new 7, 3) := by decide +kernel
theorem dX1_init_8 : decode cX1_init 8 = .ok (.dup, 1) := by decide +kernel
theorem dX1_init_9 : decode cX1_init 9 = .ok (.invokespecial 9, 3) := by decide +kernel
theorem dX1_init_12 : decode cX1_init 12 = .ok (.putfield 10, 3) := by decide +kernel
theorem dX1_init_15 : decode cX1_init 15 = .ok (.aload_n 0, 1) := by decide +kernel
theorem dX1_init_16 : decode cX1_init 16 = .ok (.iload_n 1, 1) := by decide +kernel
theorem dX1_init_17 : decode cX1_init 17 = .ok (.putfield 16, 3) := by decide +kernel
theorem dX1_init_20 : decode cX1_init 20 = .ok (.aload_n 0, 1) := by decide +kernel
theorem dX1_init_21 : decode cX1_init 21 = .ok (.iload_n 2, 1) := by decide +kernel
theorem dX1_init_22 : decode cX1_init 22 = .ok (.putfield 20, 3) := by decide +kernel
theorem dX1_init_25 : decode cX1_init 25 = .ok (.aload_n 0, 1) := by decide +kernel
theorem dX1_init_26 : decode cX1_init 26 = .ok (.iload_n 3, 1) := by decide +kernel
theorem dX1_init_27 : decode cX1_init 27 = .ok (.putfield 23, 3) := by decide +kernel
theorem dX1_init_30 : decode cX1_init 30 = .ok (.return_, 1) := by decide +kernel
theorem dX1_canTake_0 : decode cX1_canTake 0 = .ok (.aload_n 0, 1) := by decide +kernel
theorem dX1_canTake_1 : decode cX1_canTake 1 = .ok (.getfield 16, 3) := by decide +kernel
theorem dX1_canTake_4 : decode cX1_canTake 4 = .ok (.aload_n 1, 1) := by decide +kernel
theorem dX1_canTake_5 : decode cX1_canTake 5 = .ok (.getfield 26, 3) := by decide +kernel
theorem dX1_canTake_8 : decode cX1_canTake 8 = .ok (.iand, 1) := by decide +kernel
theorem dX1_canTake_9 : decode cX1_canTake 9 = .ok (.aload_n 1, 1) := by decide +kernel
theorem dX1_canTake_10 : decode cX1_canTake 10 = .ok (.getfield 26, 3) := by decide +kernel
theorem dX1_canTake_13 : decode cX1_canTake 13 = .ok (.if_icmp .eq 5, 3) := by decide +kernel
theorem dX1_canTake_16 : decode cX1_canTake 16 = .ok (.iconst 0, 1) := by decide +kernel
theorem dX1_canTake_17 : decode cX1_canTake 17 = .ok (.ireturn, 1) := by decide +kernel
theorem dX1_canTake_18 : decode cX1_canTake 18 = .ok (.iload_n 2, 1) := by decide +kernel
theorem dX1_canTake_19 : decode cX1_canTake 19 = .ok (.aload_n 0, 1) := by decide +kernel
theorem dX1_canTake_20 : decode cX1_canTake 20 = .ok (.getfield 20, 3) := by decide +kernel
theorem dX1_canTake_23 : decode cX1_canTake 23 = .ok (.if_icmp .lt 16, 3) := by decide +kernel
theorem dX1_canTake_26 : decode cX1_canTake 26 = .ok (.iload_n 2, 1) := by decide +kernel
theorem dX1_canTake_27 : decode cX1_canTake 27 = .ok (.aload_n 1, 1) := by decide +kernel
theorem dX1_canTake_28 : decode cX1_canTake 28 = .ok (.getfield 29, 3) := by decide +kernel
theorem dX1_canTake_31 : decode cX1_canTake 31 = .ok (.iadd, 1) := by decide +kernel
theorem dX1_canTake_32 : decode cX1_canTake 32 = .ok (.aload_n 0, 1) := by decide +kernel
theorem dX1_canTake_33 : decode cX1_canTake 33 = .ok (.getfield 23, 3) := by decide +kernel
theorem dX1_canTake_36 : decode cX1_canTake 36 = .ok (.if_icmp .le 5, 3) := by decide +kernel
theorem dX1_canTake_39 : decode cX1_canTake 39 = .ok (.iconst 0, 1) := by decide +kernel
theorem dX1_canTake_40 : decode cX1_canTake 40 = .ok (.ireturn, 1) := by decide +kernel
theorem dX1_canTake_41 : decode cX1_canTake 41 = .ok (.iconst 0, 1) := by decide +kernel
theorem dX1_canTake_42 : decode cX1_canTake 42 = .ok (.istore_n 3, 1) := by decide +kernel
theorem dX1_canTake_43 : decode cX1_canTake 43 = .ok (.iload_n 3, 1) := by decide +kernel
theorem dX1_canTake_44 : decode cX1_canTake 44 = .ok (.aload_n 1, 1) := by decide +kernel
theorem dX1_canTake_45 : decode cX1_canTake 45 = .ok (.getfield 32, 3) := by decide +kernel
theorem dX1_canTake_48 : decode cX1_canTake 48 = .ok (.if_icmp .ge 51, 3) := by decide +kernel
theorem dX1_canTake_51 : decode cX1_canTake 51 = .ok (.iload_n 2, 1) := by decide +kernel
theorem dX1_canTake_52 : decode cX1_canTake 52 = .ok (.aload_n 1, 1) := by decide +kernel
theorem dX1_canTake_53 : decode cX1_canTake 53 = .ok (.iload_n 3, 1) := by decide +kernel
theorem dX1_canTake_54 : decode cX1_canTake 54 = .ok (.invokevirtual 35, 3) := by decide +kernel
theorem dX1_canTake_57 : decode cX1_canTake 57 = .ok (.iadd, 1) := by decide +kernel
theorem dX1_canTake_58 : decode cX1_canTake 58 = .ok (.istore 4, 2) := by decide +kernel
theorem dX1_canTake_60 : decode cX1_canTake 60 = .ok (.iload_n 2, 1) := by decide +kernel
theorem dX1_canTake_61 : decode cX1_canTake 61 = .ok (.aload_n 1, 1) := by decide +kernel
theorem dX1_canTake_62 : decode cX1_canTake 62 = .ok (.iload_n 3, 1) := by decide +kernel
theorem dX1_canTake_63 : decode cX1_canTake 63 = .ok (.invokevirtual 39, 3) := by decide +kernel
theorem dX1_canTake_66 : decode cX1_canTake 66 = .ok (.iadd, 1) := by decide +kernel
theorem dX1_canTake_67 : decode cX1_canTake 67 = .ok (.istore 5, 2) := by decide +kernel
theorem dX1_canTake_69 : decode cX1_canTake 69 = .ok (.aload_n 1, 1) := by decide +kernel
theorem dX1_canTake_70 : decode cX1_canTake 70 = .ok (.iload_n 3, 1) := by decide +kernel
theorem dX1_canTake_71 : decode cX1_canTake 71 = .ok (.invokevirtual 42, 3) := by decide +kernel
theorem dX1_canTake_74 : decode cX1_canTake 74 = .ok (.ifCond .ne 19, 3) := by decide +kernel
theorem dX1_canTake_77 : decode cX1_canTake 77 = .ok (.aload_n 0, 1) := by decide +kernel
theorem dX1_canTake_78 : decode cX1_canTake 78 = .ok (.getfield 10, 3) := by decide +kernel
theorem dX1_canTake_81 : decode cX1_canTake 81 = .ok (.iload 4, 2) := by decide +kernel
theorem dX1_canTake_83 : decode cX1_canTake 83 = .ok (.iload 5, 2) := by decide +kernel
theorem dX1_canTake_85 : decode cX1_canTake 85 = .ok (.invokevirtual 46, 3) := by decide +kernel
theorem dX1_canTake_88 : decode cX1_canTake 88 = .ok (.ifCond .ne 5, 3) := by decide +kernel
theorem dX1_canTake_91 : decode cX1_canTake 91 = .ok (.iconst 0, 1) := by decide +kernel
theorem dX1_canTake_92 : decode cX1_canTake 92 = .ok (.ireturn, 1) := by decide +kernel
theorem dX1_canTake_93 : decode cX1_canTake 93 = .ok (.iinc 3 1, 3) := by decide +kernel
theorem dX1_canTake_96 : decode cX1_canTake 96 = .ok (.goto (-53), 3) := by decide +kernel
theorem dX1_canTake_99 : decode cX1_canTake 99 = .ok (.iconst 1, 1) := by decide +kernel
theorem dX1_canTake_100 : decode cX1_canTake 100 = .ok (.ireturn, 1) := by decide +kernel
theorem dX2_init_0 : decode cX2_init 0 = .ok (.aload_n 0, 1) := by decide +kernel
theorem dX2_init_1 : decode cX2_init 1 = .ok (.invokespecial 3, 3) := by decide +kernel
theorem dX2_init_4 : decode cX2_init 4 = .ok (.aload_n 0, 1) := by decide +kernel
theorem dX2_init_5 : decode cX2_init 5 = .ok (.sipush 600, 3) := by decide +kernel
theorem dX2_init_8 : decode cX2_init 8 = .ok (.newarray .boolean, 2) := by decide +kernel
theorem dX2_init_10 : decode cX2_init 10 = .ok (.putfield 9, 3) := by decide +kernel
theorem dX2_init_13 : decode cX2_init 13 = .ok (.return_, 1) := by decide +kernel
theorem dX2_clear_0 : decode cX2_clear 0 = .ok (.iconst 0, 1) := by decide +kernel
theorem dX2_clear_1 : decode cX2_clear 1 = .ok (.istore_n 1, 1) := by decide +kernel
theorem dX2_clear_2 : decode cX2_clear 2 = .ok (.iload_n 1, 1) := by decide +kernel
theorem dX2_clear_3 : decode cX2_clear 3 = .ok (.sipush 600, 3) := by decide +kernel
theorem dX2_clear_6 : decode cX2_clear 6 = .ok (.if_icmp .ge 16, 3) := by decide +kernel
theorem dX2_clear_9 : decode cX2_clear 9 = .ok (.aload_n 0, 1) := by decide +kernel
theorem dX2_clear_10 : decode cX2_clear 10 = .ok (.getfield 9, 3) := by decide +kernel
theorem dX2_clear_13 : decode cX2_clear 13 = .ok (.iload_n 1, 1) := by decide +kernel
theorem dX2_clear_14 : decode cX2_clear 14 = .ok (.iconst 0, 1) := by decide +kernel
theorem dX2_clear_15 : decode cX2_clear 15 = .ok (.bastore, 1) := by decide +kernel
theorem dX2_clear_16 : decode cX2_clear 16 = .ok (.iinc 1 1, 3) := by decide +kernel
theorem dX2_clear_19 : decode cX2_clear 19 = .ok (.goto (-17), 3) := by decide +kernel
theorem dX2_clear_22 : decode cX2_clear 22 = .ok (.return_, 1) := by decide +kernel
theorem dX2_add_0 : decode cX2_add 0 = .ok (.iload_n 1, 1) := by decide +kernel
theorem dX2_add_1 : decode cX2_add 1 = .ok (.invokestatic 15, 3) := by decide +kernel
theorem dX2_add_4 : decode cX2_add 4 = .ok (.ifCond .eq 10, 3) := by decide +kernel
theorem dX2_add_7 : decode cX2_add 7 = .ok (.aload_n 0, 1) := by decide +kernel
theorem dX2_add_8 : decode cX2_add 8 = .ok (.getfield 9, 3) := by decide +kernel
theorem dX2_add_11 : decode cX2_add 11 = .ok (.iload_n 1, 1) := by decide +kernel
theorem dX2_add_12 : decode cX2_add 12 = .ok (.iconst 1, 1) := by decide +kernel
theorem dX2_add_13 : decode cX2_add 13 = .ok (.bastore, 1) := by decide +kernel
theorem dX2_add_14 : decode cX2_add 14 = .ok (.return_, 1) := by decide +kernel
theorem dX2_has_0 : decode cX2_has 0 = .ok (.iload_n 1, 1) := by decide +kernel
theorem dX2_has_1 : decode cX2_has 1 = .ok (.invokestatic 15, 3) := by decide +kernel
theorem dX2_has_4 : decode cX2_has 4 = .ok (.ifCond .eq 16, 3) := by decide +kernel
theorem dX2_has_7 : decode cX2_has 7 = .ok (.aload_n 0, 1) := by decide +kernel
theorem dX2_has_8 : decode cX2_has 8 = .ok (.getfield 9, 3) := by decide +kernel
theorem dX2_has_11 : decode cX2_has 11 = .ok (.iload_n 1, 1) := by decide +kernel
theorem dX2_has_12 : decode cX2_has 12 = .ok (.baload, 1) := by decide +kernel
theorem dX2_has_13 : decode cX2_has 13 = .ok (.ifCond .eq 7, 3) := by decide +kernel
theorem dX2_has_16 : decode cX2_has 16 = .ok (.iconst 1, 1) := by decide +kernel
theorem dX2_has_17 : decode cX2_has 17 = .ok (.goto 4, 3) := by decide +kernel
theorem dX2_has_20 : decode cX2_has 20 = .ok (.iconst 0, 1) := by decide +kernel
theorem dX2_has_21 : decode cX2_has 21 = .ok (.ireturn, 1) := by decide +kernel
theorem dX3_init_0 : decode cX3_init 0 = .ok (.aload_n 0, 1) := by decide +kernel
theorem dX3_init_1 : decode cX3_init 1 = .ok (.invokespecial 1, 3) := by decide +kernel
theorem dX3_init_4 : decode cX3_init 4 = .ok (.aload_n 0, 1) := by decide +kernel
theorem dX3_init_5 : decode cX3_init 5 = .ok (.aload_n 1, 1) := by decide +kernel
theorem dX3_init_6 : decode cX3_init 6 = .ok (.putfield 7, 3) := by decide +kernel
theorem dX3_init_9 : decode cX3_init 9 = .ok (.aload_n 0, 1) := by decide +kernel
theorem dX3_init_10 : decode cX3_init 10 = .ok (.iload_n 2, 1) := by decide +kernel
theorem dX3_init_11 : decode cX3_init 11 = .ok (.putfield 13, 3) := by decide +kernel
theorem dX3_init_14 : decode cX3_init 14 = .ok (.return_, 1) := by decide +kernel
theorem dX4_init_0 : decode cX4_init 0 = .ok (.aload_n 0, 1) := by decide +kernel
theorem dX4_init_1 : decode cX4_init 1 = .ok (.invokespecial 3, 3) := by decide +kernel
theorem dX4_init_4 : decode cX4_init 4 = .ok (.aload_n 0, 1) := by decide +kernel
theorem dX4_init_5 : decode cX4_init 5 = .ok (.iconst 5, 1) := by decide +kernel
theorem dX4_init_6 : decode cX4_init 6 = .ok (.newarray .int, 2) := by decide +kernel
theorem dX4_init_8 : decode cX4_init 8 = .ok (.putfield 9, 3) := by decide +kernel
theorem dX4_init_11 : decode cX4_init 11 = .ok (.aload_n 0, 1) := by decide +kernel
theorem dX4_init_12 : decode cX4_init 12 = .ok (.iconst 5, 1) := by decide +kernel
theorem dX4_init_13 : decode cX4_init 13 = .ok (.newarray .int, 2) := by decide +kernel
theorem dX4_init_15 : decode cX4_init 15 = .ok (.putfield 15, 3) := by decide +kernel
theorem dX4_init_18 : decode cX4_init 18 = .ok (.aload_n 0, 1) := by decide +kernel
theorem dX4_init_19 : decode cX4_init 19 = .ok (.iconst 5, 1) := by decide +kernel
theorem dX4_init_20 : decode cX4_init 20 = .ok (.newarray .int, 2) := by decide +kernel
theorem dX4_init_22 : decode cX4_init 22 = .ok (.putfield 18, 3) := by decide +kernel
theorem dX4_init_25 : decode cX4_init 25 = .ok (.aload_n 0, 1) := by decide +kernel
theorem dX4_init_26 : decode cX4_init 26 = .ok (.iload_n 1, 1) := by decide +kernel
theorem dX4_init_27 : decode cX4_init 27 = .ok (.putfield 21, 3) := by decide +kernel
theorem dX4_init_30 : decode cX4_init 30 = .ok (.return_, 1) := by decide +kernel
theorem dX4_append_0 : decode cX4_append 0 = .ok (.aload_n 0, 1) := by decide +kernel
theorem dX4_append_1 : decode cX4_append 1 = .ok (.getfield 25, 3) := by decide +kernel
theorem dX4_append_4 : decode cX4_append 4 = .ok (.ifCond .lt 11, 3) := by decide +kernel
theorem dX4_append_7 : decode cX4_append 7 = .ok (.aload_n 0, 1) := by decide +kernel
theorem dX4_append_8 : decode cX4_append 8 = .ok (.getfield 25, 3) := by decide +kernel
theorem dX4_append_11 : decode cX4_append 11 = .ok (.iconst 5, 1) := by decide +kernel
theorem dX4_append_12 : decode cX4_append 12 = .ok (.if_icmp .lt 4, 3) := by decide +kernel
theorem dX4_append_15 : decode cX4_append 15 = .ok (.return_, 1) := by decide +kernel
theorem dX4_append_16 : decode cX4_append 16 = .ok (.aload_n 0, 1) := by decide +kernel
theorem dX4_append_17 : decode cX4_append 17 = .ok (.getfield 9, 3) := by decide +kernel
theorem dX4_append_20 : decode cX4_append 20 = .ok (.aload_n 0, 1) := by decide +kernel
theorem dX4_append_21 : decode cX4_append 21 = .ok (.getfield 25, 3) := by decide +kernel
theorem dX4_append_24 : decode cX4_append 24 = .ok (.iload_n 1, 1) := by decide +kernel
theorem dX4_append_25 : decode cX4_append 25 = .ok (.iastore, 1) := by decide +kernel
theorem dX4_append_26 : decode cX4_append 26 = .ok (.aload_n 0, 1) := by decide +kernel
theorem dX4_append_27 : decode cX4_append 27 = .ok (.getfield 15, 3) := by decide +kernel
theorem dX4_append_30 : decode cX4_append 30 = .ok (.aload_n 0, 1) := by decide +kernel
theorem dX4_append_31 : decode cX4_append 31 = .ok (.getfield 25, 3) := by decide +kernel
theorem dX4_append_34 : decode cX4_append 34 = .ok (.aload_n 0, 1) := by decide +kernel
theorem dX4_append_35 : decode cX4_append 35 = .ok (.getfield 28, 3) := by decide +kernel
theorem dX4_append_38 : decode cX4_append 38 = .ok (.iastore, 1) := by decide +kernel
theorem dX4_append_39 : decode cX4_append 39 = .ok (.aload_n 0, 1) := by decide +kernel
theorem dX4_append_40 : decode cX4_append 40 = .ok (.getfield 18, 3) := by decide +kernel
theorem dX4_append_43 : decode cX4_append 43 = .ok (.aload_n 0, 1) := by decide +kernel
theorem dX4_append_44 : decode cX4_append 44 = .ok (.getfield 25, 3) := by decide +kernel
theorem dX4_append_47 : decode cX4_append 47 = .ok (.aload_n 0, 1) := by decide +kernel
theorem dX4_append_48 : decode cX4_append 48 = .ok (.getfield 28, 3) := by decide +kernel
theorem dX4_append_51 : decode cX4_append 51 = .ok (.iload_n 2, 1) := by decide +kernel
theorem dX4_append_52 : decode cX4_append 52 = .ok (.iadd, 1) := by decide +kernel
theorem dX4_append_53 : decode cX4_append 53 = .ok (.iastore, 1) := by decide +kernel
theorem dX4_append_54 : decode cX4_append 54 = .ok (.aload_n 0, 1) := by decide +kernel
theorem dX4_append_55 : decode cX4_append 55 = .ok (.dup, 1) := by decide +kernel
theorem dX4_append_56 : decode cX4_append 56 = .ok (.getfield 25, 3) := by decide +kernel
theorem dX4_append_59 : decode cX4_append 59 = .ok (.iconst 1, 1) := by decide +kernel
theorem dX4_append_60 : decode cX4_append 60 = .ok (.iadd, 1) := by decide +kernel
theorem dX4_append_61 : decode cX4_append 61 = .ok (.putfield 25, 3) := by decide +kernel
theorem dX4_append_64 : decode cX4_append 64 = .ok (.aload_n 0, 1) := by decide +kernel
theorem dX4_append_65 : decode cX4_append 65 = .ok (.dup, 1) := by decide +kernel
theorem dX4_append_66 : decode cX4_append 66 = .ok (.getfield 28, 3) := by decide +kernel
theorem dX4_append_69 : decode cX4_append 69 = .ok (.iload_n 2, 1) := by decide +kernel
theorem dX4_append_70 : decode cX4_append 70 = .ok (.iadd, 1) := by decide +kernel
theorem dX4_append_71 : decode cX4_append 71 = .ok (.putfield 28, 3) := by decide +kernel
theorem dX4_append_74 : decode cX4_append 74 = .ok (.iload_n 1, 1) := by decide +kernel
theorem dX4_append_75 : decode cX4_append 75 = .ok (.iconst (-1), 1) := by decide +kernel
theorem dX4_append_76 : decode cX4_append 76 = .ok (.if_icmp .eq 25, 3) := by decide +kernel
theorem dX4_append_79 : decode cX4_append 79 = .ok (.aload_n 0, 1) := by decide +kernel
theorem dX4_append_80 : decode cX4_append 80 = .ok (.dup, 1) := by decide +kernel
theorem dX4_append_81 : decode cX4_append 81 = .ok (.getfield 31, 3) := by decide +kernel
theorem dX4_append_84 : decode cX4_append 84 = .ok (.iload_n 2, 1) := by decide +kernel
theorem dX4_append_85 : decode cX4_append 85 = .ok (.iadd, 1) := by decide +kernel
theorem dX4_append_86 : decode cX4_append 86 = .ok (.putfield 31, 3) := by decide +kernel
theorem dX4_append_89 : decode cX4_append 89 = .ok (.aload_n 0, 1) := by decide +kernel
theorem dX4_append_90 : decode cX4_append 90 = .ok (.dup, 1) := by decide +kernel
theorem dX4_append_91 : decode cX4_append 91 = .ok (.getfield 34, 3) := by decide +kernel
theorem dX4_append_94 : decode cX4_append 94 = .ok (.iconst 1, 1) := by decide +kernel
theorem dX4_append_95 : decode cX4_append 95 = .ok (.iload_n 1, 1) := by decide +kernel
theorem dX4_append_96 : decode cX4_append 96 = .ok (.ishl, 1) := by decide +kernel
theorem dX4_append_97 : decode cX4_append 97 = .ok (.ior, 1) := by decide +kernel
theorem dX4_append_98 : decode cX4_append 98 = .ok (.putfield 34, 3) := by decide +kernel
theorem dX4_append_101 : decode cX4_append 101 = .ok (.return_, 1) := by decide +kernel
theorem dX4_isRest_0 : decode cX4_isRest 0 = .ok (.iload_n 1, 1) := by decide +kernel
theorem dX4_isRest_1 : decode cX4_isRest 1 = .ok (.ifCond .lt 22, 3) := by decide +kernel
theorem dX4_isRest_4 : decode cX4_isRest 4 = .ok (.iload_n 1, 1) := by decide +kernel
theorem dX4_isRest_5 : decode cX4_isRest 5 = .ok (.iconst 5, 1) := by decide +kernel
theorem dX4_isRest_6 : decode cX4_isRest 6 = .ok (.if_icmp .ge 17, 3) := by decide +kernel
theorem dX4_isRest_9 : decode cX4_isRest 9 = .ok (.aload_n 0, 1) := by decide +kernel
theorem dX4_isRest_10 : decode cX4_isRest 10 = .ok (.getfield 9, 3) := by decide +kernel
theorem dX4_isRest_13 : decode cX4_isRest 13 = .ok (.iload_n 1, 1) := by decide +kernel
theorem dX4_isRest_14 : decode cX4_isRest 14 = .ok (.iaload, 1) := by decide +kernel
theorem dX4_isRest_15 : decode cX4_isRest 15 = .ok (.iconst (-1), 1) := by decide +kernel
theorem dX4_isRest_16 : decode cX4_isRest 16 = .ok (.if_icmp .ne 7, 3) := by decide +kernel
theorem dX4_isRest_19 : decode cX4_isRest 19 = .ok (.iconst 1, 1) := by decide +kernel
theorem dX4_isRest_20 : decode cX4_isRest 20 = .ok (.goto 4, 3) := by decide +kernel
theorem dX4_isRest_23 : decode cX4_isRest 23 = .ok (.iconst 0, 1) := by decide +kernel
theorem dX4_isRest_24 : decode cX4_isRest 24 = .ok (.ireturn, 1) := by decide +kernel
theorem dX4_stepFrom_0 : decode cX4_stepFrom 0 = .ok (.iload_n 1, 1) := by decide +kernel
theorem dX4_stepFrom_1 : decode cX4_stepFrom 1 = .ok (.ifCond .lt 17, 3) := by decide +kernel
theorem dX4_stepFrom_4 : decode cX4_stepFrom 4 = .ok (.iload_n 1, 1) := by decide +kernel
theorem dX4_stepFrom_5 : decode cX4_stepFrom 5 = .ok (.iconst 5, 1) := by decide +kernel
theorem dX4_stepFrom_6 : decode cX4_stepFrom 6 = .ok (.if_icmp .ge 12, 3) := by decide +kernel
theorem dX4_stepFrom_9 : decode cX4_stepFrom 9 = .ok (.aload_n 0, 1) := by decide +kernel
theorem dX4_stepFrom_10 : decode cX4_stepFrom 10 = .ok (.getfield 15, 3) := by decide +kernel
theorem dX4_stepFrom_13 : decode cX4_stepFrom 13 = .ok (.iload_n 1, 1) := by decide +kernel
theorem dX4_stepFrom_14 : decode cX4_stepFrom 14 = .ok (.iaload, 1) := by decide +kernel
theorem dX4_stepFrom_15 : decode cX4_stepFrom 15 = .ok (.goto 4, 3) := by decide +kernel
theorem dX4_stepFrom_18 : decode cX4_stepFrom 18 = .ok (.iconst 0, 1) := by decide +kernel
theorem dX4_stepFrom_19 : decode cX4_stepFrom 19 = .ok (.ireturn, 1) := by decide +kernel
theorem dX4_stepTo_0 : decode cX4_stepTo 0 = .ok (.iload_n 1, 1) := by decide +kernel
theorem dX4_stepTo_1 : decode cX4_stepTo 1 = .ok (.ifCond .lt 17, 3) := by decide +kernel
theorem dX4_stepTo_4 : decode cX4_stepTo 4 = .ok (.iload_n 1, 1) := by decide +kernel
theorem dX4_stepTo_5 : decode cX4_stepTo 5 = .ok (.iconst 5, 1) := by decide +kernel
theorem dX4_stepTo_6 : decode cX4_stepTo 6 = .ok (.if_icmp .ge 12, 3) := by decide +kernel
theorem dX4_stepTo_9 : decode cX4_stepTo 9 = .ok (.aload_n 0, 1) := by decide +kernel
theorem dX4_stepTo_10 : decode cX4_stepTo 10 = .ok (.getfield 18, 3) := by decide +kernel
theorem dX4_stepTo_13 : decode cX4_stepTo 13 = .ok (.iload_n 1, 1) := by decide +kernel
theorem dX4_stepTo_14 : decode cX4_stepTo 14 = .ok (.iaload, 1) := by decide +kernel
theorem dX4_stepTo_15 : decode cX4_stepTo 15 = .ok (.goto 4, 3) := by decide +kernel
theorem dX4_stepTo_18 : decode cX4_stepTo 18 = .ok (.iconst 0, 1) := by decide +kernel
theorem dX4_stepTo_19 : decode cX4_stepTo 19 = .ok (.ireturn, 1) := by decide +kernel
theorem dX5_init_0 : decode cX5_init 0 = .ok (.aload_n 0, 1) := by decide +kernel
theorem dX5_init_1 : decode cX5_init 1 = .ok (.invokespecial 3, 3) := by decide +kernel
theorem dX5_init_4 : decode cX5_init 4 = .ok (.aload_n 0, 1) := by decide +kernel
theorem dX5_init_5 : decode cX5_init 5 = .ok (.iconst (-1), 1) := by decide +kernel
theorem dX5_init_6 : decode cX5_init 6 = .ok (.putfield 9, 3) := by decide +kernel
theorem dX5_init_9 : decode cX5_init 9 = .ok (.aload_n 0, 1) := by decide +kernel
theorem dX5_init_10 : decode cX5_init 10 = .ok (.iconst (-1), 1) := by decide +kernel
theorem dX5_init_11 : decode cX5_init 11 = .ok (.putfield 15, 3) := by decide +kernel
theorem dX5_init_14 : decode cX5_init 14 = .ok (.aload_n 0, 1) := by decide +kernel
theorem dX5_init_15 : decode cX5_init 15 = .ok (.iconst (-1), 1) := by decide +kernel
theorem dX5_init_16 : decode cX5_init 16 = .ok (.putfield 18, 3) := by decide +kernel
theorem dX5_init_19 : decode cX5_init 19 = .ok (.aload_n 0, 1) := by decide +kernel
theorem dX5_init_20 : decode cX5_init 20 = .ok (.iload_n 1, 1) := by decide +kernel
theorem dX5_init_21 : decode cX5_init 21 = .ok (.putfield 21, 3) := by decide +kernel
theorem dX5_init_24 : decode cX5_init 24 = .ok (.aload_n 0, 1) := by decide +kernel
theorem dX5_init_25 : decode cX5_init 25 = .ok (.aload_n 2, 1) := by decide +kernel
theorem dX5_init_26 : decode cX5_init 26 = .ok (.putfield 24, 3) := by decide +kernel
theorem dX5_init_29 : decode cX5_init 29 = .ok (.return_, 1) := by decide +kernel
theorem dX5_isDropped_0 : decode cX5_isDropped 0 = .ok (.aload_n 0, 1) := by decide +kernel
theorem dX5_isDropped_1 : decode cX5_isDropped 1 = .ok (.getfield 18, 3) := by decide +kernel
theorem dX5_isDropped_4 : decode cX5_isDropped 4 = .ok (.iconst (-1), 1) := by decide +kernel
theorem dX5_isDropped_5 : decode cX5_isDropped 5 = .ok (.if_icmp .ne 7, 3) := by decide +kernel
theorem dX5_isDropped_8 : decode cX5_isDropped 8 = .ok (.iconst 1, 1) := by decide +kernel
theorem dX5_isDropped_9 : decode cX5_isDropped 9 = .ok (.goto 4, 3) := by decide +kernel
theorem dX5_isDropped_12 : decode cX5_isDropped 12 = .ok (.iconst 0, 1) := by decide +kernel
theorem dX5_isDropped_13 : decode cX5_isDropped 13 = .ok (.ireturn, 1) := by decide +kernel
theorem dX6_init_0 : decode cX6_init 0 = .ok (.aload_n 0, 1) := by decide +kernel
theorem dX6_init_1 : decode cX6_init 1 = .ok (.invokespecial 1, 3) := by decide +kernel
theorem dX6_init_4 : decode cX6_init 4 = .ok (.aload_n 0, 1) := by decide +kernel
theorem dX6_init_5 : decode cX6_init 5 = .ok (.new 7, 3) := by decide +kernel
theorem dX6_init_8 : decode cX6_init 8 = .ok (.dup, 1) := by decide +kernel
theorem dX6_init_9 : decode cX6_init 9 = .ok (.invokespecial 9, 3) := by decide +kernel
theorem dX6_init_12 : decode cX6_init 12 = .ok (.putfield 10, 3) := by decide +kernel
theorem dX6_init_15 : decode cX6_init 15 = .ok (.aload_n 0, 1) := by decide +kernel
theorem dX6_init_16 : decode cX6_init 16 = .ok (.new 7, 3) := by decide +kernel
theorem dX6_init_19 : decode cX6_init 19 = .ok (.dup, 1) := by decide +kernel
theorem dX6_init_20 : decode cX6_init 20 = .ok (.invokespecial 9, 3) := by decide +kernel
theorem dX6_init_23 : decode cX6_init 23 = .ok (.putfield 16, 3) := by decide +kernel
theorem dX6_init_26 : decode cX6_init 26 = .ok (.aload_n 0, 1) := by decide +kernel
theorem dX6_init_27 : decode cX6_init 27 = .ok (.new 7, 3) := by decide +kernel
theorem dX6_init_30 : decode cX6_init 30 = .ok (.dup, 1) := by decide +kernel
theorem dX6_init_31 : decode cX6_init 31 = .ok (.invokespecial 9, 3) := by decide +kernel
theorem dX6_init_34 : decode cX6_init 34 = .ok (.putfield 19, 3) := by decide +kernel
theorem dX6_init_37 : decode cX6_init 37 = .ok (.aload_n 0, 1) := by decide +kernel
theorem dX6_init_38 : decode cX6_init 38 = .ok (.new 7, 3) := by decide +kernel
theorem dX6_init_41 : decode cX6_init 41 = .ok (.dup, 1) := by decide +kernel
theorem dX6_init_42 : decode cX6_init 42 = .ok (.invokespecial 9, 3) := by decide +kernel
theorem dX6_init_45 : decode cX6_init 45 = .ok (.putfield 22, 3) := by decide +kernel
theorem dX6_init_48 : decode cX6_init 48 = .ok (.aload_n 0, 1) := by decide +kernel
theorem dX6_init_49 : decode cX6_init 49 = .ok (.iconst 4, 1) := by decide +kernel
theorem dX6_init_50 : decode cX6_init 50 = .ok (.anewarray 25, 3) := by decide +kernel
theorem dX6_init_53 : decode cX6_init 53 = .ok (.putfield 27, 3) := by decide +kernel
theorem dX6_init_56 : decode cX6_init 56 = .ok (.iconst 0, 1) := by decide +kernel
theorem dX6_init_57 : decode cX6_init 57 = .ok (.istore_n 1, 1) := by decide +kernel
theorem dX6_init_58 : decode cX6_init 58 = .ok (.iload_n 1, 1) := by decide +kernel
theorem dX6_init_59 : decode cX6_init 59 = .ok (.iconst 4, 1) := by decide +kernel
theorem dX6_init_60 : decode cX6_init 60 = .ok (.if_icmp .ge 22, 3) := by decide +kernel
theorem dX6_init_63 : decode cX6_init 63 = .ok (.aload_n 0, 1) := by decide +kernel
theorem dX6_init_64 : decode cX6_init 64 = .ok (.getfield 27, 3) := by decide +kernel
theorem dX6_init_67 : decode cX6_init 67 = .ok (.iload_n 1, 1) := by decide +kernel
theorem dX6_init_68 : decode cX6_init 68 = .ok (.new 25, 3) := by decide +kernel
theorem dX6_init_71 : decode cX6_init 71 = .ok (.dup, 1) := by decide +kernel
theorem dX6_init_72 : decode cX6_init 72 = .ok (.invokespecial 31, 3) := by decide +kernel
theorem dX6_init_75 : decode cX6_init 75 = .ok (.aastore, 1) := by decide +kernel
theorem dX6_init_76 : decode cX6_init 76 = .ok (.iinc 1 1, 3) := by decide +kernel
theorem dX6_init_79 : decode cX6_init 79 = .ok (.goto (-21), 3) := by decide +kernel
theorem dX6_init_82 : decode cX6_init 82 = .ok (.aload_n 0, 1) := by decide +kernel
theorem dX6_init_83 : decode cX6_init 83 = .ok (.new 32, 3) := by decide +kernel
theorem dX6_init_86 : decode cX6_init 86 = .ok (.dup, 1) := by decide +kernel
theorem dX6_init_87 : decode cX6_init 87 = .ok (.invokespecial 34, 3) := by decide +kernel
theorem dX6_init_90 : decode cX6_init 90 = .ok (.putfield 35, 3) := by decide +kernel
theorem dX6_init_93 : decode cX6_init 93 = .ok (.return_, 1) := by decide +kernel
theorem dX6_hire_0 : decode cX6_hire 0 = .ok (.iload_n 1, 1) := by decide +kernel
theorem dX6_hire_1 : decode cX6_hire 1 = .ok (.iconst 1, 1) := by decide +kernel
theorem dX6_hire_2 : decode cX6_hire 2 = .ok (.if_icmp .lt 9, 3) := by decide +kernel
theorem dX6_hire_5 : decode cX6_hire 5 = .ok (.iload_n 1, 1) := by decide +kernel
theorem dX6_hire_6 : decode cX6_hire 6 = .ok (.bipush 15, 2) := by decide +kernel
theorem dX6_hire_8 : decode cX6_hire 8 = .ok (.if_icmp .le 13, 3) := by decide +kernel
theorem dX6_hire_11 : decode cX6_hire 11 = .ok (.new 39, 3) := by decide +kernel
theorem dX6_hire_14 : decode cX6_hire 14 = .ok (.dup, 1) := by decide +kernel
theorem dX6_hire_15 : decode cX6_hire 15 = .ok (.ldc 41, 2) := by decide +kernel
theorem dX6_hire_17 : decode cX6_hire 17 = .ok (.invokespecial 43, 3) := by decide +kernel
theorem dX6_hire_20 : decode cX6_hire 20 = .ok (.athrow, 1) := by decide +kernel
theorem dX6_hire_21 : decode cX6_hire 21 = .ok (.iload_n 2, 1) := by decide +kernel
theorem dX6_hire_22 : decode cX6_hire 22 = .ok (.invokestatic 46, 3) := by decide +kernel
theorem dX6_hire_25 : decode cX6_hire 25 = .ok (.ifCond .eq 15, 3) := by decide +kernel
theorem dX6_hire_28 : decode cX6_hire 28 = .ok (.iload_n 3, 1) := by decide +kernel
theorem dX6_hire_29 : decode cX6_hire 29 = .ok (.iload_n 2, 1) := by decide +kernel
theorem dX6_hire_30 : decode cX6_hire 30 = .ok (.if_icmp .le 10, 3) := by decide +kernel
theorem dX6_hire_33 : decode cX6_hire 33 = .ok (.iload_n 3, 1) := by decide +kernel
theorem dX6_hire_34 : decode cX6_hire 34 = .ok (.sipush 600, 3) := by decide +kernel
theorem dX6_hire_37 : decode cX6_hire 37 = .ok (.if_icmp .le 13, 3) := by decide +kernel
theorem dX6_hire_40 : decode cX6_hire 40 = .ok (.new 39, 3) := by decide +kernel
theorem dX6_hire_43 : decode cX6_hire 43 = .ok (.dup, 1) := by decide +kernel
theorem dX6_hire_44 : decode cX6_hire 44 = .ok (.ldc 50, 2) := by decide +kernel
theorem dX6_hire_46 : decode cX6_hire 46 = .ok (.invokespecial 43, 3) := by decide +kernel
theorem dX6_hire_49 : decode cX6_hire 49 = .ok (.athrow, 1) := by decide +kernel
theorem dX6_hire_50 : decode cX6_hire 50 = .ok (.aload_n 0, 1) := by decide +kernel
theorem dX6_hire_51 : decode cX6_hire 51 = .ok (.getfield 10, 3) := by decide +kernel
theorem dX6_hire_54 : decode cX6_hire 54 = .ok (.invokevirtual 52, 3) := by decide +kernel
theorem dX6_hire_57 : decode cX6_hire 57 = .ok (.iconst 5, 1) := by decide +kernel
theorem dX6_hire_58 : decode cX6_hire 58 = .ok (.if_icmp .lt 13, 3) := by decide +kernel
theorem dX6_hire_61 : decode cX6_hire 61 = .ok (.new 56, 3) := by decide +kernel
theorem dX6_hire_64 : decode cX6_hire 64 = .ok (.dup, 1) := by decide +kernel
theorem dX6_hire_65 : decode cX6_hire 65 = .ok (.ldc 58, 2) := by decide +kernel
theorem dX6_hire_67 : decode cX6_hire 67 = .ok (.invokespecial 60, 3) := by decide +kernel
theorem dX6_hire_70 : decode cX6_hire 70 = .ok (.athrow, 1) := by decide +kernel
theorem dX6_hire_71 : decode cX6_hire 71 = .ok (.aload_n 0, 1) := by decide +kernel
theorem dX6_hire_72 : decode cX6_hire 72 = .ok (.getfield 10, 3) := by decide +kernel
theorem dX6_hire_75 : decode cX6_hire 75 = .ok (.new 61, 3) := by decide +kernel
theorem dX6_hire_78 : decode cX6_hire 78 = .ok (.dup, 1) := by decide +kernel
theorem dX6_hire_79 : decode cX6_hire 79 = .ok (.iload_n 1, 1) := by decide +kernel
theorem dX6_hire_80 : decode cX6_hire 80 = .ok (.iload_n 2, 1) := by decide +kernel
theorem dX6_hire_81 : decode cX6_hire 81 = .ok (.iload_n 3, 1) := by decide +kernel
theorem dX6_hire_82 : decode cX6_hire 82 = .ok (.invokespecial 63, 3) := by decide +kernel
theorem dX6_hire_85 : decode cX6_hire 85 = .ok (.invokevirtual 66, 3) := by decide +kernel
theorem dX6_hire_88 : decode cX6_hire 88 = .ok (.pop, 1) := by decide +kernel
theorem dX6_hire_89 : decode cX6_hire 89 = .ok (.aload_n 0, 1) := by decide +kernel
theorem dX6_hire_90 : decode cX6_hire 90 = .ok (.getfield 10, 3) := by decide +kernel
theorem dX6_hire_93 : decode cX6_hire 93 = .ok (.invokevirtual 52, 3) := by decide +kernel
theorem dX6_hire_96 : decode cX6_hire 96 = .ok (.iconst 1, 1) := by decide +kernel
theorem dX6_hire_97 : decode cX6_hire 97 = .ok (.isub, 1) := by decide +kernel
theorem dX6_hire_98 : decode cX6_hire 98 = .ok (.ireturn, 1) := by decide +kernel
theorem dX6_addService_0 : decode cX6_addService 0 = .ok (.iload_n 1, 1) := by decide +kernel
theorem dX6_addService_1 : decode cX6_addService 1 = .ok (.invokestatic 70, 3) := by decide +kernel
theorem dX6_addService_4 : decode cX6_addService 4 = .ok (.ifCond .ne 13, 3) := by decide +kernel
theorem dX6_addService_7 : decode cX6_addService 7 = .ok (.new 39, 3) := by decide +kernel
theorem dX6_addService_10 : decode cX6_addService 10 = .ok (.dup, 1) := by decide +kernel
theorem dX6_addService_11 : decode cX6_addService 11 = .ok (.ldc 73, 2) := by decide +kernel
theorem dX6_addService_13 : decode cX6_addService 13 = .ok (.invokespecial 43, 3) := by decide +kernel
theorem dX6_addService_16 : decode cX6_addService 16 = .ok (.athrow, 1) := by decide +kernel
theorem dX6_addService_17 : decode cX6_addService 17 = .ok (.iload_n 2, 1) := by decide +kernel
theorem dX6_addService_18 : decode cX6_addService 18 = .ok (.invokestatic 75, 3) := by decide +kernel
theorem dX6_addService_21 : decode cX6_addService 21 = .ok (.aload_n 0, 1) := by decide +kernel
theorem dX6_addService_22 : decode cX6_addService 22 = .ok (.invokevirtual 79, 3) := by decide +kernel
theorem dX6_addService_25 : decode cX6_addService 25 = .ok (.aload_n 0, 1) := by decide +kernel
theorem dX6_addService_26 : decode cX6_addService 26 = .ok (.invokevirtual 82, 3) := by decide +kernel
theorem dX6_addService_29 : decode cX6_addService 29 = .ok (.astore_n 3, 1) := by decide +kernel
theorem dX6_addService_30 : decode cX6_addService 30 = .ok (.aload_n 3, 1) := by decide +kernel
theorem dX6_addService_31 : decode cX6_addService 31 = .ok (.iload_n 1, 1) := by decide +kernel
theorem dX6_addService_32 : decode cX6_addService 32 = .ok (.iload_n 2, 1) := by decide +kernel
theorem dX6_addService_33 : decode cX6_addService 33 = .ok (.invokevirtual 86, 3) := by decide +kernel
theorem dX6_addService_36 : decode cX6_addService 36 = .ok (.aload_n 3, 1) := by decide +kernel
theorem dX6_addService_37 : decode cX6_addService 37 = .ok (.getfield 92, 3) := by decide +kernel
theorem dX6_addService_40 : decode cX6_addService 40 = .ok (.ireturn, 1) := by decide +kernel
theorem dX6_addStep_0 : decode cX6_addStep 0 = .ok (.aload_n 0, 1) := by decide +kernel
theorem dX6_addStep_1 : decode cX6_addStep 1 = .ok (.iload_n 1, 1) := by decide +kernel
theorem dX6_addStep_2 : decode cX6_addStep 2 = .ok (.invokevirtual 96, 3) := by decide +kernel
theorem dX6_addStep_5 : decode cX6_addStep 5 = .ok (.iload_n 2, 1) := by decide +kernel
theorem dX6_addStep_6 : decode cX6_addStep 6 = .ok (.iconst (-1), 1) := by decide +kernel
theorem dX6_addStep_7 : decode cX6_addStep 7 = .ok (.if_icmp .eq 20, 3) := by decide +kernel
theorem dX6_addStep_10 : decode cX6_addStep 10 = .ok (.iload_n 2, 1) := by decide +kernel
theorem dX6_addStep_11 : decode cX6_addStep 11 = .ok (.invokestatic 70, 3) := by decide +kernel
theorem dX6_addStep_14 : decode cX6_addStep 14 = .ok (.ifCond .ne 13, 3) := by decide +kernel
theorem dX6_addStep_17 : decode cX6_addStep 17 = .ok (.new 39, 3) := by decide +kernel
theorem dX6_addStep_20 : decode cX6_addStep 20 = .ok (.dup, 1) := by decide +kernel
theorem dX6_addStep_21 : decode cX6_addStep 21 = .ok (.ldc 73, 2) := by decide +kernel
theorem dX6_addStep_23 : decode cX6_addStep 23 = .ok (.invokespecial 43, 3) := by decide +kernel
theorem dX6_addStep_26 : decode cX6_addStep 26 = .ok (.athrow, 1) := by decide +kernel
theorem dX6_addStep_27 : decode cX6_addStep 27 = .ok (.iload_n 3, 1) := by decide +kernel
theorem dX6_addStep_28 : decode cX6_addStep 28 = .ok (.invokestatic 75, 3) := by decide +kernel
theorem dX6_addStep_31 : decode cX6_addStep 31 = .ok (.aload_n 0, 1) := by decide +kernel
theorem dX6_addStep_32 : decode cX6_addStep 32 = .ok (.getfield 16, 3) := by decide +kernel
theorem dX6_addStep_35 : decode cX6_addStep 35 = .ok (.iload_n 1, 1) := by decide +kernel
theorem dX6_addStep_36 : decode cX6_addStep 36 = .ok (.invokevirtual 99, 3) := by decide +kernel
theorem dX6_addStep_39 : decode cX6_addStep 39 = .ok (.checkcast 87, 3) := by decide +kernel
theorem dX6_addStep_42 : decode cX6_addStep 42 = .ok (.astore 4, 2) := by decide +kernel
theorem dX6_addStep_44 : decode cX6_addStep 44 = .ok (.aload 4, 2) := by decide +kernel
theorem dX6_addStep_46 : decode cX6_addStep 46 = .ok (.getfield 103, 3) := by decide +kernel
theorem dX6_addStep_49 : decode cX6_addStep 49 = .ok (.iconst 5, 1) := by decide +kernel
theorem dX6_addStep_50 : decode cX6_addStep 50 = .ok (.if_icmp .lt 13, 3) := by decide +kernel
theorem dX6_addStep_53 : decode cX6_addStep 53 = .ok (.new 56, 3) := by decide +kernel
theorem dX6_addStep_56 : decode cX6_addStep 56 = .ok (.dup, 1) := by decide +kernel
theorem dX6_addStep_57 : decode cX6_addStep 57 = .ok (.ldc 106, 2) := by decide +kernel
theorem dX6_addStep_59 : decode cX6_addStep 59 = .ok (.invokespecial 60, 3) := by decide +kernel
theorem dX6_addStep_62 : decode cX6_addStep 62 = .ok (.athrow, 1) := by decide +kernel
theorem dX6_addStep_63 : decode cX6_addStep 63 = .ok (.aload 4, 2) := by decide +kernel
theorem dX6_addStep_65 : decode cX6_addStep 65 = .ok (.getfield 108, 3) := by decide +kernel
theorem dX6_addStep_68 : decode cX6_addStep 68 = .ok (.ifCond .eq 13, 3) := by decide +kernel
theorem dX6_addStep_71 : decode cX6_addStep 71 = .ok (.new 56, 3) := by decide +kernel
theorem dX6_addStep_74 : decode cX6_addStep 74 = .ok (.dup, 1) := by decide +kernel
theorem dX6_addStep_75 : decode cX6_addStep 75 = .ok (.ldc 112, 2) := by decide +kernel
theorem dX6_addStep_77 : decode cX6_addStep 77 = .ok (.invokespecial 60, 3) := by decide +kernel
theorem dX6_addStep_80 : decode cX6_addStep 80 = .ok (.athrow, 1) := by decide +kernel
theorem dX6_addStep_81 : decode cX6_addStep 81 = .ok (.aload 4, 2) := by decide +kernel
theorem dX6_addStep_83 : decode cX6_addStep 83 = .ok (.iload_n 2, 1) := by decide +kernel
theorem dX6_addStep_84 : decode cX6_addStep 84 = .ok (.iload_n 3, 1) := by decide +kernel
theorem dX6_addStep_85 : decode cX6_addStep 85 = .ok (.invokevirtual 86, 3) := by decide +kernel
theorem dX6_addStep_88 : decode cX6_addStep 88 = .ok (.aload 4, 2) := by decide +kernel
theorem dX6_addStep_90 : decode cX6_addStep 90 = .ok (.getfield 103, 3) := by decide +kernel
theorem dX6_addStep_93 : decode cX6_addStep 93 = .ok (.ireturn, 1) := by decide +kernel
theorem dX6_addUsual_0 : decode cX6_addUsual 0 = .ok (.iload_n 1, 1) := by decide +kernel
theorem dX6_addUsual_1 : decode cX6_addUsual 1 = .ok (.ifCond .lt 8, 3) := by decide +kernel
theorem dX6_addUsual_4 : decode cX6_addUsual 4 = .ok (.iload_n 1, 1) := by decide +kernel
theorem dX6_addUsual_5 : decode cX6_addUsual 5 = .ok (.iconst 4, 1) := by decide +kernel
theorem dX6_addUsual_6 : decode cX6_addUsual 6 = .ok (.if_icmp .lt 13, 3) := by decide +kernel
theorem dX6_addUsual_9 : decode cX6_addUsual 9 = .ok (.new 39, 3) := by decide +kernel
theorem dX6_addUsual_12 : decode cX6_addUsual 12 = .ok (.dup, 1) := by decide +kernel
theorem dX6_addUsual_13 : decode cX6_addUsual 13 = .ok (.ldc 114, 2) := by decide +kernel
theorem dX6_addUsual_15 : decode cX6_addUsual 15 = .ok (.invokespecial 43, 3) := by decide +kernel
theorem dX6_addUsual_18 : decode cX6_addUsual 18 = .ok (.athrow, 1) := by decide +kernel
theorem dX6_addUsual_19 : decode cX6_addUsual 19 = .ok (.aload_n 0, 1) := by decide +kernel
theorem dX6_addUsual_20 : decode cX6_addUsual 20 = .ok (.invokevirtual 79, 3) := by decide +kernel
theorem dX6_addUsual_23 : decode cX6_addUsual 23 = .ok (.aload_n 0, 1) := by decide +kernel
theorem dX6_addUsual_24 : decode cX6_addUsual 24 = .ok (.invokevirtual 82, 3) := by decide +kernel
theorem dX6_addUsual_27 : decode cX6_addUsual 27 = .ok (.astore_n 2, 1) := by decide +kernel
theorem dX6_addUsual_28 : decode cX6_addUsual 28 = .ok (.aload_n 2, 1) := by decide +kernel
theorem dX6_addUsual_29 : decode cX6_addUsual 29 = .ok (.iload_n 1, 1) := by decide +kernel
theorem dX6_addUsual_30 : decode cX6_addUsual 30 = .ok (.invokestatic 116, 3) := by decide +kernel
theorem dX6_addUsual_33 : decode cX6_addUsual 33 = .ok (.aload_n 2, 1) := by decide +kernel
theorem dX6_addUsual_34 : decode cX6_addUsual 34 = .ok (.getfield 92, 3) := by decide +kernel
theorem dX6_addUsual_37 : decode cX6_addUsual 37 = .ok (.ireturn, 1) := by decide +kernel
theorem dX6_book_0 : decode cX6_book 0 = .ok (.aload_n 0, 1) := by decide +kernel
theorem dX6_book_1 : decode cX6_book 1 = .ok (.iload_n 1, 1) := by decide +kernel
theorem dX6_book_2 : decode cX6_book 2 = .ok (.invokevirtual 96, 3) := by decide +kernel
theorem dX6_book_5 : decode cX6_book 5 = .ok (.iload_n 2, 1) := by decide +kernel
theorem dX6_book_6 : decode cX6_book 6 = .ok (.invokestatic 120, 3) := by decide +kernel
theorem dX6_book_9 : decode cX6_book 9 = .ok (.aload_n 0, 1) := by decide +kernel
theorem dX6_book_10 : decode cX6_book 10 = .ok (.invokevirtual 123, 3) := by decide +kernel
theorem dX6_book_13 : decode cX6_book 13 = .ok (.aload_n 0, 1) := by decide +kernel
theorem dX6_book_14 : decode cX6_book 14 = .ok (.aload_n 0, 1) := by decide +kernel
theorem dX6_book_15 : decode cX6_book 15 = .ok (.getfield 16, 3) := by decide +kernel
theorem dX6_book_18 : decode cX6_book 18 = .ok (.iload_n 1, 1) := by decide +kernel
theorem dX6_book_19 : decode cX6_book 19 = .ok (.invokevirtual 99, 3) := by decide +kernel
theorem dX6_book_22 : decode cX6_book 22 = .ok (.checkcast 87, 3) := by decide +kernel
theorem dX6_book_25 : decode cX6_book 25 = .ok (.bipush 31, 2) := by decide +kernel
theorem dX6_book_27 : decode cX6_book 27 = .ok (.iload_n 2, 1) := by decide +kernel
theorem dX6_book_28 : decode cX6_book 28 = .ok (.invokevirtual 126, 3) := by decide +kernel
theorem dX6_book_31 : decode cX6_book 31 = .ok (.ireturn, 1) := by decide +kernel
theorem dX6_bookWith_0 : decode cX6_bookWith 0 = .ok (.aload_n 0, 1) := by decide +kernel
theorem dX6_bookWith_1 : decode cX6_bookWith 1 = .ok (.iload_n 1, 1) := by decide +kernel
theorem dX6_bookWith_2 : decode cX6_bookWith 2 = .ok (.invokevirtual 96, 3) := by decide +kernel
theorem dX6_bookWith_5 : decode cX6_bookWith 5 = .ok (.aload_n 0, 1) := by decide +kernel
theorem dX6_bookWith_6 : decode cX6_bookWith 6 = .ok (.iload_n 2, 1) := by decide +kernel
theorem dX6_bookWith_7 : decode cX6_bookWith 7 = .ok (.invokevirtual 130, 3) := by decide +kernel
theorem dX6_bookWith_10 : decode cX6_bookWith 10 = .ok (.iload_n 3, 1) := by decide +kernel
theorem dX6_bookWith_11 : decode cX6_bookWith 11 = .ok (.invokestatic 120, 3) := by decide +kernel
theorem dX6_bookWith_14 : decode cX6_bookWith 14 = .ok (.aload_n 0, 1) := by decide +kernel
theorem dX6_bookWith_15 : decode cX6_bookWith 15 = .ok (.invokevirtual 123, 3) := by decide +kernel
theorem dX6_bookWith_18 : decode cX6_bookWith 18 = .ok (.aload_n 0, 1) := by decide +kernel
theorem dX6_bookWith_19 : decode cX6_bookWith 19 = .ok (.aload_n 0, 1) := by decide +kernel
theorem dX6_bookWith_20 : decode cX6_bookWith 20 = .ok (.getfield 16, 3) := by decide +kernel
theorem dX6_bookWith_23 : decode cX6_bookWith 23 = .ok (.iload_n 1, 1) := by decide +kernel
theorem dX6_bookWith_24 : decode cX6_bookWith 24 = .ok (.invokevirtual 99, 3) := by decide +kernel
theorem dX6_bookWith_27 : decode cX6_bookWith 27 = .ok (.checkcast 87, 3) := by decide +kernel
theorem dX6_bookWith_30 : decode cX6_bookWith 30 = .ok (.iconst 1, 1) := by decide +kernel
theorem dX6_bookWith_31 : decode cX6_bookWith 31 = .ok (.iload_n 2, 1) := by decide +kernel
theorem dX6_bookWith_32 : decode cX6_bookWith 32 = .ok (.ishl, 1) := by decide +kernel
theorem dX6_bookWith_33 : decode cX6_bookWith 33 = .ok (.iload_n 3, 1) := by decide +kernel
theorem dX6_bookWith_34 : decode cX6_bookWith 34 = .ok (.invokevirtual 126, 3) := by decide +kernel
theorem dX6_bookWith_37 : decode cX6_bookWith 37 = .ok (.ireturn, 1) := by decide +kernel
theorem dX6_move_0 : decode cX6_move 0 = .ok (.aload_n 0, 1) := by decide +kernel
theorem dX6_move_1 : decode cX6_move 1 = .ok (.iload_n 1, 1) := by decide +kernel
theorem dX6_move_2 : decode cX6_move 2 = .ok (.invokevirtual 133, 3) := by decide +kernel
theorem dX6_move_5 : decode cX6_move 5 = .ok (.iload_n 2, 1) := by decide +kernel
theorem dX6_move_6 : decode cX6_move 6 = .ok (.invokestatic 120, 3) := by decide +kernel
theorem dX6_move_9 : decode cX6_move 9 = .ok (.aload_n 0, 1) := by decide +kernel
theorem dX6_move_10 : decode cX6_move 10 = .ok (.getfield 19, 3) := by decide +kernel
theorem dX6_move_13 : decode cX6_move 13 = .ok (.iload_n 1, 1) := by decide +kernel
theorem dX6_move_14 : decode cX6_move 14 = .ok (.invokevirtual 99, 3) := by decide +kernel
theorem dX6_move_17 : decode cX6_move 17 = .ok (.checkcast 136, 3) := by decide +kernel
theorem dX6_move_20 : decode cX6_move 20 = .ok (.astore_n 3, 1) := by decide +kernel
theorem dX6_move_21 : decode cX6_move 21 = .ok (.aload_n 3, 1) := by decide +kernel
theorem dX6_move_22 : decode cX6_move 22 = .ok (.getfield 138, 3) := by decide +kernel
theorem dX6_move_25 : decode cX6_move 25 = .ok (.istore 4, 2) := by decide +kernel
theorem dX6_move_27 : decode cX6_move 27 = .ok (.aload_n 3, 1) := by decide +kernel
theorem dX6_move_28 : decode cX6_move 28 = .ok (.getfield 141, 3) := by decide +kernel
theorem dX6_move_31 : decode cX6_move 31 = .ok (.istore 5, 2) := by decide +kernel
theorem dX6_move_33 : decode cX6_move 33 = .ok (.aload_n 3, 1) := by decide +kernel
theorem dX6_move_34 : decode cX6_move 34 = .ok (.getfield 144, 3) := by decide +kernel
theorem dX6_move_37 : decode cX6_move 37 = .ok (.istore 6, 2) := by decide +kernel
theorem dX6_move_39 : decode cX6_move 39 = .ok (.aload_n 0, 1) := by decide +kernel
theorem dX6_move_40 : decode cX6_move 40 = .ok (.aload_n 3, 1) := by decide +kernel
theorem dX6_move_41 : decode cX6_move 41 = .ok (.invokevirtual 147, 3) := by decide +kernel
theorem dX6_move_44 : decode cX6_move 44 = .ok (.aload_n 0, 1) := by decide +kernel
theorem dX6_move_45 : decode cX6_move 45 = .ok (.aload_n 3, 1) := by decide +kernel
theorem dX6_move_46 : decode cX6_move 46 = .ok (.getfield 151, 3) := by decide +kernel
theorem dX6_move_49 : decode cX6_move 49 = .ok (.bipush 31, 2) := by decide +kernel
theorem dX6_move_51 : decode cX6_move 51 = .ok (.iload_n 2, 1) := by decide +kernel
theorem dX6_move_52 : decode cX6_move 52 = .ok (.invokevirtual 155, 3) := by decide +kernel
theorem dX6_move_55 : decode cX6_move 55 = .ok (.istore 7, 2) := by decide +kernel
theorem dX6_move_57 : decode cX6_move 57 = .ok (.iload 7, 2) := by decide +kernel
theorem dX6_move_59 : decode cX6_move 59 = .ok (.iconst (-1), 1) := by decide +kernel
theorem dX6_move_60 : decode cX6_move 60 = .ok (.if_icmp .ne 24, 3) := by decide +kernel
theorem dX6_move_63 : decode cX6_move 63 = .ok (.aload_n 0, 1) := by decide +kernel
theorem dX6_move_64 : decode cX6_move 64 = .ok (.aload_n 3, 1) := by decide +kernel
theorem dX6_move_65 : decode cX6_move 65 = .ok (.iload 4, 2) := by decide +kernel
theorem dX6_move_67 : decode cX6_move 67 = .ok (.iload 5, 2) := by decide +kernel
theorem dX6_move_69 : decode cX6_move 69 = .ok (.iload 6, 2) := by decide +kernel
theorem dX6_move_71 : decode cX6_move 71 = .ok (.invokevirtual 158, 3) := by decide +kernel
theorem dX6_move_74 : decode cX6_move 74 = .ok (.new 162, 3) := by decide +kernel
theorem dX6_move_77 : decode cX6_move 77 = .ok (.dup, 1) := by decide +kernel
theorem dX6_move_78 : decode cX6_move 78 = .ok (.ldc 164, 2) := by decide +kernel
theorem dX6_move_80 : decode cX6_move 80 = .ok (.invokespecial 166, 3) := by decide +kernel
theorem dX6_move_83 : decode cX6_move 83 = .ok (.athrow, 1) := by decide +kernel
theorem dX6_move_84 : decode cX6_move 84 = .ok (.aload_n 0, 1) := by decide +kernel
theorem dX6_move_85 : decode cX6_move 85 = .ok (.aload_n 3, 1) := by decide +kernel
theorem dX6_move_86 : decode cX6_move 86 = .ok (.bipush 31, 2) := by decide +kernel
theorem dX6_move_88 : decode cX6_move 88 = .ok (.iload 7, 2) := by decide +kernel
theorem dX6_move_90 : decode cX6_move 90 = .ok (.invokevirtual 167, 3) := by decide +kernel
theorem dX6_move_93 : decode cX6_move 93 = .ok (.aload_n 0, 1) := by decide +kernel
theorem dX6_move_94 : decode cX6_move 94 = .ok (.invokevirtual 171, 3) := by decide +kernel
theorem dX6_move_97 : decode cX6_move 97 = .ok (.pop, 1) := by decide +kernel
theorem dX6_move_98 : decode cX6_move 98 = .ok (.iload 7, 2) := by decide +kernel
theorem dX6_move_100 : decode cX6_move 100 = .ok (.ireturn, 1) := by decide +kernel
theorem dX6_drop_0 : decode cX6_drop 0 = .ok (.aload_n 0, 1) := by decide +kernel
theorem dX6_drop_1 : decode cX6_drop 1 = .ok (.iload_n 1, 1) := by decide +kernel
theorem dX6_drop_2 : decode cX6_drop 2 = .ok (.invokevirtual 133, 3) := by decide +kernel
theorem dX6_drop_5 : decode cX6_drop 5 = .ok (.aload_n 0, 1) := by decide +kernel
theorem dX6_drop_6 : decode cX6_drop 6 = .ok (.aload_n 0, 1) := by decide +kernel
theorem dX6_drop_7 : decode cX6_drop 7 = .ok (.getfield 19, 3) := by decide +kernel
theorem dX6_drop_10 : decode cX6_drop 10 = .ok (.iload_n 1, 1) := by decide +kernel
theorem dX6_drop_11 : decode cX6_drop 11 = .ok (.invokevirtual 99, 3) := by decide +kernel
theorem dX6_drop_14 : decode cX6_drop 14 = .ok (.checkcast 136, 3) := by decide +kernel
theorem dX6_drop_17 : decode cX6_drop 17 = .ok (.invokevirtual 147, 3) := by decide +kernel
theorem dX6_drop_20 : decode cX6_drop 20 = .ok (.aload_n 0, 1) := by decide +kernel
theorem dX6_drop_21 : decode cX6_drop 21 = .ok (.invokevirtual 171, 3) := by decide +kernel
theorem dX6_drop_24 : decode cX6_drop 24 = .ok (.ireturn, 1) := by decide +kernel
theorem dX6_request_0 : decode cX6_request 0 = .ok (.aload_n 0, 1) := by decide +kernel
theorem dX6_request_1 : decode cX6_request 1 = .ok (.iload_n 1, 1) := by decide +kernel
theorem dX6_request_2 : decode cX6_request 2 = .ok (.invokevirtual 96, 3) := by decide +kernel
theorem dX6_request_5 : decode cX6_request 5 = .ok (.iload_n 2, 1) := by decide +kernel
theorem dX6_request_6 : decode cX6_request 6 = .ok (.invokestatic 120, 3) := by decide +kernel
theorem dX6_request_9 : decode cX6_request 9 = .ok (.aload_n 0, 1) := by decide +kernel
theorem dX6_request_10 : decode cX6_request 10 = .ok (.getfield 22, 3) := by decide +kernel
theorem dX6_request_13 : decode cX6_request 13 = .ok (.invokevirtual 52, 3) := by decide +kernel
theorem dX6_request_16 : decode cX6_request 16 = .ok (.bipush 6, 2) := by decide +kernel
theorem dX6_request_18 : decode cX6_request 18 = .ok (.if_icmp .lt 13, 3) := by decide +kernel
theorem dX6_request_21 : decode cX6_request 21 = .ok (.new 56, 3) := by decide +kernel
theorem dX6_request_24 : decode cX6_request 24 = .ok (.dup, 1) := by decide +kernel
theorem dX6_request_25 : decode cX6_request 25 = .ok (.ldc 174, 2) := by decide +kernel
theorem dX6_request_27 : decode cX6_request 27 = .ok (.invokespecial 60, 3) := by decide +kernel
theorem dX6_request_30 : decode cX6_request 30 = .ok (.athrow, 1) := by decide +kernel
theorem dX6_request_31 : decode cX6_request 31 = .ok (.aload_n 0, 1) := by decide +kernel
theorem dX6_request_32 : decode cX6_request 32 = .ok (.getfield 16, 3) := by decide +kernel
theorem dX6_request_35 : decode cX6_request 35 = .ok (.iload_n 1, 1) := by decide +kernel
theorem dX6_request_36 : decode cX6_request 36 = .ok (.invokevirtual 99, 3) := by decide +kernel
theorem dX6_request_39 : decode cX6_request 39 = .ok (.checkcast 87, 3) := by decide +kernel
theorem dX6_request_42 : decode cX6_request 42 = .ok (.astore_n 3, 1) := by decide +kernel
theorem dX6_request_43 : decode cX6_request 43 = .ok (.aload_n 3, 1) := by decide +kernel
theorem dX6_request_44 : decode cX6_request 44 = .ok (.iconst 1, 1) := by decide +kernel
theorem dX6_request_45 : decode cX6_request 45 = .ok (.putfield 108, 3) := by decide +kernel
theorem dX6_request_48 : decode cX6_request 48 = .ok (.aload_n 0, 1) := by decide +kernel
theorem dX6_request_49 : decode cX6_request 49 = .ok (.getfield 22, 3) := by decide +kernel
theorem dX6_request_52 : decode cX6_request 52 = .ok (.new 176, 3) := by decide +kernel
theorem dX6_request_55 : decode cX6_request 55 = .ok (.dup, 1) := by decide +kernel
theorem dX6_request_56 : decode cX6_request 56 = .ok (.aload_n 3, 1) := by decide +kernel
theorem dX6_request_57 : decode cX6_request 57 = .ok (.iload_n 2, 1) := by decide +kernel
theorem dX6_request_58 : decode cX6_request 58 = .ok (.invokespecial 178, 3) := by decide +kernel
theorem dX6_request_61 : decode cX6_request 61 = .ok (.invokevirtual 66, 3) := by decide +kernel
theorem dX6_request_64 : decode cX6_request 64 = .ok (.pop, 1) := by decide +kernel
theorem dX6_request_65 : decode cX6_request 65 = .ok (.aload_n 0, 1) := by decide +kernel
theorem dX6_request_66 : decode cX6_request 66 = .ok (.getfield 22, 3) := by decide +kernel
theorem dX6_request_69 : decode cX6_request 69 = .ok (.invokevirtual 52, 3) := by decide +kernel
theorem dX6_request_72 : decode cX6_request 72 = .ok (.ireturn, 1) := by decide +kernel
theorem dX6_requests_0 : decode cX6_requests 0 = .ok (.aload_n 0, 1) := by decide +kernel
theorem dX6_requests_1 : decode cX6_requests 1 = .ok (.getfield 22, 3) := by decide +kernel
theorem dX6_requests_4 : decode cX6_requests 4 = .ok (.invokevirtual 52, 3) := by decide +kernel
theorem dX6_requests_7 : decode cX6_requests 7 = .ok (.ireturn, 1) := by decide +kernel
theorem dX6_requestAt_0 : decode cX6_requestAt 0 = .ok (.iload_n 1, 1) := by decide +kernel
theorem dX6_requestAt_1 : decode cX6_requestAt 1 = .ok (.ifCond .lt 14, 3) := by decide +kernel
theorem dX6_requestAt_4 : decode cX6_requestAt 4 = .ok (.iload_n 1, 1) := by decide +kernel
theorem dX6_requestAt_5 : decode cX6_requestAt 5 = .ok (.aload_n 0, 1) := by decide +kernel
theorem dX6_requestAt_6 : decode cX6_requestAt 6 = .ok (.getfield 22, 3) := by decide +kernel
theorem dX6_requestAt_9 : decode cX6_requestAt 9 = .ok (.invokevirtual 52, 3) := by decide +kernel
theorem dX6_requestAt_12 : decode cX6_requestAt 12 = .ok (.if_icmp .lt 13, 3) := by decide +kernel
theorem dX6_requestAt_15 : decode cX6_requestAt 15 = .ok (.new 180, 3) := by decide +kernel
theorem dX6_requestAt_18 : decode cX6_requestAt 18 = .ok (.dup, 1) := by decide +kernel
theorem dX6_requestAt_19 : decode cX6_requestAt 19 = .ok (.ldc 182, 2) := by decide +kernel
theorem dX6_requestAt_21 : decode cX6_requestAt 21 = .ok (.invokespecial 184, 3) := by decide +kernel
theorem dX6_requestAt_24 : decode cX6_requestAt 24 = .ok (.athrow, 1) := by decide +kernel
theorem dX6_requestAt_25 : decode cX6_requestAt 25 = .ok (.aload_n 0, 1) := by decide +kernel
theorem dX6_requestAt_26 : decode cX6_requestAt 26 = .ok (.getfield 22, 3) := by decide +kernel
theorem dX6_requestAt_29 : decode cX6_requestAt 29 = .ok (.iload_n 1, 1) := by decide +kernel
theorem dX6_requestAt_30 : decode cX6_requestAt 30 = .ok (.invokevirtual 99, 3) := by decide +kernel
theorem dX6_requestAt_33 : decode cX6_requestAt 33 = .ok (.checkcast 176, 3) := by decide +kernel
theorem dX6_requestAt_36 : decode cX6_requestAt 36 = .ok (.getfield 185, 3) := by decide +kernel
theorem dX6_requestAt_39 : decode cX6_requestAt 39 = .ok (.getfield 92, 3) := by decide +kernel
theorem dX6_requestAt_42 : decode cX6_requestAt 42 = .ok (.ireturn, 1) := by decide +kernel
theorem dX6_lengthOf_0 : decode cX6_lengthOf 0 = .ok (.aload_n 0, 1) := by decide +kernel
theorem dX6_lengthOf_1 : decode cX6_lengthOf 1 = .ok (.iload_n 1, 1) := by decide +kernel
theorem dX6_lengthOf_2 : decode cX6_lengthOf 2 = .ok (.invokevirtual 96, 3) := by decide +kernel
theorem dX6_lengthOf_5 : decode cX6_lengthOf 5 = .ok (.aload_n 0, 1) := by decide +kernel
theorem dX6_lengthOf_6 : decode cX6_lengthOf 6 = .ok (.getfield 16, 3) := by decide +kernel
theorem dX6_lengthOf_9 : decode cX6_lengthOf 9 = .ok (.iload_n 1, 1) := by decide +kernel
theorem dX6_lengthOf_10 : decode cX6_lengthOf 10 = .ok (.invokevirtual 99, 3) := by decide +kernel
theorem dX6_lengthOf_13 : decode cX6_lengthOf 13 = .ok (.checkcast 87, 3) := by decide +kernel
theorem dX6_lengthOf_16 : decode cX6_lengthOf 16 = .ok (.getfield 186, 3) := by decide +kernel
theorem dX6_lengthOf_19 : decode cX6_lengthOf 19 = .ok (.ireturn, 1) := by decide +kernel
theorem dX6_workOf_0 : decode cX6_workOf 0 = .ok (.aload_n 0, 1) := by decide +kernel
theorem dX6_workOf_1 : decode cX6_workOf 1 = .ok (.iload_n 1, 1) := by decide +kernel
theorem dX6_workOf_2 : decode cX6_workOf 2 = .ok (.invokevirtual 96, 3) := by decide +kernel
theorem dX6_workOf_5 : decode cX6_workOf 5 = .ok (.aload_n 0, 1) := by decide +kernel
theorem dX6_workOf_6 : decode cX6_workOf 6 = .ok (.getfield 16, 3) := by decide +kernel
theorem dX6_workOf_9 : decode cX6_workOf 9 = .ok (.iload_n 1, 1) := by decide +kernel
theorem dX6_workOf_10 : decode cX6_workOf 10 = .ok (.invokevirtual 99, 3) := by decide +kernel
theorem dX6_workOf_13 : decode cX6_workOf 13 = .ok (.checkcast 87, 3) := by decide +kernel
theorem dX6_workOf_16 : decode cX6_workOf 16 = .ok (.getfield 189, 3) := by decide +kernel
theorem dX6_workOf_19 : decode cX6_workOf 19 = .ok (.ireturn, 1) := by decide +kernel
theorem dX6_skillsOf_0 : decode cX6_skillsOf 0 = .ok (.aload_n 0, 1) := by decide +kernel
theorem dX6_skillsOf_1 : decode cX6_skillsOf 1 = .ok (.iload_n 1, 1) := by decide +kernel
theorem dX6_skillsOf_2 : decode cX6_skillsOf 2 = .ok (.invokevirtual 96, 3) := by decide +kernel
theorem dX6_skillsOf_5 : decode cX6_skillsOf 5 = .ok (.aload_n 0, 1) := by decide +kernel
theorem dX6_skillsOf_6 : decode cX6_skillsOf 6 = .ok (.getfield 16, 3) := by decide +kernel
theorem dX6_skillsOf_9 : decode cX6_skillsOf 9 = .ok (.iload_n 1, 1) := by decide +kernel
theorem dX6_skillsOf_10 : decode cX6_skillsOf 10 = .ok (.invokevirtual 99, 3) := by decide +kernel
theorem dX6_skillsOf_13 : decode cX6_skillsOf 13 = .ok (.checkcast 87, 3) := by decide +kernel
theorem dX6_skillsOf_16 : decode cX6_skillsOf 16 = .ok (.getfield 192, 3) := by decide +kernel
theorem dX6_skillsOf_19 : decode cX6_skillsOf 19 = .ok (.ireturn, 1) := by decide +kernel
theorem dX6_visits_0 : decode cX6_visits 0 = .ok (.aload_n 0, 1) := by decide +kernel
theorem dX6_visits_1 : decode cX6_visits 1 = .ok (.getfield 19, 3) := by decide +kernel
theorem dX6_visits_4 : decode cX6_visits 4 = .ok (.invokevirtual 52, 3) := by decide +kernel
theorem dX6_visits_7 : decode cX6_visits 7 = .ok (.ireturn, 1) := by decide +kernel
theorem dX6_startOf_0 : decode cX6_startOf 0 = .ok (.aload_n 0, 1) := by decide +kernel
theorem dX6_startOf_1 : decode cX6_startOf 1 = .ok (.iload_n 1, 1) := by decide +kernel
theorem dX6_startOf_2 : decode cX6_startOf 2 = .ok (.invokevirtual 195, 3) := by decide +kernel
theorem dX6_startOf_5 : decode cX6_startOf 5 = .ok (.aload_n 0, 1) := by decide +kernel
theorem dX6_startOf_6 : decode cX6_startOf 6 = .ok (.getfield 19, 3) := by decide +kernel
theorem dX6_startOf_9 : decode cX6_startOf 9 = .ok (.iload_n 1, 1) := by decide +kernel
theorem dX6_startOf_10 : decode cX6_startOf 10 = .ok (.invokevirtual 99, 3) := by decide +kernel
theorem dX6_startOf_13 : decode cX6_startOf 13 = .ok (.checkcast 136, 3) := by decide +kernel
theorem dX6_startOf_16 : decode cX6_startOf 16 = .ok (.getfield 144, 3) := by decide +kernel
theorem dX6_startOf_19 : decode cX6_startOf 19 = .ok (.ireturn, 1) := by decide +kernel
theorem dX6_staffOf_0 : decode cX6_staffOf 0 = .ok (.aload_n 0, 1) := by decide +kernel
theorem dX6_staffOf_1 : decode cX6_staffOf 1 = .ok (.iload_n 1, 1) := by decide +kernel
theorem dX6_staffOf_2 : decode cX6_staffOf 2 = .ok (.invokevirtual 195, 3) := by decide +kernel
theorem dX6_staffOf_5 : decode cX6_staffOf 5 = .ok (.aload_n 0, 1) := by decide +kernel
theorem dX6_staffOf_6 : decode cX6_staffOf 6 = .ok (.getfield 19, 3) := by decide +kernel
theorem dX6_staffOf_9 : decode cX6_staffOf 9 = .ok (.iload_n 1, 1) := by decide +kernel
theorem dX6_staffOf_10 : decode cX6_staffOf 10 = .ok (.invokevirtual 99, 3) := by decide +kernel
theorem dX6_staffOf_13 : decode cX6_staffOf 13 = .ok (.checkcast 136, 3) := by decide +kernel
theorem dX6_staffOf_16 : decode cX6_staffOf 16 = .ok (.getfield 138, 3) := by decide +kernel
theorem dX6_staffOf_19 : decode cX6_staffOf 19 = .ok (.ireturn, 1) := by decide +kernel
theorem dX6_chairOf_0 : decode cX6_chairOf 0 = .ok (.aload_n 0, 1) := by decide +kernel
theorem dX6_chairOf_1 : decode cX6_chairOf 1 = .ok (.iload_n 1, 1) := by decide +kernel
theorem dX6_chairOf_2 : decode cX6_chairOf 2 = .ok (.invokevirtual 195, 3) := by decide +kernel
theorem dX6_chairOf_5 : decode cX6_chairOf 5 = .ok (.aload_n 0, 1) := by decide +kernel
theorem dX6_chairOf_6 : decode cX6_chairOf 6 = .ok (.getfield 19, 3) := by decide +kernel
theorem dX6_chairOf_9 : decode cX6_chairOf 9 = .ok (.iload_n 1, 1) := by decide +kernel
theorem dX6_chairOf_10 : decode cX6_chairOf 10 = .ok (.invokevirtual 99, 3) := by decide +kernel
theorem dX6_chairOf_13 : decode cX6_chairOf 13 = .ok (.checkcast 136, 3) := by decide +kernel
theorem dX6_chairOf_16 : decode cX6_chairOf 16 = .ok (.getfield 141, 3) := by decide +kernel
theorem dX6_chairOf_19 : decode cX6_chairOf 19 = .ok (.ireturn, 1) := by decide +kernel
theorem dX6_serviceOf_0 : decode cX6_serviceOf 0 = .ok (.aload_n 0, 1) := by decide +kernel
theorem dX6_serviceOf_1 : decode cX6_serviceOf 1 = .ok (.iload_n 1, 1) := by decide +kernel
theorem dX6_serviceOf_2 : decode cX6_serviceOf 2 = .ok (.invokevirtual 195, 3) := by decide +kernel
theorem dX6_serviceOf_5 : decode cX6_serviceOf 5 = .ok (.aload_n 0, 1) := by decide +kernel
theorem dX6_serviceOf_6 : decode cX6_serviceOf 6 = .ok (.getfield 19, 3) := by decide +kernel
theorem dX6_serviceOf_9 : decode cX6_serviceOf 9 = .ok (.iload_n 1, 1) := by decide +kernel
theorem dX6_serviceOf_10 : decode cX6_serviceOf 10 = .ok (.invokevirtual 99, 3) := by decide +kernel
theorem dX6_serviceOf_13 : decode cX6_serviceOf 13 = .ok (.checkcast 136, 3) := by decide +kernel
theorem dX6_serviceOf_16 : decode cX6_serviceOf 16 = .ok (.getfield 151, 3) := by decide +kernel
theorem dX6_serviceOf_19 : decode cX6_serviceOf 19 = .ok (.getfield 92, 3) := by decide +kernel
theorem dX6_serviceOf_22 : decode cX6_serviceOf 22 = .ok (.ireturn, 1) := by decide +kernel
theorem dX6_loadOf_0 : decode cX6_loadOf 0 = .ok (.aload_n 0, 1) := by decide +kernel
theorem dX6_loadOf_1 : decode cX6_loadOf 1 = .ok (.iload_n 1, 1) := by decide +kernel
theorem dX6_loadOf_2 : decode cX6_loadOf 2 = .ok (.invokevirtual 130, 3) := by decide +kernel
theorem dX6_loadOf_5 : decode cX6_loadOf 5 = .ok (.aload_n 0, 1) := by decide +kernel
theorem dX6_loadOf_6 : decode cX6_loadOf 6 = .ok (.iload_n 1, 1) := by decide +kernel
theorem dX6_loadOf_7 : decode cX6_loadOf 7 = .ok (.invokevirtual 198, 3) := by decide +kernel
theorem dX6_loadOf_10 : decode cX6_loadOf 10 = .ok (.ireturn, 1) := by decide +kernel
theorem dX6_staffAt_0 : decode cX6_staffAt 0 = .ok (.aload_n 0, 1) := by decide +kernel
theorem dX6_staffAt_1 : decode cX6_staffAt 1 = .ok (.iload_n 1, 1) := by decide +kernel
theorem dX6_staffAt_2 : decode cX6_staffAt 2 = .ok (.invokevirtual 130, 3) := by decide +kernel
theorem dX6_staffAt_5 : decode cX6_staffAt 5 = .ok (.iload_n 2, 1) := by decide +kernel
theorem dX6_staffAt_6 : decode cX6_staffAt 6 = .ok (.invokestatic 120, 3) := by decide +kernel
theorem dX6_staffAt_9 : decode cX6_staffAt 9 = .ok (.aload_n 0, 1) := by decide +kernel
theorem dX6_staffAt_10 : decode cX6_staffAt 10 = .ok (.getfield 10, 3) := by decide +kernel
theorem dX6_staffAt_13 : decode cX6_staffAt 13 = .ok (.iload_n 1, 1) := by decide +kernel
theorem dX6_staffAt_14 : decode cX6_staffAt 14 = .ok (.invokevirtual 99, 3) := by decide +kernel
theorem dX6_staffAt_17 : decode cX6_staffAt 17 = .ok (.checkcast 61, 3) := by decide +kernel
theorem dX6_staffAt_20 : decode cX6_staffAt 20 = .ok (.getfield 202, 3) := by decide +kernel
theorem dX6_staffAt_23 : decode cX6_staffAt 23 = .ok (.iload_n 2, 1) := by decide +kernel
theorem dX6_staffAt_24 : decode cX6_staffAt 24 = .ok (.invokevirtual 206, 3) := by decide +kernel
theorem dX6_staffAt_27 : decode cX6_staffAt 27 = .ok (.ireturn, 1) := by decide +kernel
theorem dX6_chairAt_0 : decode cX6_chairAt 0 = .ok (.iload_n 1, 1) := by decide +kernel
theorem dX6_chairAt_1 : decode cX6_chairAt 1 = .ok (.invokestatic 209, 3) := by decide +kernel
theorem dX6_chairAt_4 : decode cX6_chairAt 4 = .ok (.ifCond .ne 13, 3) := by decide +kernel
theorem dX6_chairAt_7 : decode cX6_chairAt 7 = .ok (.new 180, 3) := by decide +kernel
theorem dX6_chairAt_10 : decode cX6_chairAt 10 = .ok (.dup, 1) := by decide +kernel
theorem dX6_chairAt_11 : decode cX6_chairAt 11 = .ok (.ldc 212, 2) := by decide +kernel
theorem dX6_chairAt_13 : decode cX6_chairAt 13 = .ok (.invokespecial 184, 3) := by decide +kernel
theorem dX6_chairAt_16 : decode cX6_chairAt 16 = .ok (.athrow, 1) := by decide +kernel
theorem dX6_chairAt_17 : decode cX6_chairAt 17 = .ok (.iload_n 2, 1) := by decide +kernel
theorem dX6_chairAt_18 : decode cX6_chairAt 18 = .ok (.invokestatic 120, 3) := by decide +kernel
theorem dX6_chairAt_21 : decode cX6_chairAt 21 = .ok (.aload_n 0, 1) := by decide +kernel
theorem dX6_chairAt_22 : decode cX6_chairAt 22 = .ok (.getfield 27, 3) := by decide +kernel
theorem dX6_chairAt_25 : decode cX6_chairAt 25 = .ok (.iload_n 1, 1) := by decide +kernel
theorem dX6_chairAt_26 : decode cX6_chairAt 26 = .ok (.aaload, 1) := by decide +kernel
theorem dX6_chairAt_27 : decode cX6_chairAt 27 = .ok (.iload_n 2, 1) := by decide +kernel
theorem dX6_chairAt_28 : decode cX6_chairAt 28 = .ok (.invokevirtual 206, 3) := by decide +kernel
theorem dX6_chairAt_31 : decode cX6_chairAt 31 = .ok (.ireturn, 1) := by decide +kernel
theorem dX6_earliest_0 : decode cX6_earliest 0 = .ok (.aload_n 0, 1) := by decide +kernel
theorem dX6_earliest_1 : decode cX6_earliest 1 = .ok (.iload_n 1, 1) := by decide +kernel
theorem dX6_earliest_2 : decode cX6_earliest 2 = .ok (.invokevirtual 96, 3) := by decide +kernel
theorem dX6_earliest_5 : decode cX6_earliest 5 = .ok (.iload_n 2, 1) := by decide +kernel
theorem dX6_earliest_6 : decode cX6_earliest 6 = .ok (.invokestatic 120, 3) := by decide +kernel
theorem dX6_earliest_9 : decode cX6_earliest 9 = .ok (.aload_n 0, 1) := by decide +kernel
theorem dX6_earliest_10 : decode cX6_earliest 10 = .ok (.aload_n 0, 1) := by decide +kernel
theorem dX6_earliest_11 : decode cX6_earliest 11 = .ok (.getfield 16, 3) := by decide +kernel
theorem dX6_earliest_14 : decode cX6_earliest 14 = .ok (.iload_n 1, 1) := by decide +kernel
theorem dX6_earliest_15 : decode cX6_earliest 15 = .ok (.invokevirtual 99, 3) := by decide +kernel
theorem dX6_earliest_18 : decode cX6_earliest 18 = .ok (.checkcast 87, 3) := by decide +kernel
theorem dX6_earliest_21 : decode cX6_earliest 21 = .ok (.bipush 31, 2) := by decide +kernel
theorem dX6_earliest_23 : decode cX6_earliest 23 = .ok (.iload_n 2, 1) := by decide +kernel
theorem dX6_earliest_24 : decode cX6_earliest 24 = .ok (.invokevirtual 155, 3) := by decide +kernel
theorem dX6_earliest_27 : decode cX6_earliest 27 = .ok (.ireturn, 1) := by decide +kernel
theorem dX6_earliestByScan_0 : decode cX6_earliestByScan 0 = .ok (.aload_n 0, 1) := by decide +kernel
theorem dX6_earliestByScan_1 : decode cX6_earliestByScan 1 = .ok (.iload_n 1, 1) := by decide +kernel
theorem dX6_earliestByScan_2 : decode cX6_earliestByScan 2 = .ok (.invokevirtual 96, 3) := by decide +kernel
theorem dX6_earliestByScan_5 : decode cX6_earliestByScan 5 = .ok (.iload_n 2, 1) := by decide +kernel
theorem dX6_earliestByScan_6 : decode cX6_earliestByScan 6 = .ok (.invokestatic 120, 3) := by decide +kernel
theorem dX6_earliestByScan_9 : decode cX6_earliestByScan 9 = .ok (.aload_n 0, 1) := by decide +kernel
theorem dX6_earliestByScan_10 : decode cX6_earliestByScan 10 = .ok (.aload_n 0, 1) := by decide +kernel
theorem dX6_earliestByScan_11 : decode cX6_earliestByScan 11 = .ok (.getfield 16, 3) := by decide +kernel
theorem dX6_earliestByScan_14 : decode cX6_earliestByScan 14 = .ok (.iload_n 1, 1) := by decide +kernel
theorem dX6_earliestByScan_15 : decode cX6_earliestByScan 15 = .ok (.invokevirtual 99, 3) := by decide +kernel
theorem dX6_earliestByScan_18 : decode cX6_earliestByScan 18 = .ok (.checkcast 87, 3) := by decide +kernel
theorem dX6_earliestByScan_21 : decode cX6_earliestByScan 21 = .ok (.bipush 31, 2) := by decide +kernel
theorem dX6_earliestByScan_23 : decode cX6_earliestByScan 23 = .ok (.iload_n 2, 1) := by decide +kernel
theorem dX6_earliestByScan_24 : decode cX6_earliestByScan 24 = .ok (.sipush 600, 3) := by decide +kernel
theorem dX6_earliestByScan_27 : decode cX6_earliestByScan 27 = .ok (.invokevirtual 214, 3) := by decide +kernel
theorem dX6_earliestByScan_30 : decode cX6_earliestByScan 30 = .ok (.ireturn, 1) := by decide +kernel
theorem dX6_staffFor_0 : decode cX6_staffFor 0 = .ok (.aload_n 0, 1) := by decide +kernel
theorem dX6_staffFor_1 : decode cX6_staffFor 1 = .ok (.iload_n 1, 1) := by decide +kernel
theorem dX6_staffFor_2 : decode cX6_staffFor 2 = .ok (.invokevirtual 96, 3) := by decide +kernel
theorem dX6_staffFor_5 : decode cX6_staffFor 5 = .ok (.iload_n 2, 1) := by decide +kernel
theorem dX6_staffFor_6 : decode cX6_staffFor 6 = .ok (.invokestatic 120, 3) := by decide +kernel
theorem dX6_staffFor_9 : decode cX6_staffFor 9 = .ok (.aload_n 0, 1) := by decide +kernel
theorem dX6_staffFor_10 : decode cX6_staffFor 10 = .ok (.getfield 16, 3) := by decide +kernel
theorem dX6_staffFor_13 : decode cX6_staffFor 13 = .ok (.iload_n 1, 1) := by decide +kernel
theorem dX6_staffFor_14 : decode cX6_staffFor 14 = .ok (.invokevirtual 99, 3) := by decide +kernel
theorem dX6_staffFor_17 : decode cX6_staffFor 17 = .ok (.checkcast 87, 3) := by decide +kernel
theorem dX6_staffFor_20 : decode cX6_staffFor 20 = .ok (.astore_n 3, 1) := by decide +kernel
theorem dX6_staffFor_21 : decode cX6_staffFor 21 = .ok (.aload_n 0, 1) := by decide +kernel
theorem dX6_staffFor_22 : decode cX6_staffFor 22 = .ok (.aload_n 3, 1) := by decide +kernel
theorem dX6_staffFor_23 : decode cX6_staffFor 23 = .ok (.bipush 31, 2) := by decide +kernel
theorem dX6_staffFor_25 : decode cX6_staffFor 25 = .ok (.iload_n 2, 1) := by decide +kernel
theorem dX6_staffFor_26 : decode cX6_staffFor 26 = .ok (.invokevirtual 155, 3) := by decide +kernel
theorem dX6_staffFor_29 : decode cX6_staffFor 29 = .ok (.istore 4, 2) := by decide +kernel
theorem dX6_staffFor_31 : decode cX6_staffFor 31 = .ok (.iload 4, 2) := by decide +kernel
theorem dX6_staffFor_33 : decode cX6_staffFor 33 = .ok (.iconst (-1), 1) := by decide +kernel
theorem dX6_staffFor_34 : decode cX6_staffFor 34 = .ok (.if_icmp .ne 7, 3) := by decide +kernel
theorem dX6_staffFor_37 : decode cX6_staffFor 37 = .ok (.iconst (-1), 1) := by decide +kernel
theorem dX6_staffFor_38 : decode cX6_staffFor 38 = .ok (.goto 12, 3) := by decide +kernel
theorem dX6_staffFor_41 : decode cX6_staffFor 41 = .ok (.aload_n 0, 1) := by decide +kernel
theorem dX6_staffFor_42 : decode cX6_staffFor 42 = .ok (.aload_n 3, 1) := by decide +kernel
theorem dX6_staffFor_43 : decode cX6_staffFor 43 = .ok (.bipush 31, 2) := by decide +kernel
theorem dX6_staffFor_45 : decode cX6_staffFor 45 = .ok (.iload 4, 2) := by decide +kernel
theorem dX6_staffFor_47 : decode cX6_staffFor 47 = .ok (.invokevirtual 218, 3) := by decide +kernel
theorem dX6_staffFor_50 : decode cX6_staffFor 50 = .ok (.ireturn, 1) := by decide +kernel
theorem dX6_inRest_0 : decode cX6_inRest 0 = .ok (.aload_n 0, 1) := by decide +kernel
theorem dX6_inRest_1 : decode cX6_inRest 1 = .ok (.iload_n 1, 1) := by decide +kernel
theorem dX6_inRest_2 : decode cX6_inRest 2 = .ok (.invokevirtual 133, 3) := by decide +kernel
theorem dX6_inRest_5 : decode cX6_inRest 5 = .ok (.aload_n 0, 1) := by decide +kernel
theorem dX6_inRest_6 : decode cX6_inRest 6 = .ok (.iload_n 2, 1) := by decide +kernel
theorem dX6_inRest_7 : decode cX6_inRest 7 = .ok (.invokevirtual 96, 3) := by decide +kernel
theorem dX6_inRest_10 : decode cX6_inRest 10 = .ok (.aload_n 0, 1) := by decide +kernel
theorem dX6_inRest_11 : decode cX6_inRest 11 = .ok (.getfield 19, 3) := by decide +kernel
theorem dX6_inRest_14 : decode cX6_inRest 14 = .ok (.iload_n 1, 1) := by decide +kernel
theorem dX6_inRest_15 : decode cX6_inRest 15 = .ok (.invokevirtual 99, 3) := by decide +kernel
theorem dX6_inRest_18 : decode cX6_inRest 18 = .ok (.checkcast 136, 3) := by decide +kernel
theorem dX6_inRest_21 : decode cX6_inRest 21 = .ok (.astore_n 3, 1) := by decide +kernel
theorem dX6_inRest_22 : decode cX6_inRest 22 = .ok (.aload_n 0, 1) := by decide +kernel
theorem dX6_inRest_23 : decode cX6_inRest 23 = .ok (.getfield 16, 3) := by decide +kernel
theorem dX6_inRest_26 : decode cX6_inRest 26 = .ok (.iload_n 2, 1) := by decide +kernel
theorem dX6_inRest_27 : decode cX6_inRest 27 = .ok (.invokevirtual 99, 3) := by decide +kernel
theorem dX6_inRest_30 : decode cX6_inRest 30 = .ok (.checkcast 87, 3) := by decide +kernel
theorem dX6_inRest_33 : decode cX6_inRest 33 = .ok (.astore 4, 2) := by decide +kernel
theorem dX6_inRest_35 : decode cX6_inRest 35 = .ok (.iconst 0, 1) := by decide +kernel
theorem dX6_inRest_36 : decode cX6_inRest 36 = .ok (.istore 5, 2) := by decide +kernel
theorem dX6_inRest_38 : decode cX6_inRest 38 = .ok (.iload 5, 2) := by decide +kernel
theorem dX6_inRest_40 : decode cX6_inRest 40 = .ok (.aload_n 3, 1) := by decide +kernel
theorem dX6_inRest_41 : decode cX6_inRest 41 = .ok (.getfield 151, 3) := by decide +kernel
theorem dX6_inRest_44 : decode cX6_inRest 44 = .ok (.getfield 103, 3) := by decide +kernel
theorem dX6_inRest_47 : decode cX6_inRest 47 = .ok (.if_icmp .ge 80, 3) := by decide +kernel
theorem dX6_inRest_50 : decode cX6_inRest 50 = .ok (.aload_n 3, 1) := by decide +kernel
theorem dX6_inRest_51 : decode cX6_inRest 51 = .ok (.getfield 151, 3) := by decide +kernel
theorem dX6_inRest_54 : decode cX6_inRest 54 = .ok (.iload 5, 2) := by decide +kernel
theorem dX6_inRest_56 : decode cX6_inRest 56 = .ok (.invokevirtual 221, 3) := by decide +kernel
theorem dX6_inRest_59 : decode cX6_inRest 59 = .ok (.ifCond .eq 62, 3) := by decide +kernel
theorem dX6_inRest_62 : decode cX6_inRest 62 = .ok (.aload_n 3, 1) := by decide +kernel
theorem dX6_inRest_63 : decode cX6_inRest 63 = .ok (.getfield 144, 3) := by decide +kernel
theorem dX6_inRest_66 : decode cX6_inRest 66 = .ok (.aload_n 3, 1) := by decide +kernel
theorem dX6_inRest_67 : decode cX6_inRest 67 = .ok (.getfield 151, 3) := by decide +kernel
theorem dX6_inRest_70 : decode cX6_inRest 70 = .ok (.iload 5, 2) := by decide +kernel
theorem dX6_inRest_72 : decode cX6_inRest 72 = .ok (.invokevirtual 224, 3) := by decide +kernel
theorem dX6_inRest_75 : decode cX6_inRest 75 = .ok (.iadd, 1) := by decide +kernel
theorem dX6_inRest_76 : decode cX6_inRest 76 = .ok (.istore 6, 2) := by decide +kernel
theorem dX6_inRest_78 : decode cX6_inRest 78 = .ok (.aload_n 3, 1) := by decide +kernel
theorem dX6_inRest_79 : decode cX6_inRest 79 = .ok (.getfield 144, 3) := by decide +kernel
theorem dX6_inRest_82 : decode cX6_inRest 82 = .ok (.aload_n 3, 1) := by decide +kernel
theorem dX6_inRest_83 : decode cX6_inRest 83 = .ok (.getfield 151, 3) := by decide +kernel
theorem dX6_inRest_86 : decode cX6_inRest 86 = .ok (.iload 5, 2) := by decide +kernel
theorem dX6_inRest_88 : decode cX6_inRest 88 = .ok (.invokevirtual 227, 3) := by decide +kernel
theorem dX6_inRest_91 : decode cX6_inRest 91 = .ok (.iadd, 1) := by decide +kernel
theorem dX6_inRest_92 : decode cX6_inRest 92 = .ok (.istore 7, 2) := by decide +kernel
theorem dX6_inRest_94 : decode cX6_inRest 94 = .ok (.aload_n 0, 1) := by decide +kernel
theorem dX6_inRest_95 : decode cX6_inRest 95 = .ok (.aload 4, 2) := by decide +kernel
theorem dX6_inRest_97 : decode cX6_inRest 97 = .ok (.iconst 1, 1) := by decide +kernel
theorem dX6_inRest_98 : decode cX6_inRest 98 = .ok (.aload_n 3, 1) := by decide +kernel
theorem dX6_inRest_99 : decode cX6_inRest 99 = .ok (.getfield 138, 3) := by decide +kernel
theorem dX6_inRest_102 : decode cX6_inRest 102 = .ok (.ishl, 1) := by decide +kernel
theorem dX6_inRest_103 : decode cX6_inRest 103 = .ok (.iload 6, 2) := by decide +kernel
theorem dX6_inRest_105 : decode cX6_inRest 105 = .ok (.iload 7, 2) := by decide +kernel
theorem dX6_inRest_107 : decode cX6_inRest 107 = .ok (.invokevirtual 214, 3) := by decide +kernel
theorem dX6_inRest_110 : decode cX6_inRest 110 = .ok (.istore 8, 2) := by decide +kernel
theorem dX6_inRest_112 : decode cX6_inRest 112 = .ok (.iload 8, 2) := by decide +kernel
theorem dX6_inRest_114 : decode cX6_inRest 114 = .ok (.iconst (-1), 1) := by decide +kernel
theorem dX6_inRest_115 : decode cX6_inRest 115 = .ok (.if_icmp .eq 6, 3) := by decide +kernel
theorem dX6_inRest_118 : decode cX6_inRest 118 = .ok (.iload 8, 2) := by decide +kernel
theorem dX6_inRest_120 : decode cX6_inRest 120 = .ok (.ireturn, 1) := by decide +kernel
theorem dX6_inRest_121 : decode cX6_inRest 121 = .ok (.iinc 5 1, 3) := by decide +kernel
theorem dX6_inRest_124 : decode cX6_inRest 124 = .ok (.goto (-86), 3) := by decide +kernel
theorem dX6_inRest_127 : decode cX6_inRest 127 = .ok (.iconst (-1), 1) := by decide +kernel
theorem dX6_inRest_128 : decode cX6_inRest 128 = .ok (.ireturn, 1) := by decide +kernel
theorem dX6_fill_0 : decode cX6_fill 0 = .ok (.iload_n 1, 1) := by decide +kernel
theorem dX6_fill_1 : decode cX6_fill 1 = .ok (.ifCond .lt 10, 3) := by decide +kernel
theorem dX6_fill_4 : decode cX6_fill 4 = .ok (.iload_n 1, 1) := by decide +kernel
theorem dX6_fill_5 : decode cX6_fill 5 = .ok (.sipush 600, 3) := by decide +kernel
theorem dX6_fill_8 : decode cX6_fill 8 = .ok (.if_icmp .le 13, 3) := by decide +kernel
theorem dX6_fill_11 : decode cX6_fill 11 = .ok (.new 39, 3) := by decide +kernel
theorem dX6_fill_14 : decode cX6_fill 14 = .ok (.dup, 1) := by decide +kernel
theorem dX6_fill_15 : decode cX6_fill 15 = .ok (.ldc 230, 2) := by decide +kernel
theorem dX6_fill_17 : decode cX6_fill 17 = .ok (.invokespecial 43, 3) := by decide +kernel
theorem dX6_fill_20 : decode cX6_fill 20 = .ok (.athrow, 1) := by decide +kernel
theorem dX6_fill_21 : decode cX6_fill 21 = .ok (.iconst 0, 1) := by decide +kernel
theorem dX6_fill_22 : decode cX6_fill 22 = .ok (.istore_n 2, 1) := by decide +kernel
theorem dX6_fill_23 : decode cX6_fill 23 = .ok (.iconst 0, 1) := by decide +kernel
theorem dX6_fill_24 : decode cX6_fill 24 = .ok (.istore_n 3, 1) := by decide +kernel
theorem dX6_fill_25 : decode cX6_fill 25 = .ok (.iconst 1, 1) := by decide +kernel
theorem dX6_fill_26 : decode cX6_fill 26 = .ok (.aload_n 0, 1) := by decide +kernel
theorem dX6_fill_27 : decode cX6_fill 27 = .ok (.getfield 16, 3) := by decide +kernel
theorem dX6_fill_30 : decode cX6_fill 30 = .ok (.invokevirtual 52, 3) := by decide +kernel
theorem dX6_fill_33 : decode cX6_fill 33 = .ok (.ishl, 1) := by decide +kernel
theorem dX6_fill_34 : decode cX6_fill 34 = .ok (.istore 4, 2) := by decide +kernel
theorem dX6_fill_36 : decode cX6_fill 36 = .ok (.iconst 1, 1) := by decide +kernel
theorem dX6_fill_37 : decode cX6_fill 37 = .ok (.istore 5, 2) := by decide +kernel
theorem dX6_fill_39 : decode cX6_fill 39 = .ok (.iload 5, 2) := by decide +kernel
theorem dX6_fill_41 : decode cX6_fill 41 = .ok (.iload 4, 2) := by decide +kernel
theorem dX6_fill_43 : decode cX6_fill 43 = .ok (.if_icmp .ge 35, 3) := by decide +kernel
theorem dX6_fill_46 : decode cX6_fill 46 = .ok (.aload_n 0, 1) := by decide +kernel
theorem dX6_fill_47 : decode cX6_fill 47 = .ok (.iload 5, 2) := by decide +kernel
theorem dX6_fill_49 : decode cX6_fill 49 = .ok (.invokevirtual 232, 3) := by decide +kernel
theorem dX6_fill_52 : decode cX6_fill 52 = .ok (.istore 6, 2) := by decide +kernel
theorem dX6_fill_54 : decode cX6_fill 54 = .ok (.iload 6, 2) := by decide +kernel
theorem dX6_fill_56 : decode cX6_fill 56 = .ok (.iload_n 1, 1) := by decide +kernel
theorem dX6_fill_57 : decode cX6_fill 57 = .ok (.if_icmp .gt 15, 3) := by decide +kernel
theorem dX6_fill_60 : decode cX6_fill 60 = .ok (.iload 6, 2) := by decide +kernel
theorem dX6_fill_62 : decode cX6_fill 62 = .ok (.iload_n 3, 1) := by decide +kernel
theorem dX6_fill_63 : decode cX6_fill 63 = .ok (.if_icmp .le 9, 3) := by decide +kernel
theorem dX6_fill_66 : decode cX6_fill 66 = .ok (.iload 5, 2) := by decide +kernel
theorem dX6_fill_68 : decode cX6_fill 68 = .ok (.istore_n 2, 1) := by decide +kernel
theorem dX6_fill_69 : decode cX6_fill 69 = .ok (.iload 6, 2) := by decide +kernel
theorem dX6_fill_71 : decode cX6_fill 71 = .ok (.istore_n 3, 1) := by decide +kernel
theorem dX6_fill_72 : decode cX6_fill 72 = .ok (.iinc 5 1, 3) := by decide +kernel
theorem dX6_fill_75 : decode cX6_fill 75 = .ok (.goto (-36), 3) := by decide +kernel
theorem dX6_fill_78 : decode cX6_fill 78 = .ok (.iload_n 2, 1) := by decide +kernel
theorem dX6_fill_79 : decode cX6_fill 79 = .ok (.ireturn, 1) := by decide +kernel
theorem dX6_peak_0 : decode cX6_peak 0 = .ok (.iconst 0, 1) := by decide +kernel
theorem dX6_peak_1 : decode cX6_peak 1 = .ok (.istore_n 1, 1) := by decide +kernel
theorem dX6_peak_2 : decode cX6_peak 2 = .ok (.iconst 0, 1) := by decide +kernel
theorem dX6_peak_3 : decode cX6_peak 3 = .ok (.istore_n 2, 1) := by decide +kernel
theorem dX6_peak_4 : decode cX6_peak 4 = .ok (.iconst 0, 1) := by decide +kernel
theorem dX6_peak_5 : decode cX6_peak 5 = .ok (.istore_n 3, 1) := by decide +kernel
theorem dX6_peak_6 : decode cX6_peak 6 = .ok (.iload_n 3, 1) := by decide +kernel
theorem dX6_peak_7 : decode cX6_peak 7 = .ok (.sipush 600, 3) := by decide +kernel
theorem dX6_peak_10 : decode cX6_peak 10 = .ok (.if_icmp .ge 27, 3) := by decide +kernel
theorem dX6_peak_13 : decode cX6_peak 13 = .ok (.aload_n 0, 1) := by decide +kernel
theorem dX6_peak_14 : decode cX6_peak 14 = .ok (.iload_n 3, 1) := by decide +kernel
theorem dX6_peak_15 : decode cX6_peak 15 = .ok (.invokevirtual 235, 3) := by decide +kernel
theorem dX6_peak_18 : decode cX6_peak 18 = .ok (.istore 4, 2) := by decide +kernel
theorem dX6_peak_20 : decode cX6_peak 20 = .ok (.iload 4, 2) := by decide +kernel
theorem dX6_peak_22 : decode cX6_peak 22 = .ok (.iload_n 2, 1) := by decide +kernel
theorem dX6_peak_23 : decode cX6_peak 23 = .ok (.if_icmp .le 8, 3) := by decide +kernel
theorem dX6_peak_26 : decode cX6_peak 26 = .ok (.iload_n 3, 1) := by decide +kernel
theorem dX6_peak_27 : decode cX6_peak 27 = .ok (.istore_n 1, 1) := by decide +kernel
theorem dX6_peak_28 : decode cX6_peak 28 = .ok (.iload 4, 2) := by decide +kernel
theorem dX6_peak_30 : decode cX6_peak 30 = .ok (.istore_n 2, 1) := by decide +kernel
theorem dX6_peak_31 : decode cX6_peak 31 = .ok (.iinc 3 1, 3) := by decide +kernel
theorem dX6_peak_34 : decode cX6_peak 34 = .ok (.goto (-28), 3) := by decide +kernel
theorem dX6_peak_37 : decode cX6_peak 37 = .ok (.iload_n 1, 1) := by decide +kernel
theorem dX6_peak_38 : decode cX6_peak 38 = .ok (.ireturn, 1) := by decide +kernel
theorem dX6_isMinute_0 : decode cX6_isMinute 0 = .ok (.iload_n 0, 1) := by decide +kernel
theorem dX6_isMinute_1 : decode cX6_isMinute 1 = .ok (.ifCond .lt 14, 3) := by decide +kernel
theorem dX6_isMinute_4 : decode cX6_isMinute 4 = .ok (.iload_n 0, 1) := by decide +kernel
theorem dX6_isMinute_5 : decode cX6_isMinute 5 = .ok (.sipush 600, 3) := by decide +kernel
theorem dX6_isMinute_8 : decode cX6_isMinute 8 = .ok (.if_icmp .ge 7, 3) := by decide +kernel
theorem dX6_isMinute_11 : decode cX6_isMinute 11 = .ok (.iconst 1, 1) := by decide +kernel
theorem dX6_isMinute_12 : decode cX6_isMinute 12 = .ok (.goto 4, 3) := by decide +kernel
theorem dX6_isMinute_15 : decode cX6_isMinute 15 = .ok (.iconst 0, 1) := by decide +kernel
theorem dX6_isMinute_16 : decode cX6_isMinute 16 = .ok (.ireturn, 1) := by decide +kernel
theorem dX6_isSkill_0 : decode cX6_isSkill 0 = .ok (.iload_n 0, 1) := by decide +kernel
theorem dX6_isSkill_1 : decode cX6_isSkill 1 = .ok (.ifCond .lt 12, 3) := by decide +kernel
theorem dX6_isSkill_4 : decode cX6_isSkill 4 = .ok (.iload_n 0, 1) := by decide +kernel
theorem dX6_isSkill_5 : decode cX6_isSkill 5 = .ok (.iconst 4, 1) := by decide +kernel
theorem dX6_isSkill_6 : decode cX6_isSkill 6 = .ok (.if_icmp .ge 7, 3) := by decide +kernel
theorem dX6_isSkill_9 : decode cX6_isSkill 9 = .ok (.iconst 1, 1) := by decide +kernel
theorem dX6_isSkill_10 : decode cX6_isSkill 10 = .ok (.goto 4, 3) := by decide +kernel
theorem dX6_isSkill_13 : decode cX6_isSkill 13 = .ok (.iconst 0, 1) := by decide +kernel
theorem dX6_isSkill_14 : decode cX6_isSkill 14 = .ok (.ireturn, 1) := by decide +kernel
theorem dX6_isChair_0 : decode cX6_isChair 0 = .ok (.iload_n 0, 1) := by decide +kernel
theorem dX6_isChair_1 : decode cX6_isChair 1 = .ok (.ifCond .lt 12, 3) := by decide +kernel
theorem dX6_isChair_4 : decode cX6_isChair 4 = .ok (.iload_n 0, 1) := by decide +kernel
theorem dX6_isChair_5 : decode cX6_isChair 5 = .ok (.iconst 4, 1) := by decide +kernel
theorem dX6_isChair_6 : decode cX6_isChair 6 = .ok (.if_icmp .ge 7, 3) := by decide +kernel
theorem dX6_isChair_9 : decode cX6_isChair 9 = .ok (.iconst 1, 1) := by decide +kernel
theorem dX6_isChair_10 : decode cX6_isChair 10 = .ok (.goto 4, 3) := by decide +kernel
theorem dX6_isChair_13 : decode cX6_isChair 13 = .ok (.iconst 0, 1) := by decide +kernel
theorem dX6_isChair_14 : decode cX6_isChair 14 = .ok (.ireturn, 1) := by decide +kernel
theorem dX6_isMember_0 : decode cX6_isMember 0 = .ok (.iload_n 1, 1) := by decide +kernel
theorem dX6_isMember_1 : decode cX6_isMember 1 = .ok (.ifCond .lt 18, 3) := by decide +kernel
theorem dX6_isMember_4 : decode cX6_isMember 4 = .ok (.iload_n 1, 1) := by decide +kernel
theorem dX6_isMember_5 : decode cX6_isMember 5 = .ok (.aload_n 0, 1) := by decide +kernel
theorem dX6_isMember_6 : decode cX6_isMember 6 = .ok (.getfield 10, 3) := by decide +kernel
theorem dX6_isMember_9 : decode cX6_isMember 9 = .ok (.invokevirtual 52, 3) := by decide +kernel
theorem dX6_isMember_12 : decode cX6_isMember 12 = .ok (.if_icmp .ge 7, 3) := by decide +kernel
theorem dX6_isMember_15 : decode cX6_isMember 15 = .ok (.iconst 1, 1) := by decide +kernel
theorem dX6_isMember_16 : decode cX6_isMember 16 = .ok (.goto 4, 3) := by decide +kernel
theorem dX6_isMember_19 : decode cX6_isMember 19 = .ok (.iconst 0, 1) := by decide +kernel
theorem dX6_isMember_20 : decode cX6_isMember 20 = .ok (.ireturn, 1) := by decide +kernel
theorem dX6_requireMinute_0 : decode cX6_requireMinute 0 = .ok (.iload_n 0, 1) := by decide +kernel
theorem dX6_requireMinute_1 : decode cX6_requireMinute 1 = .ok (.invokestatic 46, 3) := by decide +kernel
theorem dX6_requireMinute_4 : decode cX6_requireMinute 4 = .ok (.ifCond .ne 13, 3) := by decide +kernel
theorem dX6_requireMinute_7 : decode cX6_requireMinute 7 = .ok (.new 180, 3) := by decide +kernel
theorem dX6_requireMinute_10 : decode cX6_requireMinute 10 = .ok (.dup, 1) := by decide +kernel
theorem dX6_requireMinute_11 : decode cX6_requireMinute 11 = .ok (.ldc 238, 2) := by decide +kernel
theorem dX6_requireMinute_13 : decode cX6_requireMinute 13 = .ok (.invokespecial 184, 3) := by decide +kernel
theorem dX6_requireMinute_16 : decode cX6_requireMinute 16 = .ok (.athrow, 1) := by decide +kernel
theorem dX6_requireMinute_17 : decode cX6_requireMinute 17 = .ok (.return_, 1) := by decide +kernel
theorem dX6_requireStepMinutes_0 : decode cX6_requireStepMinutes 0 = .ok (.iload_n 0, 1) := by decide +kernel
theorem dX6_requireStepMinutes_1 : decode cX6_requireStepMinutes 1 = .ok (.iconst 1, 1) := by decide +kernel
theorem dX6_requireStepMinutes_2 : decode cX6_requireStepMinutes 2 = .ok (.if_icmp .lt 10, 3) := by decide +kernel
theorem dX6_requireStepMinutes_5 : decode cX6_requireStepMinutes 5 = .ok (.iload_n 0, 1) := by decide +kernel
theorem dX6_requireStepMinutes_6 : decode cX6_requireStepMinutes 6 = .ok (.sipush 200, 3) := by decide +kernel
theorem dX6_requireStepMinutes_9 : decode cX6_requireStepMinutes 9 = .ok (.if_icmp .le 13, 3) := by decide +kernel
theorem dX6_requireStepMinutes_12 : decode cX6_requireStepMinutes 12 = .ok (.new 39, 3) := by decide +kernel
theorem dX6_requireStepMinutes_15 : decode cX6_requireStepMinutes 15 = .ok (.dup, 1) := by decide +kernel
theorem dX6_requireStepMinutes_16 : decode cX6_requireStepMinutes 16 = .ok (.ldc 230, 2) := by decide +kernel
theorem dX6_requireStepMinutes_18 : decode cX6_requireStepMinutes 18 = .ok (.invokespecial 43, 3) := by decide +kernel
theorem dX6_requireStepMinutes_21 : decode cX6_requireStepMinutes 21 = .ok (.athrow, 1) := by decide +kernel
theorem dX6_requireStepMinutes_22 : decode cX6_requireStepMinutes 22 = .ok (.return_, 1) := by decide +kernel
theorem dX6_requireService_0 : decode cX6_requireService 0 = .ok (.iload_n 1, 1) := by decide +kernel
theorem dX6_requireService_1 : decode cX6_requireService 1 = .ok (.ifCond .lt 14, 3) := by decide +kernel
theorem dX6_requireService_4 : decode cX6_requireService 4 = .ok (.iload_n 1, 1) := by decide +kernel
theorem dX6_requireService_5 : decode cX6_requireService 5 = .ok (.aload_n 0, 1) := by decide +kernel
theorem dX6_requireService_6 : decode cX6_requireService 6 = .ok (.getfield 16, 3) := by decide +kernel
theorem dX6_requireService_9 : decode cX6_requireService 9 = .ok (.invokevirtual 52, 3) := by decide +kernel
theorem dX6_requireService_12 : decode cX6_requireService 12 = .ok (.if_icmp .lt 13, 3) := by decide +kernel
theorem dX6_requireService_15 : decode cX6_requireService 15 = .ok (.new 180, 3) := by decide +kernel
theorem dX6_requireService_18 : decode cX6_requireService 18 = .ok (.dup, 1) := by decide +kernel
theorem dX6_requireService_19 : decode cX6_requireService 19 = .ok (.ldc 240, 2) := by decide +kernel
theorem dX6_requireService_21 : decode cX6_requireService 21 = .ok (.invokespecial 184, 3) := by decide +kernel
theorem dX6_requireService_24 : decode cX6_requireService 24 = .ok (.athrow, 1) := by decide +kernel
theorem dX6_requireService_25 : decode cX6_requireService 25 = .ok (.return_, 1) := by decide +kernel
theorem dX6_requireMember_0 : decode cX6_requireMember 0 = .ok (.aload_n 0, 1) := by decide +kernel
theorem dX6_requireMember_1 : decode cX6_requireMember 1 = .ok (.iload_n 1, 1) := by decide +kernel
theorem dX6_requireMember_2 : decode cX6_requireMember 2 = .ok (.invokevirtual 242, 3) := by decide +kernel
theorem dX6_requireMember_5 : decode cX6_requireMember 5 = .ok (.ifCond .ne 13, 3) := by decide +kernel
theorem dX6_requireMember_8 : decode cX6_requireMember 8 = .ok (.new 180, 3) := by decide +kernel
theorem dX6_requireMember_11 : decode cX6_requireMember 11 = .ok (.dup, 1) := by decide +kernel
theorem dX6_requireMember_12 : decode cX6_requireMember 12 = .ok (.ldc 245, 2) := by decide +kernel
theorem dX6_requireMember_14 : decode cX6_requireMember 14 = .ok (.invokespecial 184, 3) := by decide +kernel
theorem dX6_requireMember_17 : decode cX6_requireMember 17 = .ok (.athrow, 1) := by decide +kernel
theorem dX6_requireMember_18 : decode cX6_requireMember 18 = .ok (.return_, 1) := by decide +kernel
theorem dX6_requireVisit_0 : decode cX6_requireVisit 0 = .ok (.iload_n 1, 1) := by decide +kernel
theorem dX6_requireVisit_1 : decode cX6_requireVisit 1 = .ok (.ifCond .lt 14, 3) := by decide +kernel
theorem dX6_requireVisit_4 : decode cX6_requireVisit 4 = .ok (.iload_n 1, 1) := by decide +kernel
theorem dX6_requireVisit_5 : decode cX6_requireVisit 5 = .ok (.aload_n 0, 1) := by decide +kernel
theorem dX6_requireVisit_6 : decode cX6_requireVisit 6 = .ok (.getfield 19, 3) := by decide +kernel
theorem dX6_requireVisit_9 : decode cX6_requireVisit 9 = .ok (.invokevirtual 52, 3) := by decide +kernel
theorem dX6_requireVisit_12 : decode cX6_requireVisit 12 = .ok (.if_icmp .lt 13, 3) := by decide +kernel
theorem dX6_requireVisit_15 : decode cX6_requireVisit 15 = .ok (.new 180, 3) := by decide +kernel
theorem dX6_requireVisit_18 : decode cX6_requireVisit 18 = .ok (.dup, 1) := by decide +kernel
theorem dX6_requireVisit_19 : decode cX6_requireVisit 19 = .ok (.ldc 247, 2) := by decide +kernel
theorem dX6_requireVisit_21 : decode cX6_requireVisit 21 = .ok (.invokespecial 184, 3) := by decide +kernel
theorem dX6_requireVisit_24 : decode cX6_requireVisit 24 = .ok (.athrow, 1) := by decide +kernel
theorem dX6_requireVisit_25 : decode cX6_requireVisit 25 = .ok (.return_, 1) := by decide +kernel
theorem dX6_requireUndropped_0 : decode cX6_requireUndropped 0 = .ok (.aload_n 0, 1) := by decide +kernel
theorem dX6_requireUndropped_1 : decode cX6_requireUndropped 1 = .ok (.iload_n 1, 1) := by decide +kernel
theorem dX6_requireUndropped_2 : decode cX6_requireUndropped 2 = .ok (.invokevirtual 195, 3) := by decide +kernel
theorem dX6_requireUndropped_5 : decode cX6_requireUndropped 5 = .ok (.aload_n 0, 1) := by decide +kernel
theorem dX6_requireUndropped_6 : decode cX6_requireUndropped 6 = .ok (.getfield 19, 3) := by decide +kernel
theorem dX6_requireUndropped_9 : decode cX6_requireUndropped 9 = .ok (.iload_n 1, 1) := by decide +kernel
theorem dX6_requireUndropped_10 : decode cX6_requireUndropped 10 = .ok (.invokevirtual 99, 3) := by decide +kernel
theorem dX6_requireUndropped_13 : decode cX6_requireUndropped 13 = .ok (.checkcast 136, 3) := by decide +kernel
theorem dX6_requireUndropped_16 : decode cX6_requireUndropped 16 = .ok (.invokevirtual 249, 3) := by decide +kernel
theorem dX6_requireUndropped_19 : decode cX6_requireUndropped 19 = .ok (.ifCond .eq 13, 3) := by decide +kernel
theorem dX6_requireUndropped_22 : decode cX6_requireUndropped 22 = .ok (.new 180, 3) := by decide +kernel
theorem dX6_requireUndropped_25 : decode cX6_requireUndropped 25 = .ok (.dup, 1) := by decide +kernel
theorem dX6_requireUndropped_26 : decode cX6_requireUndropped 26 = .ok (.ldc 253, 2) := by decide +kernel
theorem dX6_requireUndropped_28 : decode cX6_requireUndropped 28 = .ok (.invokespecial 184, 3) := by decide +kernel
theorem dX6_requireUndropped_31 : decode cX6_requireUndropped 31 = .ok (.athrow, 1) := by decide +kernel
theorem dX6_requireUndropped_32 : decode cX6_requireUndropped 32 = .ok (.return_, 1) := by decide +kernel
theorem dX6_requireRoomForService_0 : decode cX6_requireRoomForService 0 = .ok (.aload_n 0, 1) := by decide +kernel
theorem dX6_requireRoomForService_1 : decode cX6_requireRoomForService 1 = .ok (.getfield 16, 3) := by decide +kernel
theorem dX6_requireRoomForService_4 : decode cX6_requireRoomForService 4 = .ok (.invokevirtual 52, 3) := by decide +kernel
theorem dX6_requireRoomForService_7 : decode cX6_requireRoomForService 7 = .ok (.bipush 8, 2) := by decide +kernel
theorem dX6_requireRoomForService_9 : decode cX6_requireRoomForService 9 = .ok (.if_icmp .lt 13, 3) := by decide +kernel
theorem dX6_requireRoomForService_12 : decode cX6_requireRoomForService 12 = .ok (.new 56, 3) := by decide +kernel
theorem dX6_requireRoomForService_15 : decode cX6_requireRoomForService 15 = .ok (.dup, 1) := by decide +kernel
theorem dX6_requireRoomForService_16 : decode cX6_requireRoomForService 16 = .ok (.ldc 255, 2) := by decide +kernel
theorem dX6_requireRoomForService_18 : decode cX6_requireRoomForService 18 = .ok (.invokespecial 60, 3) := by decide +kernel
theorem dX6_requireRoomForService_21 : decode cX6_requireRoomForService 21 = .ok (.athrow, 1) := by decide +kernel
theorem dX6_requireRoomForService_22 : decode cX6_requireRoomForService 22 = .ok (.return_, 1) := by decide +kernel
theorem dX6_requireRoomForVisit_0 : decode cX6_requireRoomForVisit 0 = .ok (.aload_n 0, 1) := by decide +kernel
theorem dX6_requireRoomForVisit_1 : decode cX6_requireRoomForVisit 1 = .ok (.getfield 19, 3) := by decide +kernel
theorem dX6_requireRoomForVisit_4 : decode cX6_requireRoomForVisit 4 = .ok (.invokevirtual 52, 3) := by decide +kernel
theorem dX6_requireRoomForVisit_7 : decode cX6_requireRoomForVisit 7 = .ok (.bipush 30, 2) := by decide +kernel
theorem dX6_requireRoomForVisit_9 : decode cX6_requireRoomForVisit 9 = .ok (.if_icmp .lt 14, 3) := by decide +kernel
theorem dX6_requireRoomForVisit_12 : decode cX6_requireRoomForVisit 12 = .ok (.new 56, 3) := by decide +kernel
theorem dX6_requireRoomForVisit_15 : decode cX6_requireRoomForVisit 15 = .ok (.dup, 1) := by decide +kernel
theorem dX6_requireRoomForVisit_16 : decode cX6_requireRoomForVisit 16 = .ok (.ldc_w 257, 3) := by decide +kernel
theorem dX6_requireRoomForVisit_19 : decode cX6_requireRoomForVisit 19 = .ok (.invokespecial 60, 3) := by decide +kernel
theorem dX6_requireRoomForVisit_22 : decode cX6_requireRoomForVisit 22 = .ok (.athrow, 1) := by decide +kernel
theorem dX6_requireRoomForVisit_23 : decode cX6_requireRoomForVisit 23 = .ok (.return_, 1) := by decide +kernel
theorem dX6_newService_0 : decode cX6_newService 0 = .ok (.new 87, 3) := by decide +kernel
theorem dX6_newService_3 : decode cX6_newService 3 = .ok (.dup, 1) := by decide +kernel
theorem dX6_newService_4 : decode cX6_newService 4 = .ok (.aload_n 0, 1) := by decide +kernel
theorem dX6_newService_5 : decode cX6_newService 5 = .ok (.getfield 16, 3) := by decide +kernel
theorem dX6_newService_8 : decode cX6_newService 8 = .ok (.invokevirtual 52, 3) := by decide +kernel
theorem dX6_newService_11 : decode cX6_newService 11 = .ok (.invokespecial 259, 3) := by decide +kernel
theorem dX6_newService_14 : decode cX6_newService 14 = .ok (.astore_n 1, 1) := by decide +kernel
theorem dX6_newService_15 : decode cX6_newService 15 = .ok (.aload_n 0, 1) := by decide +kernel
theorem dX6_newService_16 : decode cX6_newService 16 = .ok (.getfield 16, 3) := by decide +kernel
theorem dX6_newService_19 : decode cX6_newService 19 = .ok (.aload_n 1, 1) := by decide +kernel
theorem dX6_newService_20 : decode cX6_newService 20 = .ok (.invokevirtual 66, 3) := by decide +kernel
theorem dX6_newService_23 : decode cX6_newService 23 = .ok (.pop, 1) := by decide +kernel
theorem dX6_newService_24 : decode cX6_newService 24 = .ok (.aload_n 1, 1) := by decide +kernel
theorem dX6_newService_25 : decode cX6_newService 25 = .ok (.areturn, 1) := by decide +kernel
theorem dX6_appendUsualSteps_0 : decode cX6_appendUsualSteps 0 = .ok (.iload_n 1, 1) := by decide +kernel
theorem dX6_appendUsualSteps_1 : decode cX6_appendUsualSteps 1 = .ok (.tableswitch 99 0 2 #[27, 44, 75], 27) := by decide +kernel
theorem dX6_appendUsualSteps_28 : decode cX6_appendUsualSteps 28 = .ok (.aload_n 0, 1) := by decide +kernel
theorem dX6_appendUsualSteps_29 : decode cX6_appendUsualSteps 29 = .ok (.iconst 0, 1) := by decide +kernel
theorem dX6_appendUsualSteps_30 : decode cX6_appendUsualSteps 30 = .ok (.bipush 10, 2) := by decide +kernel
theorem dX6_appendUsualSteps_32 : decode cX6_appendUsualSteps 32 = .ok (.invokevirtual 86, 3) := by decide +kernel
theorem dX6_appendUsualSteps_35 : decode cX6_appendUsualSteps 35 = .ok (.aload_n 0, 1) := by decide +kernel
theorem dX6_appendUsualSteps_36 : decode cX6_appendUsualSteps 36 = .ok (.iconst 1, 1) := by decide +kernel
theorem dX6_appendUsualSteps_37 : decode cX6_appendUsualSteps 37 = .ok (.bipush 30, 2) := by decide +kernel
theorem dX6_appendUsualSteps_39 : decode cX6_appendUsualSteps 39 = .ok (.invokevirtual 86, 3) := by decide +kernel
theorem dX6_appendUsualSteps_42 : decode cX6_appendUsualSteps 42 = .ok (.goto 65, 3) := by decide +kernel
theorem dX6_appendUsualSteps_45 : decode cX6_appendUsualSteps 45 = .ok (.aload_n 0, 1) := by decide +kernel
theorem dX6_appendUsualSteps_46 : decode cX6_appendUsualSteps 46 = .ok (.iconst 2, 1) := by decide +kernel
theorem dX6_appendUsualSteps_47 : decode cX6_appendUsualSteps 47 = .ok (.bipush 40, 2) := by decide +kernel
theorem dX6_appendUsualSteps_49 : decode cX6_appendUsualSteps 49 = .ok (.invokevirtual 86, 3) := by decide +kernel
theorem dX6_appendUsualSteps_52 : decode cX6_appendUsualSteps 52 = .ok (.aload_n 0, 1) := by decide +kernel
theorem dX6_appendUsualSteps_53 : decode cX6_appendUsualSteps 53 = .ok (.iconst (-1), 1) := by decide +kernel
theorem dX6_appendUsualSteps_54 : decode cX6_appendUsualSteps 54 = .ok (.bipush 35, 2) := by decide +kernel
theorem dX6_appendUsualSteps_56 : decode cX6_appendUsualSteps 56 = .ok (.invokevirtual 86, 3) := by decide +kernel
theorem dX6_appendUsualSteps_59 : decode cX6_appendUsualSteps 59 = .ok (.aload_n 0, 1) := by decide +kernel
theorem dX6_appendUsualSteps_60 : decode cX6_appendUsualSteps 60 = .ok (.iconst 0, 1) := by decide +kernel
theorem dX6_appendUsualSteps_61 : decode cX6_appendUsualSteps 61 = .ok (.bipush 10, 2) := by decide +kernel
theorem dX6_appendUsualSteps_63 : decode cX6_appendUsualSteps 63 = .ok (.invokevirtual 86, 3) := by decide +kernel
theorem dX6_appendUsualSteps_66 : decode cX6_appendUsualSteps 66 = .ok (.aload_n 0, 1) := by decide +kernel
theorem dX6_appendUsualSteps_67 : decode cX6_appendUsualSteps 67 = .ok (.iconst 1, 1) := by decide +kernel
theorem dX6_appendUsualSteps_68 : decode cX6_appendUsualSteps 68 = .ok (.bipush 30, 2) := by decide +kernel
theorem dX6_appendUsualSteps_70 : decode cX6_appendUsualSteps 70 = .ok (.invokevirtual 86, 3) := by decide +kernel
theorem dX6_appendUsualSteps_73 : decode cX6_appendUsualSteps 73 = .ok (.goto 34, 3) := by decide +kernel
theorem dX6_appendUsualSteps_76 : decode cX6_appendUsualSteps 76 = .ok (.aload_n 0, 1) := by decide +kernel
theorem dX6_appendUsualSteps_77 : decode cX6_appendUsualSteps 77 = .ok (.iconst 3, 1) := by decide +kernel
theorem dX6_appendUsualSteps_78 : decode cX6_appendUsualSteps 78 = .ok (.bipush 15, 2) := by decide +kernel
theorem dX6_appendUsualSteps_80 : decode cX6_appendUsualSteps 80 = .ok (.invokevirtual 86, 3) := by decide +kernel
theorem dX6_appendUsualSteps_83 : decode cX6_appendUsualSteps 83 = .ok (.aload_n 0, 1) := by decide +kernel
theorem dX6_appendUsualSteps_84 : decode cX6_appendUsualSteps 84 = .ok (.iconst (-1), 1) := by decide +kernel
theorem dX6_appendUsualSteps_85 : decode cX6_appendUsualSteps 85 = .ok (.bipush 20, 2) := by decide +kernel
theorem dX6_appendUsualSteps_87 : decode cX6_appendUsualSteps 87 = .ok (.invokevirtual 86, 3) := by decide +kernel
theorem dX6_appendUsualSteps_90 : decode cX6_appendUsualSteps 90 = .ok (.aload_n 0, 1) := by decide +kernel
theorem dX6_appendUsualSteps_91 : decode cX6_appendUsualSteps 91 = .ok (.iconst 0, 1) := by decide +kernel
theorem dX6_appendUsualSteps_92 : decode cX6_appendUsualSteps 92 = .ok (.bipush 10, 2) := by decide +kernel
theorem dX6_appendUsualSteps_94 : decode cX6_appendUsualSteps 94 = .ok (.invokevirtual 86, 3) := by decide +kernel
theorem dX6_appendUsualSteps_97 : decode cX6_appendUsualSteps 97 = .ok (.goto 10, 3) := by decide +kernel
theorem dX6_appendUsualSteps_100 : decode cX6_appendUsualSteps 100 = .ok (.aload_n 0, 1) := by decide +kernel
theorem dX6_appendUsualSteps_101 : decode cX6_appendUsualSteps 101 = .ok (.iconst 1, 1) := by decide +kernel
theorem dX6_appendUsualSteps_102 : decode cX6_appendUsualSteps 102 = .ok (.bipush 20, 2) := by decide +kernel
theorem dX6_appendUsualSteps_104 : decode cX6_appendUsualSteps 104 = .ok (.invokevirtual 86, 3) := by decide +kernel
theorem dX6_appendUsualSteps_107 : decode cX6_appendUsualSteps 107 = .ok (.return_, 1) := by decide +kernel
theorem dX6_lengthOfAll_0 : decode cX6_lengthOfAll 0 = .ok (.iconst 0, 1) := by decide +kernel
theorem dX6_lengthOfAll_1 : decode cX6_lengthOfAll 1 = .ok (.istore_n 2, 1) := by decide +kernel
theorem dX6_lengthOfAll_2 : decode cX6_lengthOfAll 2 = .ok (.iconst 0, 1) := by decide +kernel
theorem dX6_lengthOfAll_3 : decode cX6_lengthOfAll 3 = .ok (.istore_n 3, 1) := by decide +kernel
theorem dX6_lengthOfAll_4 : decode cX6_lengthOfAll 4 = .ok (.iload_n 3, 1) := by decide +kernel
theorem dX6_lengthOfAll_5 : decode cX6_lengthOfAll 5 = .ok (.aload_n 0, 1) := by decide +kernel
theorem dX6_lengthOfAll_6 : decode cX6_lengthOfAll 6 = .ok (.getfield 16, 3) := by decide +kernel
theorem dX6_lengthOfAll_9 : decode cX6_lengthOfAll 9 = .ok (.invokevirtual 52, 3) := by decide +kernel
theorem dX6_lengthOfAll_12 : decode cX6_lengthOfAll 12 = .ok (.if_icmp .ge 35, 3) := by decide +kernel
theorem dX6_lengthOfAll_15 : decode cX6_lengthOfAll 15 = .ok (.iload_n 1, 1) := by decide +kernel
theorem dX6_lengthOfAll_16 : decode cX6_lengthOfAll 16 = .ok (.iload_n 3, 1) := by decide +kernel
theorem dX6_lengthOfAll_17 : decode cX6_lengthOfAll 17 = .ok (.ishr, 1) := by decide +kernel
theorem dX6_lengthOfAll_18 : decode cX6_lengthOfAll 18 = .ok (.iconst 1, 1) := by decide +kernel
theorem dX6_lengthOfAll_19 : decode cX6_lengthOfAll 19 = .ok (.iand, 1) := by decide +kernel
theorem dX6_lengthOfAll_20 : decode cX6_lengthOfAll 20 = .ok (.iconst 1, 1) := by decide +kernel
theorem dX6_lengthOfAll_21 : decode cX6_lengthOfAll 21 = .ok (.if_icmp .ne 20, 3) := by decide +kernel
theorem dX6_lengthOfAll_24 : decode cX6_lengthOfAll 24 = .ok (.iload_n 2, 1) := by decide +kernel
theorem dX6_lengthOfAll_25 : decode cX6_lengthOfAll 25 = .ok (.aload_n 0, 1) := by decide +kernel
theorem dX6_lengthOfAll_26 : decode cX6_lengthOfAll 26 = .ok (.getfield 16, 3) := by decide +kernel
theorem dX6_lengthOfAll_29 : decode cX6_lengthOfAll 29 = .ok (.iload_n 3, 1) := by decide +kernel
theorem dX6_lengthOfAll_30 : decode cX6_lengthOfAll 30 = .ok (.invokevirtual 99, 3) := by decide +kernel
theorem dX6_lengthOfAll_33 : decode cX6_lengthOfAll 33 = .ok (.checkcast 87, 3) := by decide +kernel
theorem dX6_lengthOfAll_36 : decode cX6_lengthOfAll 36 = .ok (.getfield 186, 3) := by decide +kernel
theorem dX6_lengthOfAll_39 : decode cX6_lengthOfAll 39 = .ok (.iadd, 1) := by decide +kernel
theorem dX6_lengthOfAll_40 : decode cX6_lengthOfAll 40 = .ok (.istore_n 2, 1) := by decide +kernel
theorem dX6_lengthOfAll_41 : decode cX6_lengthOfAll 41 = .ok (.iinc 3 1, 3) := by decide +kernel
theorem dX6_lengthOfAll_44 : decode cX6_lengthOfAll 44 = .ok (.goto (-40), 3) := by decide +kernel
theorem dX6_lengthOfAll_47 : decode cX6_lengthOfAll 47 = .ok (.iload_n 2, 1) := by decide +kernel
theorem dX6_lengthOfAll_48 : decode cX6_lengthOfAll 48 = .ok (.ireturn, 1) := by decide +kernel
theorem dX6_bookFirst_0 : decode cX6_bookFirst 0 = .ok (.aload_n 0, 1) := by decide +kernel
theorem dX6_bookFirst_1 : decode cX6_bookFirst 1 = .ok (.aload_n 1, 1) := by decide +kernel
theorem dX6_bookFirst_2 : decode cX6_bookFirst 2 = .ok (.iload_n 2, 1) := by decide +kernel
theorem dX6_bookFirst_3 : decode cX6_bookFirst 3 = .ok (.iload_n 3, 1) := by decide +kernel
theorem dX6_bookFirst_4 : decode cX6_bookFirst 4 = .ok (.invokevirtual 155, 3) := by decide +kernel
theorem dX6_bookFirst_7 : decode cX6_bookFirst 7 = .ok (.istore 4, 2) := by decide +kernel
theorem dX6_bookFirst_9 : decode cX6_bookFirst 9 = .ok (.iload 4, 2) := by decide +kernel
theorem dX6_bookFirst_11 : decode cX6_bookFirst 11 = .ok (.iconst (-1), 1) := by decide +kernel
theorem dX6_bookFirst_12 : decode cX6_bookFirst 12 = .ok (.if_icmp .ne 14, 3) := by decide +kernel
theorem dX6_bookFirst_15 : decode cX6_bookFirst 15 = .ok (.new 162, 3) := by decide +kernel
theorem dX6_bookFirst_18 : decode cX6_bookFirst 18 = .ok (.dup, 1) := by decide +kernel
theorem dX6_bookFirst_19 : decode cX6_bookFirst 19 = .ok (.ldc_w 261, 3) := by decide +kernel
theorem dX6_bookFirst_22 : decode cX6_bookFirst 22 = .ok (.invokespecial 166, 3) := by decide +kernel
theorem dX6_bookFirst_25 : decode cX6_bookFirst 25 = .ok (.athrow, 1) := by decide +kernel
theorem dX6_bookFirst_26 : decode cX6_bookFirst 26 = .ok (.aload_n 0, 1) := by decide +kernel
theorem dX6_bookFirst_27 : decode cX6_bookFirst 27 = .ok (.aload_n 1, 1) := by decide +kernel
theorem dX6_bookFirst_28 : decode cX6_bookFirst 28 = .ok (.iload_n 2, 1) := by decide +kernel
theorem dX6_bookFirst_29 : decode cX6_bookFirst 29 = .ok (.iload 4, 2) := by decide +kernel
theorem dX6_bookFirst_31 : decode cX6_bookFirst 31 = .ok (.invokevirtual 263, 3) := by decide +kernel
theorem dX6_bookFirst_34 : decode cX6_bookFirst 34 = .ok (.ireturn, 1) := by decide +kernel
theorem dX6_bookAt_0 : decode cX6_bookAt 0 = .ok (.new 136, 3) := by decide +kernel
theorem dX6_bookAt_3 : decode cX6_bookAt 3 = .ok (.dup, 1) := by decide +kernel
theorem dX6_bookAt_4 : decode cX6_bookAt 4 = .ok (.aload_n 0, 1) := by decide +kernel
theorem dX6_bookAt_5 : decode cX6_bookAt 5 = .ok (.getfield 19, 3) := by decide +kernel
theorem dX6_bookAt_8 : decode cX6_bookAt 8 = .ok (.invokevirtual 52, 3) := by decide +kernel
theorem dX6_bookAt_11 : decode cX6_bookAt 11 = .ok (.aload_n 1, 1) := by decide +kernel
theorem dX6_bookAt_12 : decode cX6_bookAt 12 = .ok (.invokespecial 266, 3) := by decide +kernel
theorem dX6_bookAt_15 : decode cX6_bookAt 15 = .ok (.astore 4, 2) := by decide +kernel
theorem dX6_bookAt_17 : decode cX6_bookAt 17 = .ok (.aload_n 0, 1) := by decide +kernel
theorem dX6_bookAt_18 : decode cX6_bookAt 18 = .ok (.getfield 19, 3) := by decide +kernel
theorem dX6_bookAt_21 : decode cX6_bookAt 21 = .ok (.aload 4, 2) := by decide +kernel
theorem dX6_bookAt_23 : decode cX6_bookAt 23 = .ok (.invokevirtual 66, 3) := by decide +kernel
theorem dX6_bookAt_26 : decode cX6_bookAt 26 = .ok (.pop, 1) := by decide +kernel
theorem dX6_bookAt_27 : decode cX6_bookAt 27 = .ok (.aload_n 1, 1) := by decide +kernel
theorem dX6_bookAt_28 : decode cX6_bookAt 28 = .ok (.iconst 1, 1) := by decide +kernel
theorem dX6_bookAt_29 : decode cX6_bookAt 29 = .ok (.putfield 108, 3) := by decide +kernel
theorem dX6_bookAt_32 : decode cX6_bookAt 32 = .ok (.aload_n 0, 1) := by decide +kernel
theorem dX6_bookAt_33 : decode cX6_bookAt 33 = .ok (.aload 4, 2) := by decide +kernel
theorem dX6_bookAt_35 : decode cX6_bookAt 35 = .ok (.iload_n 2, 1) := by decide +kernel
theorem dX6_bookAt_36 : decode cX6_bookAt 36 = .ok (.iload_n 3, 1) := by decide +kernel
theorem dX6_bookAt_37 : decode cX6_bookAt 37 = .ok (.invokevirtual 167, 3) := by decide +kernel
theorem dX6_bookAt_40 : decode cX6_bookAt 40 = .ok (.aload 4, 2) := by decide +kernel
theorem dX6_bookAt_42 : decode cX6_bookAt 42 = .ok (.getfield 269, 3) := by decide +kernel
theorem dX6_bookAt_45 : decode cX6_bookAt 45 = .ok (.ireturn, 1) := by decide +kernel
theorem dX6_putAt_0 : decode cX6_putAt 0 = .ok (.aload_n 0, 1) := by decide +kernel
theorem dX6_putAt_1 : decode cX6_putAt 1 = .ok (.aload_n 1, 1) := by decide +kernel
theorem dX6_putAt_2 : decode cX6_putAt 2 = .ok (.getfield 151, 3) := by decide +kernel
theorem dX6_putAt_5 : decode cX6_putAt 5 = .ok (.iload_n 2, 1) := by decide +kernel
theorem dX6_putAt_6 : decode cX6_putAt 6 = .ok (.iload_n 3, 1) := by decide +kernel
theorem dX6_putAt_7 : decode cX6_putAt 7 = .ok (.invokevirtual 218, 3) := by decide +kernel
theorem dX6_putAt_10 : decode cX6_putAt 10 = .ok (.istore 4, 2) := by decide +kernel
theorem dX6_putAt_12 : decode cX6_putAt 12 = .ok (.aload_n 0, 1) := by decide +kernel
theorem dX6_putAt_13 : decode cX6_putAt 13 = .ok (.aload_n 1, 1) := by decide +kernel
theorem dX6_putAt_14 : decode cX6_putAt 14 = .ok (.getfield 151, 3) := by decide +kernel
theorem dX6_putAt_17 : decode cX6_putAt 17 = .ok (.iload_n 3, 1) := by decide +kernel
theorem dX6_putAt_18 : decode cX6_putAt 18 = .ok (.invokevirtual 270, 3) := by decide +kernel
theorem dX6_putAt_21 : decode cX6_putAt 21 = .ok (.istore 5, 2) := by decide +kernel
theorem dX6_putAt_23 : decode cX6_putAt 23 = .ok (.aload_n 0, 1) := by decide +kernel
theorem dX6_putAt_24 : decode cX6_putAt 24 = .ok (.aload_n 1, 1) := by decide +kernel
theorem dX6_putAt_25 : decode cX6_putAt 25 = .ok (.iload 4, 2) := by decide +kernel
theorem dX6_putAt_27 : decode cX6_putAt 27 = .ok (.iload 5, 2) := by decide +kernel
theorem dX6_putAt_29 : decode cX6_putAt 29 = .ok (.iload_n 3, 1) := by decide +kernel
theorem dX6_putAt_30 : decode cX6_putAt 30 = .ok (.invokevirtual 158, 3) := by decide +kernel
theorem dX6_putAt_33 : decode cX6_putAt 33 = .ok (.return_, 1) := by decide +kernel
theorem dX6_put_0 : decode cX6_put 0 = .ok (.aload_n 1, 1) := by decide +kernel
theorem dX6_put_1 : decode cX6_put 1 = .ok (.iload_n 2, 1) := by decide +kernel
theorem dX6_put_2 : decode cX6_put 2 = .ok (.putfield 138, 3) := by decide +kernel
theorem dX6_put_5 : decode cX6_put 5 = .ok (.aload_n 1, 1) := by decide +kernel
theorem dX6_put_6 : decode cX6_put 6 = .ok (.iload_n 3, 1) := by decide +kernel
theorem dX6_put_7 : decode cX6_put 7 = .ok (.putfield 141, 3) := by decide +kernel
theorem dX6_put_10 : decode cX6_put 10 = .ok (.aload_n 1, 1) := by decide +kernel
theorem dX6_put_11 : decode cX6_put 11 = .ok (.iload 4, 2) := by decide +kernel
theorem dX6_put_13 : decode cX6_put 13 = .ok (.putfield 144, 3) := by decide +kernel
theorem dX6_put_16 : decode cX6_put 16 = .ok (.aload_n 0, 1) := by decide +kernel
theorem dX6_put_17 : decode cX6_put 17 = .ok (.aload_n 1, 1) := by decide +kernel
theorem dX6_put_18 : decode cX6_put 18 = .ok (.aload_n 1, 1) := by decide +kernel
theorem dX6_put_19 : decode cX6_put 19 = .ok (.getfield 269, 3) := by decide +kernel
theorem dX6_put_22 : decode cX6_put 22 = .ok (.invokevirtual 274, 3) := by decide +kernel
theorem dX6_put_25 : decode cX6_put 25 = .ok (.return_, 1) := by decide +kernel
theorem dX6_takeOut_0 : decode cX6_takeOut 0 = .ok (.aload_n 0, 1) := by decide +kernel
theorem dX6_takeOut_1 : decode cX6_takeOut 1 = .ok (.aload_n 1, 1) := by decide +kernel
theorem dX6_takeOut_2 : decode cX6_takeOut 2 = .ok (.iconst (-1), 1) := by decide +kernel
theorem dX6_takeOut_3 : decode cX6_takeOut 3 = .ok (.invokevirtual 274, 3) := by decide +kernel
theorem dX6_takeOut_6 : decode cX6_takeOut 6 = .ok (.aload_n 1, 1) := by decide +kernel
theorem dX6_takeOut_7 : decode cX6_takeOut 7 = .ok (.iconst (-1), 1) := by decide +kernel
theorem dX6_takeOut_8 : decode cX6_takeOut 8 = .ok (.putfield 138, 3) := by decide +kernel
theorem dX6_takeOut_11 : decode cX6_takeOut 11 = .ok (.aload_n 1, 1) := by decide +kernel
theorem dX6_takeOut_12 : decode cX6_takeOut 12 = .ok (.iconst (-1), 1) := by decide +kernel
theorem dX6_takeOut_13 : decode cX6_takeOut 13 = .ok (.putfield 141, 3) := by decide +kernel
theorem dX6_takeOut_16 : decode cX6_takeOut 16 = .ok (.aload_n 1, 1) := by decide +kernel
theorem dX6_takeOut_17 : decode cX6_takeOut 17 = .ok (.iconst (-1), 1) := by decide +kernel
theorem dX6_takeOut_18 : decode cX6_takeOut 18 = .ok (.putfield 144, 3) := by decide +kernel
theorem dX6_takeOut_21 : decode cX6_takeOut 21 = .ok (.return_, 1) := by decide +kernel
theorem dX6_write_0 : decode cX6_write 0 = .ok (.aload_n 0, 1) := by decide +kernel
theorem dX6_write_1 : decode cX6_write 1 = .ok (.aload_n 1, 1) := by decide +kernel
theorem dX6_write_2 : decode cX6_write 2 = .ok (.getfield 138, 3) := by decide +kernel
theorem dX6_write_5 : decode cX6_write 5 = .ok (.invokevirtual 242, 3) := by decide +kernel
theorem dX6_write_8 : decode cX6_write 8 = .ok (.ifCond .eq 13, 3) := by decide +kernel
theorem dX6_write_11 : decode cX6_write 11 = .ok (.aload_n 1, 1) := by decide +kernel
theorem dX6_write_12 : decode cX6_write 12 = .ok (.getfield 141, 3) := by decide +kernel
theorem dX6_write_15 : decode cX6_write 15 = .ok (.invokestatic 209, 3) := by decide +kernel
theorem dX6_write_18 : decode cX6_write 18 = .ok (.ifCond .ne 4, 3) := by decide +kernel
theorem dX6_write_21 : decode cX6_write 21 = .ok (.return_, 1) := by decide +kernel
theorem dX6_write_22 : decode cX6_write 22 = .ok (.aload_n 1, 1) := by decide +kernel
theorem dX6_write_23 : decode cX6_write 23 = .ok (.getfield 151, 3) := by decide +kernel
theorem dX6_write_26 : decode cX6_write 26 = .ok (.astore_n 3, 1) := by decide +kernel
theorem dX6_write_27 : decode cX6_write 27 = .ok (.aload_n 0, 1) := by decide +kernel
theorem dX6_write_28 : decode cX6_write 28 = .ok (.getfield 27, 3) := by decide +kernel
theorem dX6_write_31 : decode cX6_write 31 = .ok (.aload_n 1, 1) := by decide +kernel
theorem dX6_write_32 : decode cX6_write 32 = .ok (.getfield 141, 3) := by decide +kernel
theorem dX6_write_35 : decode cX6_write 35 = .ok (.aaload, 1) := by decide +kernel
theorem dX6_write_36 : decode cX6_write 36 = .ok (.aload_n 1, 1) := by decide +kernel
theorem dX6_write_37 : decode cX6_write 37 = .ok (.getfield 144, 3) := by decide +kernel
theorem dX6_write_40 : decode cX6_write 40 = .ok (.aload_n 1, 1) := by decide +kernel
theorem dX6_write_41 : decode cX6_write 41 = .ok (.getfield 144, 3) := by decide +kernel
theorem dX6_write_44 : decode cX6_write 44 = .ok (.aload_n 3, 1) := by decide +kernel
theorem dX6_write_45 : decode cX6_write 45 = .ok (.getfield 186, 3) := by decide +kernel
theorem dX6_write_48 : decode cX6_write 48 = .ok (.iadd, 1) := by decide +kernel
theorem dX6_write_49 : decode cX6_write 49 = .ok (.iload_n 2, 1) := by decide +kernel
theorem dX6_write_50 : decode cX6_write 50 = .ok (.invokevirtual 278, 3) := by decide +kernel
theorem dX6_write_53 : decode cX6_write 53 = .ok (.aload_n 0, 1) := by decide +kernel
theorem dX6_write_54 : decode cX6_write 54 = .ok (.getfield 10, 3) := by decide +kernel
theorem dX6_write_57 : decode cX6_write 57 = .ok (.aload_n 1, 1) := by decide +kernel
theorem dX6_write_58 : decode cX6_write 58 = .ok (.getfield 138, 3) := by decide +kernel
theorem dX6_write_61 : decode cX6_write 61 = .ok (.invokevirtual 99, 3) := by decide +kernel
theorem dX6_write_64 : decode cX6_write 64 = .ok (.checkcast 61, 3) := by decide +kernel
theorem dX6_write_67 : decode cX6_write 67 = .ok (.getfield 202, 3) := by decide +kernel
theorem dX6_write_70 : decode cX6_write 70 = .ok (.astore 4, 2) := by decide +kernel
theorem dX6_write_72 : decode cX6_write 72 = .ok (.iconst 0, 1) := by decide +kernel
theorem dX6_write_73 : decode cX6_write 73 = .ok (.istore 5, 2) := by decide +kernel
theorem dX6_write_75 : decode cX6_write 75 = .ok (.iload 5, 2) := by decide +kernel
theorem dX6_write_77 : decode cX6_write 77 = .ok (.aload_n 3, 1) := by decide +kernel
theorem dX6_write_78 : decode cX6_write 78 = .ok (.getfield 103, 3) := by decide +kernel
theorem dX6_write_81 : decode cX6_write 81 = .ok (.if_icmp .ge 54, 3) := by decide +kernel
theorem dX6_write_84 : decode cX6_write 84 = .ok (.aload_n 3, 1) := by decide +kernel
theorem dX6_write_85 : decode cX6_write 85 = .ok (.iload 5, 2) := by decide +kernel
theorem dX6_write_87 : decode cX6_write 87 = .ok (.invokevirtual 221, 3) := by decide +kernel
theorem dX6_write_90 : decode cX6_write 90 = .ok (.ifCond .ne 39, 3) := by decide +kernel
theorem dX6_write_93 : decode cX6_write 93 = .ok (.aload_n 1, 1) := by decide +kernel
theorem dX6_write_94 : decode cX6_write 94 = .ok (.getfield 144, 3) := by decide +kernel
theorem dX6_write_97 : decode cX6_write 97 = .ok (.aload_n 3, 1) := by decide +kernel
theorem dX6_write_98 : decode cX6_write 98 = .ok (.iload 5, 2) := by decide +kernel
theorem dX6_write_100 : decode cX6_write 100 = .ok (.invokevirtual 224, 3) := by decide +kernel
theorem dX6_write_103 : decode cX6_write 103 = .ok (.iadd, 1) := by decide +kernel
theorem dX6_write_104 : decode cX6_write 104 = .ok (.istore 6, 2) := by decide +kernel
theorem dX6_write_106 : decode cX6_write 106 = .ok (.aload_n 1, 1) := by decide +kernel
theorem dX6_write_107 : decode cX6_write 107 = .ok (.getfield 144, 3) := by decide +kernel
theorem dX6_write_110 : decode cX6_write 110 = .ok (.aload_n 3, 1) := by decide +kernel
theorem dX6_write_111 : decode cX6_write 111 = .ok (.iload 5, 2) := by decide +kernel
theorem dX6_write_113 : decode cX6_write 113 = .ok (.invokevirtual 227, 3) := by decide +kernel
theorem dX6_write_116 : decode cX6_write 116 = .ok (.iadd, 1) := by decide +kernel
theorem dX6_write_117 : decode cX6_write 117 = .ok (.istore 7, 2) := by decide +kernel
theorem dX6_write_119 : decode cX6_write 119 = .ok (.aload 4, 2) := by decide +kernel
theorem dX6_write_121 : decode cX6_write 121 = .ok (.iload 6, 2) := by decide +kernel
theorem dX6_write_123 : decode cX6_write 123 = .ok (.iload 7, 2) := by decide +kernel
theorem dX6_write_125 : decode cX6_write 125 = .ok (.iload_n 2, 1) := by decide +kernel
theorem dX6_write_126 : decode cX6_write 126 = .ok (.invokevirtual 278, 3) := by decide +kernel
theorem dX6_write_129 : decode cX6_write 129 = .ok (.iinc 5 1, 3) := by decide +kernel
theorem dX6_write_132 : decode cX6_write 132 = .ok (.goto (-57), 3) := by decide +kernel
theorem dX6_write_135 : decode cX6_write 135 = .ok (.return_, 1) := by decide +kernel
theorem dX6_serveWaiting_0 : decode cX6_serveWaiting 0 = .ok (.iconst 0, 1) := by decide +kernel
theorem dX6_serveWaiting_1 : decode cX6_serveWaiting 1 = .ok (.istore_n 1, 1) := by decide +kernel
theorem dX6_serveWaiting_2 : decode cX6_serveWaiting 2 = .ok (.iconst 0, 1) := by decide +kernel
theorem dX6_serveWaiting_3 : decode cX6_serveWaiting 3 = .ok (.istore_n 2, 1) := by decide +kernel
theorem dX6_serveWaiting_4 : decode cX6_serveWaiting 4 = .ok (.aload_n 0, 1) := by decide +kernel
theorem dX6_serveWaiting_5 : decode cX6_serveWaiting 5 = .ok (.getfield 22, 3) := by decide +kernel
theorem dX6_serveWaiting_8 : decode cX6_serveWaiting 8 = .ok (.invokevirtual 52, 3) := by decide +kernel
theorem dX6_serveWaiting_11 : decode cX6_serveWaiting 11 = .ok (.istore_n 3, 1) := by decide +kernel
theorem dX6_serveWaiting_12 : decode cX6_serveWaiting 12 = .ok (.iconst 0, 1) := by decide +kernel
theorem dX6_serveWaiting_13 : decode cX6_serveWaiting 13 = .ok (.istore 4, 2) := by decide +kernel
theorem dX6_serveWaiting_15 : decode cX6_serveWaiting 15 = .ok (.iload 4, 2) := by decide +kernel
theorem dX6_serveWaiting_17 : decode cX6_serveWaiting 17 = .ok (.iload_n 3, 1) := by decide +kernel
theorem dX6_serveWaiting_18 : decode cX6_serveWaiting 18 = .ok (.if_icmp .ge 123, 3) := by decide +kernel
theorem dX6_serveWaiting_21 : decode cX6_serveWaiting 21 = .ok (.iload_n 2, 1) := by decide +kernel
theorem dX6_serveWaiting_22 : decode cX6_serveWaiting 22 = .ok (.aload_n 0, 1) := by decide +kernel
theorem dX6_serveWaiting_23 : decode cX6_serveWaiting 23 = .ok (.getfield 22, 3) := by decide +kernel
theorem dX6_serveWaiting_26 : decode cX6_serveWaiting 26 = .ok (.invokevirtual 52, 3) := by decide +kernel
theorem dX6_serveWaiting_29 : decode cX6_serveWaiting 29 = .ok (.if_icmp .ge 112, 3) := by decide +kernel
theorem dX6_serveWaiting_32 : decode cX6_serveWaiting 32 = .ok (.aload_n 0, 1) := by decide +kernel
theorem dX6_serveWaiting_33 : decode cX6_serveWaiting 33 = .ok (.getfield 22, 3) := by decide +kernel
theorem dX6_serveWaiting_36 : decode cX6_serveWaiting 36 = .ok (.iload_n 2, 1) := by decide +kernel
theorem dX6_serveWaiting_37 : decode cX6_serveWaiting 37 = .ok (.invokevirtual 99, 3) := by decide +kernel
theorem dX6_serveWaiting_40 : decode cX6_serveWaiting 40 = .ok (.checkcast 176, 3) := by decide +kernel
theorem dX6_serveWaiting_43 : decode cX6_serveWaiting 43 = .ok (.astore 5, 2) := by decide +kernel
theorem dX6_serveWaiting_45 : decode cX6_serveWaiting 45 = .ok (.aload_n 0, 1) := by decide +kernel
theorem dX6_serveWaiting_46 : decode cX6_serveWaiting 46 = .ok (.getfield 19, 3) := by decide +kernel
theorem dX6_serveWaiting_49 : decode cX6_serveWaiting 49 = .ok (.invokevirtual 52, 3) := by decide +kernel
theorem dX6_serveWaiting_52 : decode cX6_serveWaiting 52 = .ok (.bipush 30, 2) := by decide +kernel
theorem dX6_serveWaiting_54 : decode cX6_serveWaiting 54 = .ok (.if_icmp .lt 7, 3) := by decide +kernel
theorem dX6_serveWaiting_57 : decode cX6_serveWaiting 57 = .ok (.iconst 1, 1) := by decide +kernel
theorem dX6_serveWaiting_58 : decode cX6_serveWaiting 58 = .ok (.goto 4, 3) := by decide +kernel
theorem dX6_serveWaiting_61 : decode cX6_serveWaiting 61 = .ok (.iconst 0, 1) := by decide +kernel
theorem dX6_serveWaiting_62 : decode cX6_serveWaiting 62 = .ok (.istore 6, 2) := by decide +kernel
theorem dX6_serveWaiting_64 : decode cX6_serveWaiting 64 = .ok (.iload 6, 2) := by decide +kernel
theorem dX6_serveWaiting_66 : decode cX6_serveWaiting 66 = .ok (.ifCond .eq 7, 3) := by decide +kernel
theorem dX6_serveWaiting_69 : decode cX6_serveWaiting 69 = .ok (.iconst (-1), 1) := by decide +kernel
theorem dX6_serveWaiting_70 : decode cX6_serveWaiting 70 = .ok (.goto 15, 3) := by decide +kernel
theorem dX6_serveWaiting_73 : decode cX6_serveWaiting 73 = .ok (.aload_n 0, 1) := by decide +kernel
theorem dX6_serveWaiting_74 : decode cX6_serveWaiting 74 = .ok (.aload 5, 2) := by decide +kernel
theorem dX6_serveWaiting_76 : decode cX6_serveWaiting 76 = .ok (.getfield 185, 3) := by decide +kernel
theorem dX6_serveWaiting_79 : decode cX6_serveWaiting 79 = .ok (.bipush 31, 2) := by decide +kernel
theorem dX6_serveWaiting_81 : decode cX6_serveWaiting 81 = .ok (.iconst 0, 1) := by decide +kernel
theorem dX6_serveWaiting_82 : decode cX6_serveWaiting 82 = .ok (.invokevirtual 155, 3) := by decide +kernel
theorem dX6_serveWaiting_85 : decode cX6_serveWaiting 85 = .ok (.istore 7, 2) := by decide +kernel
theorem dX6_serveWaiting_87 : decode cX6_serveWaiting 87 = .ok (.iload 7, 2) := by decide +kernel
theorem dX6_serveWaiting_89 : decode cX6_serveWaiting 89 = .ok (.iconst (-1), 1) := by decide +kernel
theorem dX6_serveWaiting_90 : decode cX6_serveWaiting 90 = .ok (.if_icmp .eq 13, 3) := by decide +kernel
theorem dX6_serveWaiting_93 : decode cX6_serveWaiting 93 = .ok (.iload 7, 2) := by decide +kernel
theorem dX6_serveWaiting_95 : decode cX6_serveWaiting 95 = .ok (.aload 5, 2) := by decide +kernel
theorem dX6_serveWaiting_97 : decode cX6_serveWaiting 97 = .ok (.getfield 280, 3) := by decide +kernel
theorem dX6_serveWaiting_100 : decode cX6_serveWaiting 100 = .ok (.if_icmp .le 9, 3) := by decide +kernel
theorem dX6_serveWaiting_103 : decode cX6_serveWaiting 103 = .ok (.iinc 2 1, 3) := by decide +kernel
theorem dX6_serveWaiting_106 : decode cX6_serveWaiting 106 = .ok (.goto 29, 3) := by decide +kernel
theorem dX6_serveWaiting_109 : decode cX6_serveWaiting 109 = .ok (.aload_n 0, 1) := by decide +kernel
theorem dX6_serveWaiting_110 : decode cX6_serveWaiting 110 = .ok (.aload 5, 2) := by decide +kernel
theorem dX6_serveWaiting_112 : decode cX6_serveWaiting 112 = .ok (.getfield 185, 3) := by decide +kernel
theorem dX6_serveWaiting_115 : decode cX6_serveWaiting 115 = .ok (.bipush 31, 2) := by decide +kernel
theorem dX6_serveWaiting_117 : decode cX6_serveWaiting 117 = .ok (.iload 7, 2) := by decide +kernel
theorem dX6_serveWaiting_119 : decode cX6_serveWaiting 119 = .ok (.invokevirtual 263, 3) := by decide +kernel
theorem dX6_serveWaiting_122 : decode cX6_serveWaiting 122 = .ok (.pop, 1) := by decide +kernel
theorem dX6_serveWaiting_123 : decode cX6_serveWaiting 123 = .ok (.aload_n 0, 1) := by decide +kernel
theorem dX6_serveWaiting_124 : decode cX6_serveWaiting 124 = .ok (.getfield 22, 3) := by decide +kernel
theorem dX6_serveWaiting_127 : decode cX6_serveWaiting 127 = .ok (.iload_n 2, 1) := by decide +kernel
theorem dX6_serveWaiting_128 : decode cX6_serveWaiting 128 = .ok (.invokevirtual 283, 3) := by decide +kernel
theorem dX6_serveWaiting_131 : decode cX6_serveWaiting 131 = .ok (.pop, 1) := by decide +kernel
theorem dX6_serveWaiting_132 : decode cX6_serveWaiting 132 = .ok (.iinc 1 1, 3) := by decide +kernel
theorem dX6_serveWaiting_135 : decode cX6_serveWaiting 135 = .ok (.iinc 4 1, 3) := by decide +kernel
theorem dX6_serveWaiting_138 : decode cX6_serveWaiting 138 = .ok (.goto (-123), 3) := by decide +kernel
theorem dX6_serveWaiting_141 : decode cX6_serveWaiting 141 = .ok (.iload_n 1, 1) := by decide +kernel
theorem dX6_serveWaiting_142 : decode cX6_serveWaiting 142 = .ok (.ireturn, 1) := by decide +kernel
theorem dX6_firstStart_0 : decode cX6_firstStart 0 = .ok (.aload_n 0, 1) := by decide +kernel
theorem dX6_firstStart_1 : decode cX6_firstStart 1 = .ok (.aload_n 1, 1) := by decide +kernel
theorem dX6_firstStart_2 : decode cX6_firstStart 2 = .ok (.iload_n 3, 1) := by decide +kernel
theorem dX6_firstStart_3 : decode cX6_firstStart 3 = .ok (.invokevirtual 286, 3) := by decide +kernel
theorem dX6_firstStart_6 : decode cX6_firstStart 6 = .ok (.iload_n 3, 1) := by decide +kernel
theorem dX6_firstStart_7 : decode cX6_firstStart 7 = .ok (.istore 4, 2) := by decide +kernel
theorem dX6_firstStart_9 : decode cX6_firstStart 9 = .ok (.iload 4, 2) := by decide +kernel
theorem dX6_firstStart_11 : decode cX6_firstStart 11 = .ok (.aload_n 1, 1) := by decide +kernel
theorem dX6_firstStart_12 : decode cX6_firstStart 12 = .ok (.getfield 186, 3) := by decide +kernel
theorem dX6_firstStart_15 : decode cX6_firstStart 15 = .ok (.iadd, 1) := by decide +kernel
theorem dX6_firstStart_16 : decode cX6_firstStart 16 = .ok (.sipush 600, 3) := by decide +kernel
theorem dX6_firstStart_19 : decode cX6_firstStart 19 = .ok (.if_icmp .gt 35, 3) := by decide +kernel
theorem dX6_firstStart_22 : decode cX6_firstStart 22 = .ok (.aload_n 0, 1) := by decide +kernel
theorem dX6_firstStart_23 : decode cX6_firstStart 23 = .ok (.getfield 35, 3) := by decide +kernel
theorem dX6_firstStart_26 : decode cX6_firstStart 26 = .ok (.iload 4, 2) := by decide +kernel
theorem dX6_firstStart_28 : decode cX6_firstStart 28 = .ok (.invokevirtual 289, 3) := by decide +kernel
theorem dX6_firstStart_31 : decode cX6_firstStart 31 = .ok (.ifCond .eq 17, 3) := by decide +kernel
theorem dX6_firstStart_34 : decode cX6_firstStart 34 = .ok (.aload_n 0, 1) := by decide +kernel
theorem dX6_firstStart_35 : decode cX6_firstStart 35 = .ok (.aload_n 1, 1) := by decide +kernel
theorem dX6_firstStart_36 : decode cX6_firstStart 36 = .ok (.iload_n 2, 1) := by decide +kernel
theorem dX6_firstStart_37 : decode cX6_firstStart 37 = .ok (.iload 4, 2) := by decide +kernel
theorem dX6_firstStart_39 : decode cX6_firstStart 39 = .ok (.invokevirtual 292, 3) := by decide +kernel
theorem dX6_firstStart_42 : decode cX6_firstStart 42 = .ok (.ifCond .eq 6, 3) := by decide +kernel
theorem dX6_firstStart_45 : decode cX6_firstStart 45 = .ok (.iload 4, 2) := by decide +kernel
theorem dX6_firstStart_47 : decode cX6_firstStart 47 = .ok (.ireturn, 1) := by decide +kernel
theorem dX6_firstStart_48 : decode cX6_firstStart 48 = .ok (.iinc 4 1, 3) := by decide +kernel
theorem dX6_firstStart_51 : decode cX6_firstStart 51 = .ok (.goto (-42), 3) := by decide +kernel
theorem dX6_firstStart_54 : decode cX6_firstStart 54 = .ok (.iconst (-1), 1) := by decide +kernel
theorem dX6_firstStart_55 : decode cX6_firstStart 55 = .ok (.ireturn, 1) := by decide +kernel
theorem dX6_gatherCandidates_0 : decode cX6_gatherCandidates 0 = .ok (.aload_n 0, 1) := by decide +kernel
theorem dX6_gatherCandidates_1 : decode cX6_gatherCandidates 1 = .ok (.getfield 35, 3) := by decide +kernel
theorem dX6_gatherCandidates_4 : decode cX6_gatherCandidates 4 = .ok (.invokevirtual 296, 3) := by decide +kernel
theorem dX6_gatherCandidates_7 : decode cX6_gatherCandidates 7 = .ok (.aload_n 0, 1) := by decide +kernel
theorem dX6_gatherCandidates_8 : decode cX6_gatherCandidates 8 = .ok (.getfield 35, 3) := by decide +kernel
theorem dX6_gatherCandidates_11 : decode cX6_gatherCandidates 11 = .ok (.iload_n 2, 1) := by decide +kernel
theorem dX6_gatherCandidates_12 : decode cX6_gatherCandidates 12 = .ok (.invokevirtual 299, 3) := by decide +kernel
theorem dX6_gatherCandidates_15 : decode cX6_gatherCandidates 15 = .ok (.iconst 0, 1) := by decide +kernel
theorem dX6_gatherCandidates_16 : decode cX6_gatherCandidates 16 = .ok (.istore_n 3, 1) := by decide +kernel
theorem dX6_gatherCandidates_17 : decode cX6_gatherCandidates 17 = .ok (.iload_n 3, 1) := by decide +kernel
theorem dX6_gatherCandidates_18 : decode cX6_gatherCandidates 18 = .ok (.aload_n 0, 1) := by decide +kernel
theorem dX6_gatherCandidates_19 : decode cX6_gatherCandidates 19 = .ok (.getfield 10, 3) := by decide +kernel
theorem dX6_gatherCandidates_22 : decode cX6_gatherCandidates 22 = .ok (.invokevirtual 52, 3) := by decide +kernel
theorem dX6_gatherCandidates_25 : decode cX6_gatherCandidates 25 = .ok (.if_icmp .ge 30, 3) := by decide +kernel
theorem dX6_gatherCandidates_28 : decode cX6_gatherCandidates 28 = .ok (.aload_n 0, 1) := by decide +kernel
theorem dX6_gatherCandidates_29 : decode cX6_gatherCandidates 29 = .ok (.getfield 35, 3) := by decide +kernel
theorem dX6_gatherCandidates_32 : decode cX6_gatherCandidates 32 = .ok (.aload_n 0, 1) := by decide +kernel
theorem dX6_gatherCandidates_33 : decode cX6_gatherCandidates 33 = .ok (.getfield 10, 3) := by decide +kernel
theorem dX6_gatherCandidates_36 : decode cX6_gatherCandidates 36 = .ok (.iload_n 3, 1) := by decide +kernel
theorem dX6_gatherCandidates_37 : decode cX6_gatherCandidates 37 = .ok (.invokevirtual 99, 3) := by decide +kernel
theorem dX6_gatherCandidates_40 : decode cX6_gatherCandidates 40 = .ok (.checkcast 61, 3) := by decide +kernel
theorem dX6_gatherCandidates_43 : decode cX6_gatherCandidates 43 = .ok (.getfield 301, 3) := by decide +kernel
theorem dX6_gatherCandidates_46 : decode cX6_gatherCandidates 46 = .ok (.invokevirtual 299, 3) := by decide +kernel
theorem dX6_gatherCandidates_49 : decode cX6_gatherCandidates 49 = .ok (.iinc 3 1, 3) := by decide +kernel
theorem dX6_gatherCandidates_52 : decode cX6_gatherCandidates 52 = .ok (.goto (-35), 3) := by decide +kernel
theorem dX6_gatherCandidates_55 : decode cX6_gatherCandidates 55 = .ok (.iconst 0, 1) := by decide +kernel
theorem dX6_gatherCandidates_56 : decode cX6_gatherCandidates 56 = .ok (.istore_n 3, 1) := by decide +kernel
theorem dX6_gatherCandidates_57 : decode cX6_gatherCandidates 57 = .ok (.iload_n 3, 1) := by decide +kernel
theorem dX6_gatherCandidates_58 : decode cX6_gatherCandidates 58 = .ok (.aload_n 0, 1) := by decide +kernel
theorem dX6_gatherCandidates_59 : decode cX6_gatherCandidates 59 = .ok (.getfield 19, 3) := by decide +kernel
theorem dX6_gatherCandidates_62 : decode cX6_gatherCandidates 62 = .ok (.invokevirtual 52, 3) := by decide +kernel
theorem dX6_gatherCandidates_65 : decode cX6_gatherCandidates 65 = .ok (.if_icmp .ge 58, 3) := by decide +kernel
theorem dX6_gatherCandidates_68 : decode cX6_gatherCandidates 68 = .ok (.aload_n 0, 1) := by decide +kernel
theorem dX6_gatherCandidates_69 : decode cX6_gatherCandidates 69 = .ok (.getfield 19, 3) := by decide +kernel
theorem dX6_gatherCandidates_72 : decode cX6_gatherCandidates 72 = .ok (.iload_n 3, 1) := by decide +kernel
theorem dX6_gatherCandidates_73 : decode cX6_gatherCandidates 73 = .ok (.invokevirtual 99, 3) := by decide +kernel
theorem dX6_gatherCandidates_76 : decode cX6_gatherCandidates 76 = .ok (.checkcast 136, 3) := by decide +kernel
theorem dX6_gatherCandidates_79 : decode cX6_gatherCandidates 79 = .ok (.astore 4, 2) := by decide +kernel
theorem dX6_gatherCandidates_81 : decode cX6_gatherCandidates 81 = .ok (.aload 4, 2) := by decide +kernel
theorem dX6_gatherCandidates_83 : decode cX6_gatherCandidates 83 = .ok (.invokevirtual 249, 3) := by decide +kernel
theorem dX6_gatherCandidates_86 : decode cX6_gatherCandidates 86 = .ok (.ifCond .ne 31, 3) := by decide +kernel
theorem dX6_gatherCandidates_89 : decode cX6_gatherCandidates 89 = .ok (.aload_n 0, 1) := by decide +kernel
theorem dX6_gatherCandidates_90 : decode cX6_gatherCandidates 90 = .ok (.getfield 35, 3) := by decide +kernel
theorem dX6_gatherCandidates_93 : decode cX6_gatherCandidates 93 = .ok (.aload 4, 2) := by decide +kernel
theorem dX6_gatherCandidates_95 : decode cX6_gatherCandidates 95 = .ok (.getfield 144, 3) := by decide +kernel
theorem dX6_gatherCandidates_98 : decode cX6_gatherCandidates 98 = .ok (.aload 4, 2) := by decide +kernel
theorem dX6_gatherCandidates_100 : decode cX6_gatherCandidates 100 = .ok (.getfield 151, 3) := by decide +kernel
theorem dX6_gatherCandidates_103 : decode cX6_gatherCandidates 103 = .ok (.getfield 186, 3) := by decide +kernel
theorem dX6_gatherCandidates_106 : decode cX6_gatherCandidates 106 = .ok (.iadd, 1) := by decide +kernel
theorem dX6_gatherCandidates_107 : decode cX6_gatherCandidates 107 = .ok (.invokevirtual 299, 3) := by decide +kernel
theorem dX6_gatherCandidates_110 : decode cX6_gatherCandidates 110 = .ok (.aload_n 0, 1) := by decide +kernel
theorem dX6_gatherCandidates_111 : decode cX6_gatherCandidates 111 = .ok (.aload 4, 2) := by decide +kernel
theorem dX6_gatherCandidates_113 : decode cX6_gatherCandidates 113 = .ok (.aload_n 1, 1) := by decide +kernel
theorem dX6_gatherCandidates_114 : decode cX6_gatherCandidates 114 = .ok (.invokevirtual 304, 3) := by decide +kernel
theorem dX6_gatherCandidates_117 : decode cX6_gatherCandidates 117 = .ok (.iinc 3 1, 3) := by decide +kernel
theorem dX6_gatherCandidates_120 : decode cX6_gatherCandidates 120 = .ok (.goto (-63), 3) := by decide +kernel
theorem dX6_gatherCandidates_123 : decode cX6_gatherCandidates 123 = .ok (.return_, 1) := by decide +kernel
theorem dX6_addStartsBehindSteps_0 : decode cX6_addStartsBehindSteps 0 = .ok (.iconst 0, 1) := by decide +kernel
theorem dX6_addStartsBehindSteps_1 : decode cX6_addStartsBehindSteps 1 = .ok (.istore_n 3, 1) := by decide +kernel
theorem dX6_addStartsBehindSteps_2 : decode cX6_addStartsBehindSteps 2 = .ok (.iload_n 3, 1) := by decide +kernel
theorem dX6_addStartsBehindSteps_3 : decode cX6_addStartsBehindSteps 3 = .ok (.aload_n 1, 1) := by decide +kernel
theorem dX6_addStartsBehindSteps_4 : decode cX6_addStartsBehindSteps 4 = .ok (.getfield 151, 3) := by decide +kernel
theorem dX6_addStartsBehindSteps_7 : decode cX6_addStartsBehindSteps 7 = .ok (.getfield 103, 3) := by decide +kernel
theorem dX6_addStartsBehindSteps_10 : decode cX6_addStartsBehindSteps 10 = .ok (.if_icmp .ge 78, 3) := by decide +kernel
theorem dX6_addStartsBehindSteps_13 : decode cX6_addStartsBehindSteps 13 = .ok (.aload_n 1, 1) := by decide +kernel
theorem dX6_addStartsBehindSteps_14 : decode cX6_addStartsBehindSteps 14 = .ok (.getfield 144, 3) := by decide +kernel
theorem dX6_addStartsBehindSteps_17 : decode cX6_addStartsBehindSteps 17 = .ok (.aload_n 1, 1) := by decide +kernel
theorem dX6_addStartsBehindSteps_18 : decode cX6_addStartsBehindSteps 18 = .ok (.getfield 151, 3) := by decide +kernel
theorem dX6_addStartsBehindSteps_21 : decode cX6_addStartsBehindSteps 21 = .ok (.iload_n 3, 1) := by decide +kernel
theorem dX6_addStartsBehindSteps_22 : decode cX6_addStartsBehindSteps 22 = .ok (.invokevirtual 227, 3) := by decide +kernel
theorem dX6_addStartsBehindSteps_25 : decode cX6_addStartsBehindSteps 25 = .ok (.iadd, 1) := by decide +kernel
theorem dX6_addStartsBehindSteps_26 : decode cX6_addStartsBehindSteps 26 = .ok (.istore 4, 2) := by decide +kernel
theorem dX6_addStartsBehindSteps_28 : decode cX6_addStartsBehindSteps 28 = .ok (.iconst 0, 1) := by decide +kernel
theorem dX6_addStartsBehindSteps_29 : decode cX6_addStartsBehindSteps 29 = .ok (.istore 5, 2) := by decide +kernel
theorem dX6_addStartsBehindSteps_31 : decode cX6_addStartsBehindSteps 31 = .ok (.iload 5, 2) := by decide +kernel
theorem dX6_addStartsBehindSteps_33 : decode cX6_addStartsBehindSteps 33 = .ok (.aload_n 2, 1) := by decide +kernel
theorem dX6_addStartsBehindSteps_34 : decode cX6_addStartsBehindSteps 34 = .ok (.getfield 103, 3) := by decide +kernel
theorem dX6_addStartsBehindSteps_37 : decode cX6_addStartsBehindSteps 37 = .ok (.if_icmp .ge 45, 3) := by decide +kernel
theorem dX6_addStartsBehindSteps_40 : decode cX6_addStartsBehindSteps 40 = .ok (.aload_n 1, 1) := by decide +kernel
theorem dX6_addStartsBehindSteps_41 : decode cX6_addStartsBehindSteps 41 = .ok (.getfield 151, 3) := by decide +kernel
theorem dX6_addStartsBehindSteps_44 : decode cX6_addStartsBehindSteps 44 = .ok (.iload_n 3, 1) := by decide +kernel
theorem dX6_addStartsBehindSteps_45 : decode cX6_addStartsBehindSteps 45 = .ok (.invokevirtual 221, 3) := by decide +kernel
theorem dX6_addStartsBehindSteps_48 : decode cX6_addStartsBehindSteps 48 = .ok (.ifCond .ne 28, 3) := by decide +kernel
theorem dX6_addStartsBehindSteps_51 : decode cX6_addStartsBehindSteps 51 = .ok (.aload_n 2, 1) := by decide +kernel
theorem dX6_addStartsBehindSteps_52 : decode cX6_addStartsBehindSteps 52 = .ok (.iload 5, 2) := by decide +kernel
theorem dX6_addStartsBehindSteps_54 : decode cX6_addStartsBehindSteps 54 = .ok (.invokevirtual 221, 3) := by decide +kernel
theorem dX6_addStartsBehindSteps_57 : decode cX6_addStartsBehindSteps 57 = .ok (.ifCond .ne 19, 3) := by decide +kernel
theorem dX6_addStartsBehindSteps_60 : decode cX6_addStartsBehindSteps 60 = .ok (.aload_n 0, 1) := by decide +kernel
theorem dX6_addStartsBehindSteps_61 : decode cX6_addStartsBehindSteps 61 = .ok (.getfield 35, 3) := by decide +kernel
theorem dX6_addStartsBehindSteps_64 : decode cX6_addStartsBehindSteps 64 = .ok (.iload 4, 2) := by decide +kernel
theorem dX6_addStartsBehindSteps_66 : decode cX6_addStartsBehindSteps 66 = .ok (.aload_n 2, 1) := by decide +kernel
theorem dX6_addStartsBehindSteps_67 : decode cX6_addStartsBehindSteps 67 = .ok (.iload 5, 2) := by decide +kernel
theorem dX6_addStartsBehindSteps_69 : decode cX6_addStartsBehindSteps 69 = .ok (.invokevirtual 224, 3) := by decide +kernel
theorem dX6_addStartsBehindSteps_72 : decode cX6_addStartsBehindSteps 72 = .ok (.isub, 1) := by decide +kernel
theorem dX6_addStartsBehindSteps_73 : decode cX6_addStartsBehindSteps 73 = .ok (.invokevirtual 299, 3) := by decide +kernel
theorem dX6_addStartsBehindSteps_76 : decode cX6_addStartsBehindSteps 76 = .ok (.iinc 5 1, 3) := by decide +kernel
theorem dX6_addStartsBehindSteps_79 : decode cX6_addStartsBehindSteps 79 = .ok (.goto (-48), 3) := by decide +kernel
theorem dX6_addStartsBehindSteps_82 : decode cX6_addStartsBehindSteps 82 = .ok (.iinc 3 1, 3) := by decide +kernel
theorem dX6_addStartsBehindSteps_85 : decode cX6_addStartsBehindSteps 85 = .ok (.goto (-83), 3) := by decide +kernel
theorem dX6_addStartsBehindSteps_88 : decode cX6_addStartsBehindSteps 88 = .ok (.return_, 1) := by decide +kernel
theorem dX6_firstStartByScan_0 : decode cX6_firstStartByScan 0 = .ok (.iload_n 3, 1) := by decide +kernel
theorem dX6_firstStartByScan_1 : decode cX6_firstStartByScan 1 = .ok (.istore 5, 2) := by decide +kernel
theorem dX6_firstStartByScan_3 : decode cX6_firstStartByScan 3 = .ok (.iload 5, 2) := by decide +kernel
theorem dX6_firstStartByScan_5 : decode cX6_firstStartByScan 5 = .ok (.aload_n 1, 1) := by decide +kernel
theorem dX6_firstStartByScan_6 : decode cX6_firstStartByScan 6 = .ok (.getfield 186, 3) := by decide +kernel
theorem dX6_firstStartByScan_9 : decode cX6_firstStartByScan 9 = .ok (.iadd, 1) := by decide +kernel
theorem dX6_firstStartByScan_10 : decode cX6_firstStartByScan 10 = .ok (.iload 4, 2) := by decide +kernel
theorem dX6_firstStartByScan_12 : decode cX6_firstStartByScan 12 = .ok (.if_icmp .gt 23, 3) := by decide +kernel
theorem dX6_firstStartByScan_15 : decode cX6_firstStartByScan 15 = .ok (.aload_n 0, 1) := by decide +kernel
theorem dX6_firstStartByScan_16 : decode cX6_firstStartByScan 16 = .ok (.aload_n 1, 1) := by decide +kernel
theorem dX6_firstStartByScan_17 : decode cX6_firstStartByScan 17 = .ok (.iload_n 2, 1) := by decide +kernel
theorem dX6_firstStartByScan_18 : decode cX6_firstStartByScan 18 = .ok (.iload 5, 2) := by decide +kernel
theorem dX6_firstStartByScan_20 : decode cX6_firstStartByScan 20 = .ok (.invokevirtual 292, 3) := by decide +kernel
theorem dX6_firstStartByScan_23 : decode cX6_firstStartByScan 23 = .ok (.ifCond .eq 6, 3) := by decide +kernel
theorem dX6_firstStartByScan_26 : decode cX6_firstStartByScan 26 = .ok (.iload 5, 2) := by decide +kernel
theorem dX6_firstStartByScan_28 : decode cX6_firstStartByScan 28 = .ok (.ireturn, 1) := by decide +kernel
theorem dX6_firstStartByScan_29 : decode cX6_firstStartByScan 29 = .ok (.iinc 5 1, 3) := by decide +kernel
theorem dX6_firstStartByScan_32 : decode cX6_firstStartByScan 32 = .ok (.goto (-29), 3) := by decide +kernel
theorem dX6_firstStartByScan_35 : decode cX6_firstStartByScan 35 = .ok (.iconst (-1), 1) := by decide +kernel
theorem dX6_firstStartByScan_36 : decode cX6_firstStartByScan 36 = .ok (.ireturn, 1) := by decide +kernel
theorem dX6_hasRoom_0 : decode cX6_hasRoom 0 = .ok (.aload_n 0, 1) := by decide +kernel
theorem dX6_hasRoom_1 : decode cX6_hasRoom 1 = .ok (.aload_n 1, 1) := by decide +kernel
theorem dX6_hasRoom_2 : decode cX6_hasRoom 2 = .ok (.iload_n 3, 1) := by decide +kernel
theorem dX6_hasRoom_3 : decode cX6_hasRoom 3 = .ok (.invokevirtual 270, 3) := by decide +kernel
theorem dX6_hasRoom_6 : decode cX6_hasRoom 6 = .ok (.iconst (-1), 1) := by decide +kernel
theorem dX6_hasRoom_7 : decode cX6_hasRoom 7 = .ok (.if_icmp .eq 18, 3) := by decide +kernel
theorem dX6_hasRoom_10 : decode cX6_hasRoom 10 = .ok (.aload_n 0, 1) := by decide +kernel
theorem dX6_hasRoom_11 : decode cX6_hasRoom 11 = .ok (.aload_n 1, 1) := by decide +kernel
theorem dX6_hasRoom_12 : decode cX6_hasRoom 12 = .ok (.iload_n 2, 1) := by decide +kernel
theorem dX6_hasRoom_13 : decode cX6_hasRoom 13 = .ok (.iload_n 3, 1) := by decide +kernel
theorem dX6_hasRoom_14 : decode cX6_hasRoom 14 = .ok (.invokevirtual 218, 3) := by decide +kernel
theorem dX6_hasRoom_17 : decode cX6_hasRoom 17 = .ok (.iconst (-1), 1) := by decide +kernel
theorem dX6_hasRoom_18 : decode cX6_hasRoom 18 = .ok (.if_icmp .eq 7, 3) := by decide +kernel
theorem dX6_hasRoom_21 : decode cX6_hasRoom 21 = .ok (.iconst 1, 1) := by decide +kernel
theorem dX6_hasRoom_22 : decode cX6_hasRoom 22 = .ok (.goto 4, 3) := by decide +kernel
theorem dX6_hasRoom_25 : decode cX6_hasRoom 25 = .ok (.iconst 0, 1) := by decide +kernel
theorem dX6_hasRoom_26 : decode cX6_hasRoom 26 = .ok (.ireturn, 1) := by decide +kernel
theorem dX6_memberFor_0 : decode cX6_memberFor 0 = .ok (.iconst (-1), 1) := by decide +kernel
theorem dX6_memberFor_1 : decode cX6_memberFor 1 = .ok (.istore 4, 2) := by decide +kernel
theorem dX6_memberFor_3 : decode cX6_memberFor 3 = .ok (.iconst 0, 1) := by decide +kernel
theorem dX6_memberFor_4 : decode cX6_memberFor 4 = .ok (.istore 5, 2) := by decide +kernel
theorem dX6_memberFor_6 : decode cX6_memberFor 6 = .ok (.iconst 0, 1) := by decide +kernel
theorem dX6_memberFor_7 : decode cX6_memberFor 7 = .ok (.istore 6, 2) := by decide +kernel
theorem dX6_memberFor_9 : decode cX6_memberFor 9 = .ok (.iload 6, 2) := by decide +kernel
theorem dX6_memberFor_11 : decode cX6_memberFor 11 = .ok (.aload_n 0, 1) := by decide +kernel
theorem dX6_memberFor_12 : decode cX6_memberFor 12 = .ok (.getfield 10, 3) := by decide +kernel
theorem dX6_memberFor_15 : decode cX6_memberFor 15 = .ok (.invokevirtual 52, 3) := by decide +kernel
theorem dX6_memberFor_18 : decode cX6_memberFor 18 = .ok (.if_icmp .ge 68, 3) := by decide +kernel
theorem dX6_memberFor_21 : decode cX6_memberFor 21 = .ok (.iload_n 2, 1) := by decide +kernel
theorem dX6_memberFor_22 : decode cX6_memberFor 22 = .ok (.iload 6, 2) := by decide +kernel
theorem dX6_memberFor_24 : decode cX6_memberFor 24 = .ok (.ishr, 1) := by decide +kernel
theorem dX6_memberFor_25 : decode cX6_memberFor 25 = .ok (.iconst 1, 1) := by decide +kernel
theorem dX6_memberFor_26 : decode cX6_memberFor 26 = .ok (.iand, 1) := by decide +kernel
theorem dX6_memberFor_27 : decode cX6_memberFor 27 = .ok (.iconst 1, 1) := by decide +kernel
theorem dX6_memberFor_28 : decode cX6_memberFor 28 = .ok (.if_icmp .ne 52, 3) := by decide +kernel
theorem dX6_memberFor_31 : decode cX6_memberFor 31 = .ok (.aload_n 0, 1) := by decide +kernel
theorem dX6_memberFor_32 : decode cX6_memberFor 32 = .ok (.getfield 10, 3) := by decide +kernel
theorem dX6_memberFor_35 : decode cX6_memberFor 35 = .ok (.iload 6, 2) := by decide +kernel
theorem dX6_memberFor_37 : decode cX6_memberFor 37 = .ok (.invokevirtual 99, 3) := by decide +kernel
theorem dX6_memberFor_40 : decode cX6_memberFor 40 = .ok (.checkcast 61, 3) := by decide +kernel
theorem dX6_memberFor_43 : decode cX6_memberFor 43 = .ok (.aload_n 1, 1) := by decide +kernel
theorem dX6_memberFor_44 : decode cX6_memberFor 44 = .ok (.iload_n 3, 1) := by decide +kernel
theorem dX6_memberFor_45 : decode cX6_memberFor 45 = .ok (.invokevirtual 308, 3) := by decide +kernel
theorem dX6_memberFor_48 : decode cX6_memberFor 48 = .ok (.ifCond .eq 32, 3) := by decide +kernel
theorem dX6_memberFor_51 : decode cX6_memberFor 51 = .ok (.aload_n 0, 1) := by decide +kernel
theorem dX6_memberFor_52 : decode cX6_memberFor 52 = .ok (.iload 6, 2) := by decide +kernel
theorem dX6_memberFor_54 : decode cX6_memberFor 54 = .ok (.invokevirtual 198, 3) := by decide +kernel
theorem dX6_memberFor_57 : decode cX6_memberFor 57 = .ok (.istore 7, 2) := by decide +kernel
theorem dX6_memberFor_59 : decode cX6_memberFor 59 = .ok (.iload 4, 2) := by decide +kernel
theorem dX6_memberFor_61 : decode cX6_memberFor 61 = .ok (.iconst (-1), 1) := by decide +kernel
theorem dX6_memberFor_62 : decode cX6_memberFor 62 = .ok (.if_icmp .eq 10, 3) := by decide +kernel
theorem dX6_memberFor_65 : decode cX6_memberFor 65 = .ok (.iload 7, 2) := by decide +kernel
theorem dX6_memberFor_67 : decode cX6_memberFor 67 = .ok (.iload 5, 2) := by decide +kernel
theorem dX6_memberFor_69 : decode cX6_memberFor 69 = .ok (.if_icmp .ge 11, 3) := by decide +kernel
theorem dX6_memberFor_72 : decode cX6_memberFor 72 = .ok (.iload 6, 2) := by decide +kernel
theorem dX6_memberFor_74 : decode cX6_memberFor 74 = .ok (.istore 4, 2) := by decide +kernel
theorem dX6_memberFor_76 : decode cX6_memberFor 76 = .ok (.iload 7, 2) := by decide +kernel
theorem dX6_memberFor_78 : decode cX6_memberFor 78 = .ok (.istore 5, 2) := by decide +kernel
theorem dX6_memberFor_80 : decode cX6_memberFor 80 = .ok (.iinc 6 1, 3) := by decide +kernel
theorem dX6_memberFor_83 : decode cX6_memberFor 83 = .ok (.goto (-74), 3) := by decide +kernel
theorem dX6_memberFor_86 : decode cX6_memberFor 86 = .ok (.iload 4, 2) := by decide +kernel
theorem dX6_memberFor_88 : decode cX6_memberFor 88 = .ok (.ireturn, 1) := by decide +kernel
theorem dX6_chairFor_0 : decode cX6_chairFor 0 = .ok (.iconst 0, 1) := by decide +kernel
theorem dX6_chairFor_1 : decode cX6_chairFor 1 = .ok (.istore_n 3, 1) := by decide +kernel
theorem dX6_chairFor_2 : decode cX6_chairFor 2 = .ok (.iload_n 3, 1) := by decide +kernel
theorem dX6_chairFor_3 : decode cX6_chairFor 3 = .ok (.iconst 4, 1) := by decide +kernel
theorem dX6_chairFor_4 : decode cX6_chairFor 4 = .ok (.if_icmp .ge 30, 3) := by decide +kernel
theorem dX6_chairFor_7 : decode cX6_chairFor 7 = .ok (.aload_n 0, 1) := by decide +kernel
theorem dX6_chairFor_8 : decode cX6_chairFor 8 = .ok (.getfield 27, 3) := by decide +kernel
theorem dX6_chairFor_11 : decode cX6_chairFor 11 = .ok (.iload_n 3, 1) := by decide +kernel
theorem dX6_chairFor_12 : decode cX6_chairFor 12 = .ok (.aaload, 1) := by decide +kernel
theorem dX6_chairFor_13 : decode cX6_chairFor 13 = .ok (.iload_n 2, 1) := by decide +kernel
theorem dX6_chairFor_14 : decode cX6_chairFor 14 = .ok (.iload_n 2, 1) := by decide +kernel
theorem dX6_chairFor_15 : decode cX6_chairFor 15 = .ok (.aload_n 1, 1) := by decide +kernel
theorem dX6_chairFor_16 : decode cX6_chairFor 16 = .ok (.getfield 186, 3) := by decide +kernel
theorem dX6_chairFor_19 : decode cX6_chairFor 19 = .ok (.iadd, 1) := by decide +kernel
theorem dX6_chairFor_20 : decode cX6_chairFor 20 = .ok (.invokevirtual 312, 3) := by decide +kernel
theorem dX6_chairFor_23 : decode cX6_chairFor 23 = .ok (.ifCond .eq 5, 3) := by decide +kernel
theorem dX6_chairFor_26 : decode cX6_chairFor 26 = .ok (.iload_n 3, 1) := by decide +kernel
theorem dX6_chairFor_27 : decode cX6_chairFor 27 = .ok (.ireturn, 1) := by decide +kernel
theorem dX6_chairFor_28 : decode cX6_chairFor 28 = .ok (.iinc 3 1, 3) := by decide +kernel
theorem dX6_chairFor_31 : decode cX6_chairFor 31 = .ok (.goto (-29), 3) := by decide +kernel
theorem dX6_chairFor_34 : decode cX6_chairFor 34 = .ok (.iconst (-1), 1) := by decide +kernel
theorem dX6_chairFor_35 : decode cX6_chairFor 35 = .ok (.ireturn, 1) := by decide +kernel
theorem dX6_workBookedWith_0 : decode cX6_workBookedWith 0 = .ok (.iconst 0, 1) := by decide +kernel
theorem dX6_workBookedWith_1 : decode cX6_workBookedWith 1 = .ok (.istore_n 2, 1) := by decide +kernel
theorem dX6_workBookedWith_2 : decode cX6_workBookedWith 2 = .ok (.iconst 0, 1) := by decide +kernel
theorem dX6_workBookedWith_3 : decode cX6_workBookedWith 3 = .ok (.istore_n 3, 1) := by decide +kernel
theorem dX6_workBookedWith_4 : decode cX6_workBookedWith 4 = .ok (.iload_n 3, 1) := by decide +kernel
theorem dX6_workBookedWith_5 : decode cX6_workBookedWith 5 = .ok (.aload_n 0, 1) := by decide +kernel
theorem dX6_workBookedWith_6 : decode cX6_workBookedWith 6 = .ok (.getfield 19, 3) := by decide +kernel
theorem dX6_workBookedWith_9 : decode cX6_workBookedWith 9 = .ok (.invokevirtual 52, 3) := by decide +kernel
theorem dX6_workBookedWith_12 : decode cX6_workBookedWith 12 = .ok (.if_icmp .ge 42, 3) := by decide +kernel
theorem dX6_workBookedWith_15 : decode cX6_workBookedWith 15 = .ok (.aload_n 0, 1) := by decide +kernel
theorem dX6_workBookedWith_16 : decode cX6_workBookedWith 16 = .ok (.getfield 19, 3) := by decide +kernel
theorem dX6_workBookedWith_19 : decode cX6_workBookedWith 19 = .ok (.iload_n 3, 1) := by decide +kernel
theorem dX6_workBookedWith_20 : decode cX6_workBookedWith 20 = .ok (.invokevirtual 99, 3) := by decide +kernel
theorem dX6_workBookedWith_23 : decode cX6_workBookedWith 23 = .ok (.checkcast 136, 3) := by decide +kernel
theorem dX6_workBookedWith_26 : decode cX6_workBookedWith 26 = .ok (.astore 4, 2) := by decide +kernel
theorem dX6_workBookedWith_28 : decode cX6_workBookedWith 28 = .ok (.aload 4, 2) := by decide +kernel
theorem dX6_workBookedWith_30 : decode cX6_workBookedWith 30 = .ok (.getfield 138, 3) := by decide +kernel
theorem dX6_workBookedWith_33 : decode cX6_workBookedWith 33 = .ok (.iload_n 1, 1) := by decide +kernel
theorem dX6_workBookedWith_34 : decode cX6_workBookedWith 34 = .ok (.if_icmp .ne 14, 3) := by decide +kernel
theorem dX6_workBookedWith_37 : decode cX6_workBookedWith 37 = .ok (.iload_n 2, 1) := by decide +kernel
theorem dX6_workBookedWith_38 : decode cX6_workBookedWith 38 = .ok (.aload 4, 2) := by decide +kernel
theorem dX6_workBookedWith_40 : decode cX6_workBookedWith 40 = .ok (.getfield 151, 3) := by decide +kernel
theorem dX6_workBookedWith_43 : decode cX6_workBookedWith 43 = .ok (.getfield 189, 3) := by decide +kernel
theorem dX6_workBookedWith_46 : decode cX6_workBookedWith 46 = .ok (.iadd, 1) := by decide +kernel
theorem dX6_workBookedWith_47 : decode cX6_workBookedWith 47 = .ok (.istore_n 2, 1) := by decide +kernel
theorem dX6_workBookedWith_48 : decode cX6_workBookedWith 48 = .ok (.iinc 3 1, 3) := by decide +kernel
theorem dX6_workBookedWith_51 : decode cX6_workBookedWith 51 = .ok (.goto (-47), 3) := by decide +kernel
theorem dX6_workBookedWith_54 : decode cX6_workBookedWith 54 = .ok (.iload_n 2, 1) := by decide +kernel
theorem dX6_workBookedWith_55 : decode cX6_workBookedWith 55 = .ok (.ireturn, 1) := by decide +kernel
theorem dX6_chairsTakenAt_0 : decode cX6_chairsTakenAt 0 = .ok (.iconst 0, 1) := by decide +kernel
theorem dX6_chairsTakenAt_1 : decode cX6_chairsTakenAt 1 = .ok (.istore_n 2, 1) := by decide +kernel
theorem dX6_chairsTakenAt_2 : decode cX6_chairsTakenAt 2 = .ok (.iconst 0, 1) := by decide +kernel
theorem dX6_chairsTakenAt_3 : decode cX6_chairsTakenAt 3 = .ok (.istore_n 3, 1) := by decide +kernel
theorem dX6_chairsTakenAt_4 : decode cX6_chairsTakenAt 4 = .ok (.iload_n 3, 1) := by decide +kernel
theorem dX6_chairsTakenAt_5 : decode cX6_chairsTakenAt 5 = .ok (.iconst 4, 1) := by decide +kernel
theorem dX6_chairsTakenAt_6 : decode cX6_chairsTakenAt 6 = .ok (.if_icmp .ge 26, 3) := by decide +kernel
theorem dX6_chairsTakenAt_9 : decode cX6_chairsTakenAt 9 = .ok (.aload_n 0, 1) := by decide +kernel
theorem dX6_chairsTakenAt_10 : decode cX6_chairsTakenAt 10 = .ok (.getfield 27, 3) := by decide +kernel
theorem dX6_chairsTakenAt_13 : decode cX6_chairsTakenAt 13 = .ok (.iload_n 3, 1) := by decide +kernel
theorem dX6_chairsTakenAt_14 : decode cX6_chairsTakenAt 14 = .ok (.aaload, 1) := by decide +kernel
theorem dX6_chairsTakenAt_15 : decode cX6_chairsTakenAt 15 = .ok (.iload_n 1, 1) := by decide +kernel
theorem dX6_chairsTakenAt_16 : decode cX6_chairsTakenAt 16 = .ok (.invokevirtual 206, 3) := by decide +kernel
theorem dX6_chairsTakenAt_19 : decode cX6_chairsTakenAt 19 = .ok (.iconst (-1), 1) := by decide +kernel
theorem dX6_chairsTakenAt_20 : decode cX6_chairsTakenAt 20 = .ok (.if_icmp .eq 6, 3) := by decide +kernel
theorem dX6_chairsTakenAt_23 : decode cX6_chairsTakenAt 23 = .ok (.iinc 2 1, 3) := by decide +kernel
theorem dX6_chairsTakenAt_26 : decode cX6_chairsTakenAt 26 = .ok (.iinc 3 1, 3) := by decide +kernel
theorem dX6_chairsTakenAt_29 : decode cX6_chairsTakenAt 29 = .ok (.goto (-25), 3) := by decide +kernel
theorem dX6_chairsTakenAt_32 : decode cX6_chairsTakenAt 32 = .ok (.iload_n 2, 1) := by decide +kernel
theorem dX6_chairsTakenAt_33 : decode cX6_chairsTakenAt 33 = .ok (.ireturn, 1) := by decide +kernel
theorem dX7_init_0 : decode cX7_init 0 = .ok (.aload_n 0, 1) := by decide +kernel
theorem dX7_init_1 : decode cX7_init 1 = .ok (.invokespecial 1, 3) := by decide +kernel
theorem dX7_init_4 : decode cX7_init 4 = .ok (.aload_n 0, 1) := by decide +kernel
theorem dX7_init_5 : decode cX7_init 5 = .ok (.iconst 5, 1) := by decide +kernel
theorem dX7_init_6 : decode cX7_init 6 = .ok (.newarray .int, 2) := by decide +kernel
theorem dX7_init_8 : decode cX7_init 8 = .ok (.putfield 7, 3) := by decide +kernel
theorem dX7_init_11 : decode cX7_init 11 = .ok (.aload_n 0, 1) := by decide +kernel
theorem dX7_init_12 : decode cX7_init 12 = .ok (.iconst 5, 1) := by decide +kernel
theorem dX7_init_13 : decode cX7_init 13 = .ok (.newarray .int, 2) := by decide +kernel
theorem dX7_init_15 : decode cX7_init 15 = .ok (.putfield 13, 3) := by decide +kernel
theorem dX7_init_18 : decode cX7_init 18 = .ok (.aload_n 0, 1) := by decide +kernel
theorem dX7_init_19 : decode cX7_init 19 = .ok (.iconst 5, 1) := by decide +kernel
theorem dX7_init_20 : decode cX7_init 20 = .ok (.newarray .int, 2) := by decide +kernel
theorem dX7_init_22 : decode cX7_init 22 = .ok (.putfield 16, 3) := by decide +kernel
theorem dX7_init_25 : decode cX7_init 25 = .ok (.aload_n 0, 1) := by decide +kernel
theorem dX7_init_26 : decode cX7_init 26 = .ok (.bipush 40, 2) := by decide +kernel
theorem dX7_init_28 : decode cX7_init 28 = .ok (.newarray .int, 2) := by decide +kernel
theorem dX7_init_30 : decode cX7_init 30 = .ok (.putfield 19, 3) := by decide +kernel
theorem dX7_init_33 : decode cX7_init 33 = .ok (.aload_n 0, 1) := by decide +kernel
theorem dX7_init_34 : decode cX7_init 34 = .ok (.bipush 40, 2) := by decide +kernel
theorem dX7_init_36 : decode cX7_init 36 = .ok (.newarray .int, 2) := by decide +kernel
theorem dX7_init_38 : decode cX7_init 38 = .ok (.putfield 22, 3) := by decide +kernel
theorem dX7_init_41 : decode cX7_init 41 = .ok (.aload_n 0, 1) := by decide +kernel
theorem dX7_init_42 : decode cX7_init 42 = .ok (.bipush 8, 2) := by decide +kernel
theorem dX7_init_44 : decode cX7_init 44 = .ok (.newarray .int, 2) := by decide +kernel
theorem dX7_init_46 : decode cX7_init 46 = .ok (.putfield 25, 3) := by decide +kernel
theorem dX7_init_49 : decode cX7_init 49 = .ok (.aload_n 0, 1) := by decide +kernel
theorem dX7_init_50 : decode cX7_init 50 = .ok (.bipush 8, 2) := by decide +kernel
theorem dX7_init_52 : decode cX7_init 52 = .ok (.newarray .boolean, 2) := by decide +kernel
theorem dX7_init_54 : decode cX7_init 54 = .ok (.putfield 28, 3) := by decide +kernel
theorem dX7_init_57 : decode cX7_init 57 = .ok (.aload_n 0, 1) := by decide +kernel
theorem dX7_init_58 : decode cX7_init 58 = .ok (.bipush 30, 2) := by decide +kernel
theorem dX7_init_60 : decode cX7_init 60 = .ok (.newarray .int, 2) := by decide +kernel
theorem dX7_init_62 : decode cX7_init 62 = .ok (.putfield 32, 3) := by decide +kernel
theorem dX7_init_65 : decode cX7_init 65 = .ok (.aload_n 0, 1) := by decide +kernel
theorem dX7_init_66 : decode cX7_init 66 = .ok (.bipush 30, 2) := by decide +kernel
theorem dX7_init_68 : decode cX7_init 68 = .ok (.newarray .int, 2) := by decide +kernel
theorem dX7_init_70 : decode cX7_init 70 = .ok (.putfield 35, 3) := by decide +kernel
theorem dX7_init_73 : decode cX7_init 73 = .ok (.aload_n 0, 1) := by decide +kernel
theorem dX7_init_74 : decode cX7_init 74 = .ok (.bipush 30, 2) := by decide +kernel
theorem dX7_init_76 : decode cX7_init 76 = .ok (.newarray .int, 2) := by decide +kernel
theorem dX7_init_78 : decode cX7_init 78 = .ok (.putfield 38, 3) := by decide +kernel
theorem dX7_init_81 : decode cX7_init 81 = .ok (.aload_n 0, 1) := by decide +kernel
theorem dX7_init_82 : decode cX7_init 82 = .ok (.bipush 30, 2) := by decide +kernel
theorem dX7_init_84 : decode cX7_init 84 = .ok (.newarray .int, 2) := by decide +kernel
theorem dX7_init_86 : decode cX7_init 86 = .ok (.putfield 41, 3) := by decide +kernel
theorem dX7_init_89 : decode cX7_init 89 = .ok (.aload_n 0, 1) := by decide +kernel
theorem dX7_init_90 : decode cX7_init 90 = .ok (.sipush 3000, 3) := by decide +kernel
theorem dX7_init_93 : decode cX7_init 93 = .ok (.newarray .int, 2) := by decide +kernel
theorem dX7_init_95 : decode cX7_init 95 = .ok (.putfield 44, 3) := by decide +kernel
theorem dX7_init_98 : decode cX7_init 98 = .ok (.aload_n 0, 1) := by decide +kernel
theorem dX7_init_99 : decode cX7_init 99 = .ok (.sipush 2400, 3) := by decide +kernel
theorem dX7_init_102 : decode cX7_init 102 = .ok (.newarray .int, 2) := by decide +kernel
theorem dX7_init_104 : decode cX7_init 104 = .ok (.putfield 47, 3) := by decide +kernel
theorem dX7_init_107 : decode cX7_init 107 = .ok (.aload_n 0, 1) := by decide +kernel
theorem dX7_init_108 : decode cX7_init 108 = .ok (.bipush 6, 2) := by decide +kernel
theorem dX7_init_110 : decode cX7_init 110 = .ok (.newarray .int, 2) := by decide +kernel
theorem dX7_init_112 : decode cX7_init 112 = .ok (.putfield 50, 3) := by decide +kernel
theorem dX7_init_115 : decode cX7_init 115 = .ok (.aload_n 0, 1) := by decide +kernel
theorem dX7_init_116 : decode cX7_init 116 = .ok (.bipush 6, 2) := by decide +kernel
theorem dX7_init_118 : decode cX7_init 118 = .ok (.newarray .int, 2) := by decide +kernel
theorem dX7_init_120 : decode cX7_init 120 = .ok (.putfield 53, 3) := by decide +kernel
theorem dX7_init_123 : decode cX7_init 123 = .ok (.iconst 0, 1) := by decide +kernel
theorem dX7_init_124 : decode cX7_init 124 = .ok (.istore_n 1, 1) := by decide +kernel
theorem dX7_init_125 : decode cX7_init 125 = .ok (.iload_n 1, 1) := by decide +kernel
theorem dX7_init_126 : decode cX7_init 126 = .ok (.sipush 3000, 3) := by decide +kernel
theorem dX7_init_129 : decode cX7_init 129 = .ok (.if_icmp .ge 16, 3) := by decide +kernel
theorem dX7_init_132 : decode cX7_init 132 = .ok (.aload_n 0, 1) := by decide +kernel
theorem dX7_init_133 : decode cX7_init 133 = .ok (.getfield 44, 3) := by decide +kernel
theorem dX7_init_136 : decode cX7_init 136 = .ok (.iload_n 1, 1) := by decide +kernel
theorem dX7_init_137 : decode cX7_init 137 = .ok (.iconst (-1), 1) := by decide +kernel
theorem dX7_init_138 : decode cX7_init 138 = .ok (.iastore, 1) := by decide +kernel
theorem dX7_init_139 : decode cX7_init 139 = .ok (.iinc 1 1, 3) := by decide +kernel
theorem dX7_init_142 : decode cX7_init 142 = .ok (.goto (-17), 3) := by decide +kernel
theorem dX7_init_145 : decode cX7_init 145 = .ok (.iconst 0, 1) := by decide +kernel
theorem dX7_init_146 : decode cX7_init 146 = .ok (.istore_n 1, 1) := by decide +kernel
theorem dX7_init_147 : decode cX7_init 147 = .ok (.iload_n 1, 1) := by decide +kernel
theorem dX7_init_148 : decode cX7_init 148 = .ok (.sipush 2400, 3) := by decide +kernel
theorem dX7_init_151 : decode cX7_init 151 = .ok (.if_icmp .ge 16, 3) := by decide +kernel
theorem dX7_init_154 : decode cX7_init 154 = .ok (.aload_n 0, 1) := by decide +kernel
theorem dX7_init_155 : decode cX7_init 155 = .ok (.getfield 47, 3) := by decide +kernel
theorem dX7_init_158 : decode cX7_init 158 = .ok (.iload_n 1, 1) := by decide +kernel
theorem dX7_init_159 : decode cX7_init 159 = .ok (.iconst (-1), 1) := by decide +kernel
theorem dX7_init_160 : decode cX7_init 160 = .ok (.iastore, 1) := by decide +kernel
theorem dX7_init_161 : decode cX7_init 161 = .ok (.iinc 1 1, 3) := by decide +kernel
theorem dX7_init_164 : decode cX7_init 164 = .ok (.goto (-17), 3) := by decide +kernel
theorem dX7_init_167 : decode cX7_init 167 = .ok (.return_, 1) := by decide +kernel
theorem dX7_thrown_0 : decode cX7_thrown 0 = .ok (.aload_n 0, 1) := by decide +kernel
theorem dX7_thrown_1 : decode cX7_thrown 1 = .ok (.getfield 56, 3) := by decide +kernel
theorem dX7_thrown_4 : decode cX7_thrown 4 = .ok (.ireturn, 1) := by decide +kernel
theorem dX7_in_0 : decode cX7_in 0 = .ok (.iload_n 0, 1) := by decide +kernel
theorem dX7_in_1 : decode cX7_in 1 = .ok (.iload_n 1, 1) := by decide +kernel
theorem dX7_in_2 : decode cX7_in 2 = .ok (.if_icmp .lt 12, 3) := by decide +kernel
theorem dX7_in_5 : decode cX7_in 5 = .ok (.iload_n 0, 1) := by decide +kernel
theorem dX7_in_6 : decode cX7_in 6 = .ok (.iload_n 2, 1) := by decide +kernel
theorem dX7_in_7 : decode cX7_in 7 = .ok (.if_icmp .gt 7, 3) := by decide +kernel
theorem dX7_in_10 : decode cX7_in 10 = .ok (.iconst 1, 1) := by decide +kernel
theorem dX7_in_11 : decode cX7_in 11 = .ok (.goto 4, 3) := by decide +kernel
theorem dX7_in_14 : decode cX7_in 14 = .ok (.iconst 0, 1) := by decide +kernel
theorem dX7_in_15 : decode cX7_in 15 = .ok (.ireturn, 1) := by decide +kernel
theorem dX7_isFine_0 : decode cX7_isFine 0 = .ok (.aload_n 0, 1) := by decide +kernel
theorem dX7_isFine_1 : decode cX7_isFine 1 = .ok (.iload_n 1, 1) := by decide +kernel
theorem dX7_isFine_2 : decode cX7_isFine 2 = .ok (.putfield 56, 3) := by decide +kernel
theorem dX7_isFine_5 : decode cX7_isFine 5 = .ok (.iload_n 1, 1) := by decide +kernel
theorem dX7_isFine_6 : decode cX7_isFine 6 = .ok (.ifCond .ne 7, 3) := by decide +kernel
theorem dX7_isFine_9 : decode cX7_isFine 9 = .ok (.iconst 1, 1) := by decide +kernel
theorem dX7_isFine_10 : decode cX7_isFine 10 = .ok (.goto 4, 3) := by decide +kernel
theorem dX7_isFine_13 : decode cX7_isFine 13 = .ok (.iconst 0, 1) := by decide +kernel
theorem dX7_isFine_14 : decode cX7_isFine 14 = .ok (.ireturn, 1) := by decide +kernel
theorem dX7_isService_0 : decode cX7_isService 0 = .ok (.iload_n 1, 1) := by decide +kernel
theorem dX7_isService_1 : decode cX7_isService 1 = .ok (.iconst 0, 1) := by decide +kernel
theorem dX7_isService_2 : decode cX7_isService 2 = .ok (.aload_n 0, 1) := by decide +kernel
theorem dX7_isService_3 : decode cX7_isService 3 = .ok (.getfield 60, 3) := by decide +kernel
theorem dX7_isService_6 : decode cX7_isService 6 = .ok (.iconst 1, 1) := by decide +kernel
theorem dX7_isService_7 : decode cX7_isService 7 = .ok (.isub, 1) := by decide +kernel
theorem dX7_isService_8 : decode cX7_isService 8 = .ok (.invokestatic 63, 3) := by decide +kernel
theorem dX7_isService_11 : decode cX7_isService 11 = .ok (.ireturn, 1) := by decide +kernel
theorem dX7_isStaff_0 : decode cX7_isStaff 0 = .ok (.iload_n 1, 1) := by decide +kernel
theorem dX7_isStaff_1 : decode cX7_isStaff 1 = .ok (.iconst 0, 1) := by decide +kernel
theorem dX7_isStaff_2 : decode cX7_isStaff 2 = .ok (.aload_n 0, 1) := by decide +kernel
theorem dX7_isStaff_3 : decode cX7_isStaff 3 = .ok (.getfield 67, 3) := by decide +kernel
theorem dX7_isStaff_6 : decode cX7_isStaff 6 = .ok (.iconst 1, 1) := by decide +kernel
theorem dX7_isStaff_7 : decode cX7_isStaff 7 = .ok (.isub, 1) := by decide +kernel
theorem dX7_isStaff_8 : decode cX7_isStaff 8 = .ok (.invokestatic 63, 3) := by decide +kernel
theorem dX7_isStaff_11 : decode cX7_isStaff 11 = .ok (.ireturn, 1) := by decide +kernel
theorem dX7_isMinute_0 : decode cX7_isMinute 0 = .ok (.iload_n 0, 1) := by decide +kernel
theorem dX7_isMinute_1 : decode cX7_isMinute 1 = .ok (.iconst 0, 1) := by decide +kernel
theorem dX7_isMinute_2 : decode cX7_isMinute 2 = .ok (.sipush 599, 3) := by decide +kernel
theorem dX7_isMinute_5 : decode cX7_isMinute 5 = .ok (.invokestatic 63, 3) := by decide +kernel
theorem dX7_isMinute_8 : decode cX7_isMinute 8 = .ok (.ireturn, 1) := by decide +kernel
theorem dX7_isVisit_0 : decode cX7_isVisit 0 = .ok (.iload_n 1, 1) := by decide +kernel
theorem dX7_isVisit_1 : decode cX7_isVisit 1 = .ok (.iconst 0, 1) := by decide +kernel
theorem dX7_isVisit_2 : decode cX7_isVisit 2 = .ok (.aload_n 0, 1) := by decide +kernel
theorem dX7_isVisit_3 : decode cX7_isVisit 3 = .ok (.getfield 70, 3) := by decide +kernel
theorem dX7_isVisit_6 : decode cX7_isVisit 6 = .ok (.iconst 1, 1) := by decide +kernel
theorem dX7_isVisit_7 : decode cX7_isVisit 7 = .ok (.isub, 1) := by decide +kernel
theorem dX7_isVisit_8 : decode cX7_isVisit 8 = .ok (.invokestatic 63, 3) := by decide +kernel
theorem dX7_isVisit_11 : decode cX7_isVisit 11 = .ok (.ireturn, 1) := by decide +kernel
theorem dX7_isThere_0 : decode cX7_isThere 0 = .ok (.aload_n 0, 1) := by decide +kernel
theorem dX7_isThere_1 : decode cX7_isThere 1 = .ok (.iload_n 1, 1) := by decide +kernel
theorem dX7_isThere_2 : decode cX7_isThere 2 = .ok (.invokevirtual 73, 3) := by decide +kernel
theorem dX7_isThere_5 : decode cX7_isThere 5 = .ok (.ifCond .eq 17, 3) := by decide +kernel
theorem dX7_isThere_8 : decode cX7_isThere 8 = .ok (.aload_n 0, 1) := by decide +kernel
theorem dX7_isThere_9 : decode cX7_isThere 9 = .ok (.getfield 41, 3) := by decide +kernel
theorem dX7_isThere_12 : decode cX7_isThere 12 = .ok (.iload_n 1, 1) := by decide +kernel
theorem dX7_isThere_13 : decode cX7_isThere 13 = .ok (.iaload, 1) := by decide +kernel
theorem dX7_isThere_14 : decode cX7_isThere 14 = .ok (.iconst (-1), 1) := by decide +kernel
theorem dX7_isThere_15 : decode cX7_isThere 15 = .ok (.if_icmp .eq 7, 3) := by decide +kernel
theorem dX7_isThere_18 : decode cX7_isThere 18 = .ok (.iconst 1, 1) := by decide +kernel
theorem dX7_isThere_19 : decode cX7_isThere 19 = .ok (.goto 4, 3) := by decide +kernel
theorem dX7_isThere_22 : decode cX7_isThere 22 = .ok (.iconst 0, 1) := by decide +kernel
theorem dX7_isThere_23 : decode cX7_isThere 23 = .ok (.ireturn, 1) := by decide +kernel
theorem dX7_hire_0 : decode cX7_hire 0 = .ok (.iload_n 1, 1) := by decide +kernel
theorem dX7_hire_1 : decode cX7_hire 1 = .ok (.iconst 1, 1) := by decide +kernel
theorem dX7_hire_2 : decode cX7_hire 2 = .ok (.bipush 15, 2) := by decide +kernel
theorem dX7_hire_4 : decode cX7_hire 4 = .ok (.invokestatic 63, 3) := by decide +kernel
theorem dX7_hire_7 : decode cX7_hire 7 = .ok (.ifCond .eq 30, 3) := by decide +kernel
theorem dX7_hire_10 : decode cX7_hire 10 = .ok (.iload_n 2, 1) := by decide +kernel
theorem dX7_hire_11 : decode cX7_hire 11 = .ok (.iconst 0, 1) := by decide +kernel
theorem dX7_hire_12 : decode cX7_hire 12 = .ok (.sipush 599, 3) := by decide +kernel
theorem dX7_hire_15 : decode cX7_hire 15 = .ok (.invokestatic 63, 3) := by decide +kernel
theorem dX7_hire_18 : decode cX7_hire 18 = .ok (.ifCond .eq 19, 3) := by decide +kernel
theorem dX7_hire_21 : decode cX7_hire 21 = .ok (.iload_n 3, 1) := by decide +kernel
theorem dX7_hire_22 : decode cX7_hire 22 = .ok (.iload_n 2, 1) := by decide +kernel
theorem dX7_hire_23 : decode cX7_hire 23 = .ok (.if_icmp .le 14, 3) := by decide +kernel
theorem dX7_hire_26 : decode cX7_hire 26 = .ok (.iload_n 3, 1) := by decide +kernel
theorem dX7_hire_27 : decode cX7_hire 27 = .ok (.sipush 600, 3) := by decide +kernel
theorem dX7_hire_30 : decode cX7_hire 30 = .ok (.if_icmp .gt 7, 3) := by decide +kernel
theorem dX7_hire_33 : decode cX7_hire 33 = .ok (.iconst 1, 1) := by decide +kernel
theorem dX7_hire_34 : decode cX7_hire 34 = .ok (.goto 4, 3) := by decide +kernel
theorem dX7_hire_37 : decode cX7_hire 37 = .ok (.iconst 0, 1) := by decide +kernel
theorem dX7_hire_38 : decode cX7_hire 38 = .ok (.istore 4, 2) := by decide +kernel
theorem dX7_hire_40 : decode cX7_hire 40 = .ok (.aload_n 0, 1) := by decide +kernel
theorem dX7_hire_41 : decode cX7_hire 41 = .ok (.iload 4, 2) := by decide +kernel
theorem dX7_hire_43 : decode cX7_hire 43 = .ok (.ifCond .ne 7, 3) := by decide +kernel
theorem dX7_hire_46 : decode cX7_hire 46 = .ok (.iconst 1, 1) := by decide +kernel
theorem dX7_hire_47 : decode cX7_hire 47 = .ok (.goto 16, 3) := by decide +kernel
theorem dX7_hire_50 : decode cX7_hire 50 = .ok (.aload_n 0, 1) := by decide +kernel
theorem dX7_hire_51 : decode cX7_hire 51 = .ok (.getfield 67, 3) := by decide +kernel
theorem dX7_hire_54 : decode cX7_hire 54 = .ok (.iconst 5, 1) := by decide +kernel
theorem dX7_hire_55 : decode cX7_hire 55 = .ok (.if_icmp .ne 7, 3) := by decide +kernel
theorem dX7_hire_58 : decode cX7_hire 58 = .ok (.iconst 2, 1) := by decide +kernel
theorem dX7_hire_59 : decode cX7_hire 59 = .ok (.goto 4, 3) := by decide +kernel
theorem dX7_hire_62 : decode cX7_hire 62 = .ok (.iconst 0, 1) := by decide +kernel
theorem dX7_hire_63 : decode cX7_hire 63 = .ok (.invokevirtual 77, 3) := by decide +kernel
theorem dX7_hire_66 : decode cX7_hire 66 = .ok (.ifCond .ne 5, 3) := by decide +kernel
theorem dX7_hire_69 : decode cX7_hire 69 = .ok (.iconst 0, 1) := by decide +kernel
theorem dX7_hire_70 : decode cX7_hire 70 = .ok (.ireturn, 1) := by decide +kernel
theorem dX7_hire_71 : decode cX7_hire 71 = .ok (.aload_n 0, 1) := by decide +kernel
theorem dX7_hire_72 : decode cX7_hire 72 = .ok (.getfield 7, 3) := by decide +kernel
theorem dX7_hire_75 : decode cX7_hire 75 = .ok (.aload_n 0, 1) := by decide +kernel
theorem dX7_hire_76 : decode cX7_hire 76 = .ok (.getfield 67, 3) := by decide +kernel
theorem dX7_hire_79 : decode cX7_hire 79 = .ok (.iload_n 1, 1) := by decide +kernel
theorem dX7_hire_80 : decode cX7_hire 80 = .ok (.iastore, 1) := by decide +kernel
theorem dX7_hire_81 : decode cX7_hire 81 = .ok (.aload_n 0, 1) := by decide +kernel
theorem dX7_hire_82 : decode cX7_hire 82 = .ok (.getfield 13, 3) := by decide +kernel
theorem dX7_hire_85 : decode cX7_hire 85 = .ok (.aload_n 0, 1) := by decide +kernel
theorem dX7_hire_86 : decode cX7_hire 86 = .ok (.getfield 67, 3) := by decide +kernel
theorem dX7_hire_89 : decode cX7_hire 89 = .ok (.iload_n 2, 1) := by decide +kernel
theorem dX7_hire_90 : decode cX7_hire 90 = .ok (.iastore, 1) := by decide +kernel
theorem dX7_hire_91 : decode cX7_hire 91 = .ok (.aload_n 0, 1) := by decide +kernel
theorem dX7_hire_92 : decode cX7_hire 92 = .ok (.getfield 16, 3) := by decide +kernel
theorem dX7_hire_95 : decode cX7_hire 95 = .ok (.aload_n 0, 1) := by decide +kernel
theorem dX7_hire_96 : decode cX7_hire 96 = .ok (.getfield 67, 3) := by decide +kernel
theorem dX7_hire_99 : decode cX7_hire 99 = .ok (.iload_n 3, 1) := by decide +kernel
theorem dX7_hire_100 : decode cX7_hire 100 = .ok (.iastore, 1) := by decide +kernel
theorem dX7_hire_101 : decode cX7_hire 101 = .ok (.aload_n 0, 1) := by decide +kernel
theorem dX7_hire_102 : decode cX7_hire 102 = .ok (.dup, 1) := by decide +kernel
theorem dX7_hire_103 : decode cX7_hire 103 = .ok (.getfield 67, 3) := by decide +kernel
theorem dX7_hire_106 : decode cX7_hire 106 = .ok (.iconst 1, 1) := by decide +kernel
theorem dX7_hire_107 : decode cX7_hire 107 = .ok (.iadd, 1) := by decide +kernel
theorem dX7_hire_108 : decode cX7_hire 108 = .ok (.putfield 67, 3) := by decide +kernel
theorem dX7_hire_111 : decode cX7_hire 111 = .ok (.aload_n 0, 1) := by decide +kernel
theorem dX7_hire_112 : decode cX7_hire 112 = .ok (.getfield 67, 3) := by decide +kernel
theorem dX7_hire_115 : decode cX7_hire 115 = .ok (.iconst 1, 1) := by decide +kernel
theorem dX7_hire_116 : decode cX7_hire 116 = .ok (.isub, 1) := by decide +kernel
theorem dX7_hire_117 : decode cX7_hire 117 = .ok (.ireturn, 1) := by decide +kernel
theorem dX7_puts_0 : decode cX7_puts 0 = .ok (.aload_n 0, 1) := by decide +kernel
theorem dX7_puts_1 : decode cX7_puts 1 = .ok (.getfield 19, 3) := by decide +kernel
theorem dX7_puts_4 : decode cX7_puts 4 = .ok (.iconst 5, 1) := by decide +kernel
theorem dX7_puts_5 : decode cX7_puts 5 = .ok (.iload_n 1, 1) := by decide +kernel
theorem dX7_puts_6 : decode cX7_puts 6 = .ok (.imul, 1) := by decide +kernel
theorem dX7_puts_7 : decode cX7_puts 7 = .ok (.aload_n 0, 1) := by decide +kernel
theorem dX7_puts_8 : decode cX7_puts 8 = .ok (.getfield 25, 3) := by decide +kernel
theorem dX7_puts_11 : decode cX7_puts 11 = .ok (.iload_n 1, 1) := by decide +kernel
theorem dX7_puts_12 : decode cX7_puts 12 = .ok (.iaload, 1) := by decide +kernel
theorem dX7_puts_13 : decode cX7_puts 13 = .ok (.iadd, 1) := by decide +kernel
theorem dX7_puts_14 : decode cX7_puts 14 = .ok (.iload_n 2, 1) := by decide +kernel
theorem dX7_puts_15 : decode cX7_puts 15 = .ok (.iastore, 1) := by decide +kernel
theorem dX7_puts_16 : decode cX7_puts 16 = .ok (.aload_n 0, 1) := by decide +kernel
theorem dX7_puts_17 : decode cX7_puts 17 = .ok (.getfield 22, 3) := by decide +kernel
theorem dX7_puts_20 : decode cX7_puts 20 = .ok (.iconst 5, 1) := by decide +kernel
theorem dX7_puts_21 : decode cX7_puts 21 = .ok (.iload_n 1, 1) := by decide +kernel
theorem dX7_puts_22 : decode cX7_puts 22 = .ok (.imul, 1) := by decide +kernel
theorem dX7_puts_23 : decode cX7_puts 23 = .ok (.aload_n 0, 1) := by decide +kernel
theorem dX7_puts_24 : decode cX7_puts 24 = .ok (.getfield 25, 3) := by decide +kernel
theorem dX7_puts_27 : decode cX7_puts 27 = .ok (.iload_n 1, 1) := by decide +kernel
theorem dX7_puts_28 : decode cX7_puts 28 = .ok (.iaload, 1) := by decide +kernel
theorem dX7_puts_29 : decode cX7_puts 29 = .ok (.iadd, 1) := by decide +kernel
theorem dX7_puts_30 : decode cX7_puts 30 = .ok (.iload_n 3, 1) := by decide +kernel
theorem dX7_puts_31 : decode cX7_puts 31 = .ok (.iastore, 1) := by decide +kernel
theorem dX7_puts_32 : decode cX7_puts 32 = .ok (.aload_n 0, 1) := by decide +kernel
theorem dX7_puts_33 : decode cX7_puts 33 = .ok (.getfield 25, 3) := by decide +kernel
theorem dX7_puts_36 : decode cX7_puts 36 = .ok (.iload_n 1, 1) := by decide +kernel
theorem dX7_puts_37 : decode cX7_puts 37 = .ok (.dup2, 1) := by decide +kernel
theorem dX7_puts_38 : decode cX7_puts 38 = .ok (.iaload, 1) := by decide +kernel
theorem dX7_puts_39 : decode cX7_puts 39 = .ok (.iconst 1, 1) := by decide +kernel
theorem dX7_puts_40 : decode cX7_puts 40 = .ok (.iadd, 1) := by decide +kernel
theorem dX7_puts_41 : decode cX7_puts 41 = .ok (.iastore, 1) := by decide +kernel
theorem dX7_puts_42 : decode cX7_puts 42 = .ok (.return_, 1) := by decide +kernel
theorem dX7_addService_0 : decode cX7_addService 0 = .ok (.aload_n 0, 1) := by decide +kernel
theorem dX7_addService_1 : decode cX7_addService 1 = .ok (.iload_n 1, 1) := by decide +kernel
theorem dX7_addService_2 : decode cX7_addService 2 = .ok (.iconst 0, 1) := by decide +kernel
theorem dX7_addService_3 : decode cX7_addService 3 = .ok (.iconst 3, 1) := by decide +kernel
theorem dX7_addService_4 : decode cX7_addService 4 = .ok (.invokestatic 63, 3) := by decide +kernel
theorem dX7_addService_7 : decode cX7_addService 7 = .ok (.ifCond .eq 14, 3) := by decide +kernel
theorem dX7_addService_10 : decode cX7_addService 10 = .ok (.iload_n 2, 1) := by decide +kernel
theorem dX7_addService_11 : decode cX7_addService 11 = .ok (.iconst 1, 1) := by decide +kernel
theorem dX7_addService_12 : decode cX7_addService 12 = .ok (.sipush 200, 3) := by decide +kernel
theorem dX7_addService_15 : decode cX7_addService 15 = .ok (.invokestatic 63, 3) := by decide +kernel
theorem dX7_addService_18 : decode cX7_addService 18 = .ok (.ifCond .ne 7, 3) := by decide +kernel
theorem dX7_addService_21 : decode cX7_addService 21 = .ok (.iconst 1, 1) := by decide +kernel
theorem dX7_addService_22 : decode cX7_addService 22 = .ok (.goto 17, 3) := by decide +kernel
theorem dX7_addService_25 : decode cX7_addService 25 = .ok (.aload_n 0, 1) := by decide +kernel
theorem dX7_addService_26 : decode cX7_addService 26 = .ok (.getfield 60, 3) := by decide +kernel
theorem dX7_addService_29 : decode cX7_addService 29 = .ok (.bipush 8, 2) := by decide +kernel
theorem dX7_addService_31 : decode cX7_addService 31 = .ok (.if_icmp .ne 7, 3) := by decide +kernel
theorem dX7_addService_34 : decode cX7_addService 34 = .ok (.iconst 2, 1) := by decide +kernel
theorem dX7_addService_35 : decode cX7_addService 35 = .ok (.goto 4, 3) := by decide +kernel
theorem dX7_addService_38 : decode cX7_addService 38 = .ok (.iconst 0, 1) := by decide +kernel
theorem dX7_addService_39 : decode cX7_addService 39 = .ok (.invokevirtual 77, 3) := by decide +kernel
theorem dX7_addService_42 : decode cX7_addService 42 = .ok (.ifCond .ne 5, 3) := by decide +kernel
theorem dX7_addService_45 : decode cX7_addService 45 = .ok (.iconst 0, 1) := by decide +kernel
theorem dX7_addService_46 : decode cX7_addService 46 = .ok (.ireturn, 1) := by decide +kernel
theorem dX7_addService_47 : decode cX7_addService 47 = .ok (.aload_n 0, 1) := by decide +kernel
theorem dX7_addService_48 : decode cX7_addService 48 = .ok (.aload_n 0, 1) := by decide +kernel
theorem dX7_addService_49 : decode cX7_addService 49 = .ok (.getfield 60, 3) := by decide +kernel
theorem dX7_addService_52 : decode cX7_addService 52 = .ok (.iload_n 1, 1) := by decide +kernel
theorem dX7_addService_53 : decode cX7_addService 53 = .ok (.iload_n 2, 1) := by decide +kernel
theorem dX7_addService_54 : decode cX7_addService 54 = .ok (.invokevirtual 80, 3) := by decide +kernel
theorem dX7_addService_57 : decode cX7_addService 57 = .ok (.aload_n 0, 1) := by decide +kernel
theorem dX7_addService_58 : decode cX7_addService 58 = .ok (.dup, 1) := by decide +kernel
theorem dX7_addService_59 : decode cX7_addService 59 = .ok (.getfield 60, 3) := by decide +kernel
theorem dX7_addService_62 : decode cX7_addService 62 = .ok (.iconst 1, 1) := by decide +kernel
theorem dX7_addService_63 : decode cX7_addService 63 = .ok (.iadd, 1) := by decide +kernel
theorem dX7_addService_64 : decode cX7_addService 64 = .ok (.putfield 60, 3) := by decide +kernel
theorem dX7_addService_67 : decode cX7_addService 67 = .ok (.aload_n 0, 1) := by decide +kernel
theorem dX7_addService_68 : decode cX7_addService 68 = .ok (.getfield 60, 3) := by decide +kernel
theorem dX7_addService_71 : decode cX7_addService 71 = .ok (.iconst 1, 1) := by decide +kernel
theorem dX7_addService_72 : decode cX7_addService 72 = .ok (.isub, 1) := by decide +kernel
theorem dX7_addService_73 : decode cX7_addService 73 = .ok (.ireturn, 1) := by decide +kernel
theorem dX7_addStep_0 : decode cX7_addStep 0 = .ok (.aload_n 0, 1) := by decide +kernel
theorem dX7_addStep_1 : decode cX7_addStep 1 = .ok (.iload_n 1, 1) := by decide +kernel
theorem dX7_addStep_2 : decode cX7_addStep 2 = .ok (.invokevirtual 84, 3) := by decide +kernel
theorem dX7_addStep_5 : decode cX7_addStep 5 = .ok (.ifCond .ne 7, 3) := by decide +kernel
theorem dX7_addStep_8 : decode cX7_addStep 8 = .ok (.iconst 1, 1) := by decide +kernel
theorem dX7_addStep_9 : decode cX7_addStep 9 = .ok (.goto 28, 3) := by decide +kernel
theorem dX7_addStep_12 : decode cX7_addStep 12 = .ok (.iload_n 2, 1) := by decide +kernel
theorem dX7_addStep_13 : decode cX7_addStep 13 = .ok (.iconst (-1), 1) := by decide +kernel
theorem dX7_addStep_14 : decode cX7_addStep 14 = .ok (.iconst 3, 1) := by decide +kernel
theorem dX7_addStep_15 : decode cX7_addStep 15 = .ok (.invokestatic 63, 3) := by decide +kernel
theorem dX7_addStep_18 : decode cX7_addStep 18 = .ok (.ifCond .eq 14, 3) := by decide +kernel
theorem dX7_addStep_21 : decode cX7_addStep 21 = .ok (.iload_n 3, 1) := by decide +kernel
theorem dX7_addStep_22 : decode cX7_addStep 22 = .ok (.iconst 1, 1) := by decide +kernel
theorem dX7_addStep_23 : decode cX7_addStep 23 = .ok (.sipush 200, 3) := by decide +kernel
theorem dX7_addStep_26 : decode cX7_addStep 26 = .ok (.invokestatic 63, 3) := by decide +kernel
theorem dX7_addStep_29 : decode cX7_addStep 29 = .ok (.ifCond .ne 7, 3) := by decide +kernel
theorem dX7_addStep_32 : decode cX7_addStep 32 = .ok (.iconst 2, 1) := by decide +kernel
theorem dX7_addStep_33 : decode cX7_addStep 33 = .ok (.goto 4, 3) := by decide +kernel
theorem dX7_addStep_36 : decode cX7_addStep 36 = .ok (.iconst 0, 1) := by decide +kernel
theorem dX7_addStep_37 : decode cX7_addStep 37 = .ok (.istore 4, 2) := by decide +kernel
theorem dX7_addStep_39 : decode cX7_addStep 39 = .ok (.iload 4, 2) := by decide +kernel
theorem dX7_addStep_41 : decode cX7_addStep 41 = .ok (.ifCond .ne 25, 3) := by decide +kernel
theorem dX7_addStep_44 : decode cX7_addStep 44 = .ok (.aload_n 0, 1) := by decide +kernel
theorem dX7_addStep_45 : decode cX7_addStep 45 = .ok (.getfield 25, 3) := by decide +kernel
theorem dX7_addStep_48 : decode cX7_addStep 48 = .ok (.iload_n 1, 1) := by decide +kernel
theorem dX7_addStep_49 : decode cX7_addStep 49 = .ok (.iaload, 1) := by decide +kernel
theorem dX7_addStep_50 : decode cX7_addStep 50 = .ok (.iconst 5, 1) := by decide +kernel
theorem dX7_addStep_51 : decode cX7_addStep 51 = .ok (.if_icmp .eq 12, 3) := by decide +kernel
theorem dX7_addStep_54 : decode cX7_addStep 54 = .ok (.aload_n 0, 1) := by decide +kernel
theorem dX7_addStep_55 : decode cX7_addStep 55 = .ok (.getfield 28, 3) := by decide +kernel
theorem dX7_addStep_58 : decode cX7_addStep 58 = .ok (.iload_n 1, 1) := by decide +kernel
theorem dX7_addStep_59 : decode cX7_addStep 59 = .ok (.baload, 1) := by decide +kernel
theorem dX7_addStep_60 : decode cX7_addStep 60 = .ok (.ifCond .eq 6, 3) := by decide +kernel
theorem dX7_addStep_63 : decode cX7_addStep 63 = .ok (.iconst 3, 1) := by decide +kernel
theorem dX7_addStep_64 : decode cX7_addStep 64 = .ok (.istore 4, 2) := by decide +kernel
theorem dX7_addStep_66 : decode cX7_addStep 66 = .ok (.aload_n 0, 1) := by decide +kernel
theorem dX7_addStep_67 : decode cX7_addStep 67 = .ok (.iload 4, 2) := by decide +kernel
theorem dX7_addStep_69 : decode cX7_addStep 69 = .ok (.invokevirtual 77, 3) := by decide +kernel
theorem dX7_addStep_72 : decode cX7_addStep 72 = .ok (.ifCond .ne 5, 3) := by decide +kernel
theorem dX7_addStep_75 : decode cX7_addStep 75 = .ok (.iconst 0, 1) := by decide +kernel
theorem dX7_addStep_76 : decode cX7_addStep 76 = .ok (.ireturn, 1) := by decide +kernel
theorem dX7_addStep_77 : decode cX7_addStep 77 = .ok (.aload_n 0, 1) := by decide +kernel
theorem dX7_addStep_78 : decode cX7_addStep 78 = .ok (.iload_n 1, 1) := by decide +kernel
theorem dX7_addStep_79 : decode cX7_addStep 79 = .ok (.iload_n 2, 1) := by decide +kernel
theorem dX7_addStep_80 : decode cX7_addStep 80 = .ok (.iload_n 3, 1) := by decide +kernel
theorem dX7_addStep_81 : decode cX7_addStep 81 = .ok (.invokevirtual 80, 3) := by decide +kernel
theorem dX7_addStep_84 : decode cX7_addStep 84 = .ok (.aload_n 0, 1) := by decide +kernel
theorem dX7_addStep_85 : decode cX7_addStep 85 = .ok (.getfield 25, 3) := by decide +kernel
theorem dX7_addStep_88 : decode cX7_addStep 88 = .ok (.iload_n 1, 1) := by decide +kernel
theorem dX7_addStep_89 : decode cX7_addStep 89 = .ok (.iaload, 1) := by decide +kernel
theorem dX7_addStep_90 : decode cX7_addStep 90 = .ok (.ireturn, 1) := by decide +kernel
theorem dX7_addUsual_0 : decode cX7_addUsual 0 = .ok (.aload_n 0, 1) := by decide +kernel
theorem dX7_addUsual_1 : decode cX7_addUsual 1 = .ok (.iload_n 1, 1) := by decide +kernel
theorem dX7_addUsual_2 : decode cX7_addUsual 2 = .ok (.iconst 0, 1) := by decide +kernel
theorem dX7_addUsual_3 : decode cX7_addUsual 3 = .ok (.iconst 3, 1) := by decide +kernel
theorem dX7_addUsual_4 : decode cX7_addUsual 4 = .ok (.invokestatic 63, 3) := by decide +kernel
theorem dX7_addUsual_7 : decode cX7_addUsual 7 = .ok (.ifCond .ne 7, 3) := by decide +kernel
theorem dX7_addUsual_10 : decode cX7_addUsual 10 = .ok (.iconst 1, 1) := by decide +kernel
theorem dX7_addUsual_11 : decode cX7_addUsual 11 = .ok (.goto 17, 3) := by decide +kernel
theorem dX7_addUsual_14 : decode cX7_addUsual 14 = .ok (.aload_n 0, 1) := by decide +kernel
theorem dX7_addUsual_15 : decode cX7_addUsual 15 = .ok (.getfield 60, 3) := by decide +kernel
theorem dX7_addUsual_18 : decode cX7_addUsual 18 = .ok (.bipush 8, 2) := by decide +kernel
theorem dX7_addUsual_20 : decode cX7_addUsual 20 = .ok (.if_icmp .ne 7, 3) := by decide +kernel
theorem dX7_addUsual_23 : decode cX7_addUsual 23 = .ok (.iconst 2, 1) := by decide +kernel
theorem dX7_addUsual_24 : decode cX7_addUsual 24 = .ok (.goto 4, 3) := by decide +kernel
theorem dX7_addUsual_27 : decode cX7_addUsual 27 = .ok (.iconst 0, 1) := by decide +kernel
theorem dX7_addUsual_28 : decode cX7_addUsual 28 = .ok (.invokevirtual 77, 3) := by decide +kernel
theorem dX7_addUsual_31 : decode cX7_addUsual 31 = .ok (.ifCond .ne 5, 3) := by decide +kernel
theorem dX7_addUsual_34 : decode cX7_addUsual 34 = .ok (.iconst 0, 1) := by decide +kernel
theorem dX7_addUsual_35 : decode cX7_addUsual 35 = .ok (.ireturn, 1) := by decide +kernel
theorem dX7_addUsual_36 : decode cX7_addUsual 36 = .ok (.iload_n 1, 1) := by decide +kernel
theorem dX7_addUsual_37 : decode cX7_addUsual 37 = .ok (.ifCond .ne 28, 3) := by decide +kernel
theorem dX7_addUsual_40 : decode cX7_addUsual 40 = .ok (.aload_n 0, 1) := by decide +kernel
theorem dX7_addUsual_41 : decode cX7_addUsual 41 = .ok (.aload_n 0, 1) := by decide +kernel
theorem dX7_addUsual_42 : decode cX7_addUsual 42 = .ok (.getfield 60, 3) := by decide +kernel
theorem dX7_addUsual_45 : decode cX7_addUsual 45 = .ok (.iconst 0, 1) := by decide +kernel
theorem dX7_addUsual_46 : decode cX7_addUsual 46 = .ok (.bipush 10, 2) := by decide +kernel
theorem dX7_addUsual_48 : decode cX7_addUsual 48 = .ok (.invokevirtual 80, 3) := by decide +kernel
theorem dX7_addUsual_51 : decode cX7_addUsual 51 = .ok (.aload_n 0, 1) := by decide +kernel
theorem dX7_addUsual_52 : decode cX7_addUsual 52 = .ok (.aload_n 0, 1) := by decide +kernel
theorem dX7_addUsual_53 : decode cX7_addUsual 53 = .ok (.getfield 60, 3) := by decide +kernel
theorem dX7_addUsual_56 : decode cX7_addUsual 56 = .ok (.iconst 1, 1) := by decide +kernel
theorem dX7_addUsual_57 : decode cX7_addUsual 57 = .ok (.bipush 30, 2) := by decide +kernel
theorem dX7_addUsual_59 : decode cX7_addUsual 59 = .ok (.invokevirtual 80, 3) := by decide +kernel
theorem dX7_addUsual_62 : decode cX7_addUsual 62 = .ok (.goto 107, 3) := by decide +kernel
theorem dX7_addUsual_65 : decode cX7_addUsual 65 = .ok (.iload_n 1, 1) := by decide +kernel
theorem dX7_addUsual_66 : decode cX7_addUsual 66 = .ok (.iconst 1, 1) := by decide +kernel
theorem dX7_addUsual_67 : decode cX7_addUsual 67 = .ok (.if_icmp .ne 50, 3) := by decide +kernel
theorem dX7_addUsual_70 : decode cX7_addUsual 70 = .ok (.aload_n 0, 1) := by decide +kernel
theorem dX7_addUsual_71 : decode cX7_addUsual 71 = .ok (.aload_n 0, 1) := by decide +kernel
theorem dX7_addUsual_72 : decode cX7_addUsual 72 = .ok (.getfield 60, 3) := by decide +kernel
theorem dX7_addUsual_75 : decode cX7_addUsual 75 = .ok (.iconst 2, 1) := by decide +kernel
theorem dX7_addUsual_76 : decode cX7_addUsual 76 = .ok (.bipush 40, 2) := by decide +kernel
theorem dX7_addUsual_78 : decode cX7_addUsual 78 = .ok (.invokevirtual 80, 3) := by decide +kernel
theorem dX7_addUsual_81 : decode cX7_addUsual 81 = .ok (.aload_n 0, 1) := by decide +kernel
theorem dX7_addUsual_82 : decode cX7_addUsual 82 = .ok (.aload_n 0, 1) := by decide +kernel
theorem dX7_addUsual_83 : decode cX7_addUsual 83 = .ok (.getfield 60, 3) := by decide +kernel
theorem dX7_addUsual_86 : decode cX7_addUsual 86 = .ok (.iconst (-1), 1) := by decide +kernel
theorem dX7_addUsual_87 : decode cX7_addUsual 87 = .ok (.bipush 35, 2) := by decide +kernel
theorem dX7_addUsual_89 : decode cX7_addUsual 89 = .ok (.invokevirtual 80, 3) := by decide +kernel
theorem dX7_addUsual_92 : decode cX7_addUsual 92 = .ok (.aload_n 0, 1) := by decide +kernel
theorem dX7_addUsual_93 : decode cX7_addUsual 93 = .ok (.aload_n 0, 1) := by decide +kernel
theorem dX7_addUsual_94 : decode cX7_addUsual 94 = .ok (.getfield 60, 3) := by decide +kernel
theorem dX7_addUsual_97 : decode cX7_addUsual 97 = .ok (.iconst 0, 1) := by decide +kernel
theorem dX7_addUsual_98 : decode cX7_addUsual 98 = .ok (.bipush 10, 2) := by decide +kernel
theorem dX7_addUsual_100 : decode cX7_addUsual 100 = .ok (.invokevirtual 80, 3) := by decide +kernel
theorem dX7_addUsual_103 : decode cX7_addUsual 103 = .ok (.aload_n 0, 1) := by decide +kernel
theorem dX7_addUsual_104 : decode cX7_addUsual 104 = .ok (.aload_n 0, 1) := by decide +kernel
theorem dX7_addUsual_105 : decode cX7_addUsual 105 = .ok (.getfield 60, 3) := by decide +kernel
theorem dX7_addUsual_108 : decode cX7_addUsual 108 = .ok (.iconst 1, 1) := by decide +kernel
theorem dX7_addUsual_109 : decode cX7_addUsual 109 = .ok (.bipush 30, 2) := by decide +kernel
theorem dX7_addUsual_111 : decode cX7_addUsual 111 = .ok (.invokevirtual 80, 3) := by decide +kernel
theorem dX7_addUsual_114 : decode cX7_addUsual 114 = .ok (.goto 55, 3) := by decide +kernel
theorem dX7_addUsual_117 : decode cX7_addUsual 117 = .ok (.iload_n 1, 1) := by decide +kernel
theorem dX7_addUsual_118 : decode cX7_addUsual 118 = .ok (.iconst 2, 1) := by decide +kernel
theorem dX7_addUsual_119 : decode cX7_addUsual 119 = .ok (.if_icmp .ne 39, 3) := by decide +kernel
theorem dX7_addUsual_122 : decode cX7_addUsual 122 = .ok (.aload_n 0, 1) := by decide +kernel
theorem dX7_addUsual_123 : decode cX7_addUsual 123 = .ok (.aload_n 0, 1) := by decide +kernel
theorem dX7_addUsual_124 : decode cX7_addUsual 124 = .ok (.getfield 60, 3) := by decide +kernel
theorem dX7_addUsual_127 : decode cX7_addUsual 127 = .ok (.iconst 3, 1) := by decide +kernel
theorem dX7_addUsual_128 : decode cX7_addUsual 128 = .ok (.bipush 15, 2) := by decide +kernel
theorem dX7_addUsual_130 : decode cX7_addUsual 130 = .ok (.invokevirtual 80, 3) := by decide +kernel
theorem dX7_addUsual_133 : decode cX7_addUsual 133 = .ok (.aload_n 0, 1) := by decide +kernel
theorem dX7_addUsual_134 : decode cX7_addUsual 134 = .ok (.aload_n 0, 1) := by decide +kernel
theorem dX7_addUsual_135 : decode cX7_addUsual 135 = .ok (.getfield 60, 3) := by decide +kernel
theorem dX7_addUsual_138 : decode cX7_addUsual 138 = .ok (.iconst (-1), 1) := by decide +kernel
theorem dX7_addUsual_139 : decode cX7_addUsual 139 = .ok (.bipush 20, 2) := by decide +kernel
theorem dX7_addUsual_141 : decode cX7_addUsual 141 = .ok (.invokevirtual 80, 3) := by decide +kernel
theorem dX7_addUsual_144 : decode cX7_addUsual 144 = .ok (.aload_n 0, 1) := by decide +kernel
theorem dX7_addUsual_145 : decode cX7_addUsual 145 = .ok (.aload_n 0, 1) := by decide +kernel
theorem dX7_addUsual_146 : decode cX7_addUsual 146 = .ok (.getfield 60, 3) := by decide +kernel
theorem dX7_addUsual_149 : decode cX7_addUsual 149 = .ok (.iconst 0, 1) := by decide +kernel
theorem dX7_addUsual_150 : decode cX7_addUsual 150 = .ok (.bipush 10, 2) := by decide +kernel
theorem dX7_addUsual_152 : decode cX7_addUsual 152 = .ok (.invokevirtual 80, 3) := by decide +kernel
theorem dX7_addUsual_155 : decode cX7_addUsual 155 = .ok (.goto 14, 3) := by decide +kernel
theorem dX7_addUsual_158 : decode cX7_addUsual 158 = .ok (.aload_n 0, 1) := by decide +kernel
theorem dX7_addUsual_159 : decode cX7_addUsual 159 = .ok (.aload_n 0, 1) := by decide +kernel
theorem dX7_addUsual_160 : decode cX7_addUsual 160 = .ok (.getfield 60, 3) := by decide +kernel
theorem dX7_addUsual_163 : decode cX7_addUsual 163 = .ok (.iconst 1, 1) := by decide +kernel
theorem dX7_addUsual_164 : decode cX7_addUsual 164 = .ok (.bipush 20, 2) := by decide +kernel
theorem dX7_addUsual_166 : decode cX7_addUsual 166 = .ok (.invokevirtual 80, 3) := by decide +kernel
theorem dX7_addUsual_169 : decode cX7_addUsual 169 = .ok (.aload_n 0, 1) := by decide +kernel
theorem dX7_addUsual_170 : decode cX7_addUsual 170 = .ok (.dup, 1) := by decide +kernel
theorem dX7_addUsual_171 : decode cX7_addUsual 171 = .ok (.getfield 60, 3) := by decide +kernel
theorem dX7_addUsual_174 : decode cX7_addUsual 174 = .ok (.iconst 1, 1) := by decide +kernel
theorem dX7_addUsual_175 : decode cX7_addUsual 175 = .ok (.iadd, 1) := by decide +kernel
theorem dX7_addUsual_176 : decode cX7_addUsual 176 = .ok (.putfield 60, 3) := by decide +kernel
theorem dX7_addUsual_179 : decode cX7_addUsual 179 = .ok (.aload_n 0, 1) := by decide +kernel
theorem dX7_addUsual_180 : decode cX7_addUsual 180 = .ok (.getfield 60, 3) := by decide +kernel
theorem dX7_addUsual_183 : decode cX7_addUsual 183 = .ok (.iconst 1, 1) := by decide +kernel
theorem dX7_addUsual_184 : decode cX7_addUsual 184 = .ok (.isub, 1) := by decide +kernel
theorem dX7_addUsual_185 : decode cX7_addUsual 185 = .ok (.ireturn, 1) := by decide +kernel
theorem dX7_length_0 : decode cX7_length 0 = .ok (.iconst 0, 1) := by decide +kernel
theorem dX7_length_1 : decode cX7_length 1 = .ok (.istore_n 2, 1) := by decide +kernel
theorem dX7_length_2 : decode cX7_length 2 = .ok (.iconst 0, 1) := by decide +kernel
theorem dX7_length_3 : decode cX7_length 3 = .ok (.istore_n 3, 1) := by decide +kernel
theorem dX7_length_4 : decode cX7_length 4 = .ok (.iload_n 3, 1) := by decide +kernel
theorem dX7_length_5 : decode cX7_length 5 = .ok (.aload_n 0, 1) := by decide +kernel
theorem dX7_length_6 : decode cX7_length 6 = .ok (.getfield 25, 3) := by decide +kernel
theorem dX7_length_9 : decode cX7_length 9 = .ok (.iload_n 1, 1) := by decide +kernel
theorem dX7_length_10 : decode cX7_length 10 = .ok (.iaload, 1) := by decide +kernel
theorem dX7_length_11 : decode cX7_length 11 = .ok (.if_icmp .ge 22, 3) := by decide +kernel
theorem dX7_length_14 : decode cX7_length 14 = .ok (.iload_n 2, 1) := by decide +kernel
theorem dX7_length_15 : decode cX7_length 15 = .ok (.aload_n 0, 1) := by decide +kernel
theorem dX7_length_16 : decode cX7_length 16 = .ok (.getfield 22, 3) := by decide +kernel
theorem dX7_length_19 : decode cX7_length 19 = .ok (.iconst 5, 1) := by decide +kernel
theorem dX7_length_20 : decode cX7_length 20 = .ok (.iload_n 1, 1) := by decide +kernel
theorem dX7_length_21 : decode cX7_length 21 = .ok (.imul, 1) := by decide +kernel
theorem dX7_length_22 : decode cX7_length 22 = .ok (.iload_n 3, 1) := by decide +kernel
theorem dX7_length_23 : decode cX7_length 23 = .ok (.iadd, 1) := by decide +kernel
theorem dX7_length_24 : decode cX7_length 24 = .ok (.iaload, 1) := by decide +kernel
theorem dX7_length_25 : decode cX7_length 25 = .ok (.iadd, 1) := by decide +kernel
theorem dX7_length_26 : decode cX7_length 26 = .ok (.istore_n 2, 1) := by decide +kernel
theorem dX7_length_27 : decode cX7_length 27 = .ok (.iinc 3 1, 3) := by decide +kernel
theorem dX7_length_30 : decode cX7_length 30 = .ok (.goto (-26), 3) := by decide +kernel
theorem dX7_length_33 : decode cX7_length 33 = .ok (.iload_n 2, 1) := by decide +kernel
theorem dX7_length_34 : decode cX7_length 34 = .ok (.ireturn, 1) := by decide +kernel
theorem dX7_work_0 : decode cX7_work 0 = .ok (.iconst 0, 1) := by decide +kernel
theorem dX7_work_1 : decode cX7_work 1 = .ok (.istore_n 2, 1) := by decide +kernel
theorem dX7_work_2 : decode cX7_work 2 = .ok (.iconst 0, 1) := by decide +kernel
theorem dX7_work_3 : decode cX7_work 3 = .ok (.istore_n 3, 1) := by decide +kernel
theorem dX7_work_4 : decode cX7_work 4 = .ok (.iload_n 3, 1) := by decide +kernel
theorem dX7_work_5 : decode cX7_work 5 = .ok (.aload_n 0, 1) := by decide +kernel
theorem dX7_work_6 : decode cX7_work 6 = .ok (.getfield 25, 3) := by decide +kernel
theorem dX7_work_9 : decode cX7_work 9 = .ok (.iload_n 1, 1) := by decide +kernel
theorem dX7_work_10 : decode cX7_work 10 = .ok (.iaload, 1) := by decide +kernel
theorem dX7_work_11 : decode cX7_work 11 = .ok (.if_icmp .ge 40, 3) := by decide +kernel
theorem dX7_work_14 : decode cX7_work 14 = .ok (.iload_n 2, 1) := by decide +kernel
theorem dX7_work_15 : decode cX7_work 15 = .ok (.aload_n 0, 1) := by decide +kernel
theorem dX7_work_16 : decode cX7_work 16 = .ok (.getfield 19, 3) := by decide +kernel
theorem dX7_work_19 : decode cX7_work 19 = .ok (.iconst 5, 1) := by decide +kernel
theorem dX7_work_20 : decode cX7_work 20 = .ok (.iload_n 1, 1) := by decide +kernel
theorem dX7_work_21 : decode cX7_work 21 = .ok (.imul, 1) := by decide +kernel
theorem dX7_work_22 : decode cX7_work 22 = .ok (.iload_n 3, 1) := by decide +kernel
theorem dX7_work_23 : decode cX7_work 23 = .ok (.iadd, 1) := by decide +kernel
theorem dX7_work_24 : decode cX7_work 24 = .ok (.iaload, 1) := by decide +kernel
theorem dX7_work_25 : decode cX7_work 25 = .ok (.iconst (-1), 1) := by decide +kernel
theorem dX7_work_26 : decode cX7_work 26 = .ok (.if_icmp .ne 7, 3) := by decide +kernel
theorem dX7_work_29 : decode cX7_work 29 = .ok (.iconst 0, 1) := by decide +kernel
theorem dX7_work_30 : decode cX7_work 30 = .ok (.goto 13, 3) := by decide +kernel
theorem dX7_work_33 : decode cX7_work 33 = .ok (.aload_n 0, 1) := by decide +kernel
theorem dX7_work_34 : decode cX7_work 34 = .ok (.getfield 22, 3) := by decide +kernel
theorem dX7_work_37 : decode cX7_work 37 = .ok (.iconst 5, 1) := by decide +kernel
theorem dX7_work_38 : decode cX7_work 38 = .ok (.iload_n 1, 1) := by decide +kernel
theorem dX7_work_39 : decode cX7_work 39 = .ok (.imul, 1) := by decide +kernel
theorem dX7_work_40 : decode cX7_work 40 = .ok (.iload_n 3, 1) := by decide +kernel
theorem dX7_work_41 : decode cX7_work 41 = .ok (.iadd, 1) := by decide +kernel
theorem dX7_work_42 : decode cX7_work 42 = .ok (.iaload, 1) := by decide +kernel
theorem dX7_work_43 : decode cX7_work 43 = .ok (.iadd, 1) := by decide +kernel
theorem dX7_work_44 : decode cX7_work 44 = .ok (.istore_n 2, 1) := by decide +kernel
theorem dX7_work_45 : decode cX7_work 45 = .ok (.iinc 3 1, 3) := by decide +kernel
theorem dX7_work_48 : decode cX7_work 48 = .ok (.goto (-44), 3) := by decide +kernel
theorem dX7_work_51 : decode cX7_work 51 = .ok (.iload_n 2, 1) := by decide +kernel
theorem dX7_work_52 : decode cX7_work 52 = .ok (.ireturn, 1) := by decide +kernel
theorem dX7_asked_0 : decode cX7_asked 0 = .ok (.iconst 0, 1) := by decide +kernel
theorem dX7_asked_1 : decode cX7_asked 1 = .ok (.istore_n 2, 1) := by decide +kernel
theorem dX7_asked_2 : decode cX7_asked 2 = .ok (.iconst 0, 1) := by decide +kernel
theorem dX7_asked_3 : decode cX7_asked 3 = .ok (.istore_n 3, 1) := by decide +kernel
theorem dX7_asked_4 : decode cX7_asked 4 = .ok (.iload_n 3, 1) := by decide +kernel
theorem dX7_asked_5 : decode cX7_asked 5 = .ok (.aload_n 0, 1) := by decide +kernel
theorem dX7_asked_6 : decode cX7_asked 6 = .ok (.getfield 25, 3) := by decide +kernel
theorem dX7_asked_9 : decode cX7_asked 9 = .ok (.iload_n 1, 1) := by decide +kernel
theorem dX7_asked_10 : decode cX7_asked 10 = .ok (.iaload, 1) := by decide +kernel
theorem dX7_asked_11 : decode cX7_asked 11 = .ok (.if_icmp .ge 38, 3) := by decide +kernel
theorem dX7_asked_14 : decode cX7_asked 14 = .ok (.aload_n 0, 1) := by decide +kernel
theorem dX7_asked_15 : decode cX7_asked 15 = .ok (.getfield 19, 3) := by decide +kernel
theorem dX7_asked_18 : decode cX7_asked 18 = .ok (.iconst 5, 1) := by decide +kernel
theorem dX7_asked_19 : decode cX7_asked 19 = .ok (.iload_n 1, 1) := by decide +kernel
theorem dX7_asked_20 : decode cX7_asked 20 = .ok (.imul, 1) := by decide +kernel
theorem dX7_asked_21 : decode cX7_asked 21 = .ok (.iload_n 3, 1) := by decide +kernel
theorem dX7_asked_22 : decode cX7_asked 22 = .ok (.iadd, 1) := by decide +kernel
theorem dX7_asked_23 : decode cX7_asked 23 = .ok (.iaload, 1) := by decide +kernel
theorem dX7_asked_24 : decode cX7_asked 24 = .ok (.istore 4, 2) := by decide +kernel
theorem dX7_asked_26 : decode cX7_asked 26 = .ok (.iload_n 2, 1) := by decide +kernel
theorem dX7_asked_27 : decode cX7_asked 27 = .ok (.iload 4, 2) := by decide +kernel
theorem dX7_asked_29 : decode cX7_asked 29 = .ok (.iconst (-1), 1) := by decide +kernel
theorem dX7_asked_30 : decode cX7_asked 30 = .ok (.if_icmp .ne 7, 3) := by decide +kernel
theorem dX7_asked_33 : decode cX7_asked 33 = .ok (.iconst 0, 1) := by decide +kernel
theorem dX7_asked_34 : decode cX7_asked 34 = .ok (.goto 7, 3) := by decide +kernel
theorem dX7_asked_37 : decode cX7_asked 37 = .ok (.iconst 1, 1) := by decide +kernel
theorem dX7_asked_38 : decode cX7_asked 38 = .ok (.iload 4, 2) := by decide +kernel
theorem dX7_asked_40 : decode cX7_asked 40 = .ok (.ishl, 1) := by decide +kernel
theorem dX7_asked_41 : decode cX7_asked 41 = .ok (.ior, 1) := by decide +kernel
theorem dX7_asked_42 : decode cX7_asked 42 = .ok (.istore_n 2, 1) := by decide +kernel
theorem dX7_asked_43 : decode cX7_asked 43 = .ok (.iinc 3 1, 3) := by decide +kernel
theorem dX7_asked_46 : decode cX7_asked 46 = .ok (.goto (-42), 3) := by decide +kernel
theorem dX7_asked_49 : decode cX7_asked 49 = .ok (.iload_n 2, 1) := by decide +kernel
theorem dX7_asked_50 : decode cX7_asked 50 = .ok (.ireturn, 1) := by decide +kernel
theorem dX7_canTake_0 : decode cX7_canTake 0 = .ok (.iload_n 3, 1) := by decide +kernel
theorem dX7_canTake_1 : decode cX7_canTake 1 = .ok (.aload_n 0, 1) := by decide +kernel
theorem dX7_canTake_2 : decode cX7_canTake 2 = .ok (.iload_n 2, 1) := by decide +kernel
theorem dX7_canTake_3 : decode cX7_canTake 3 = .ok (.invokevirtual 87, 3) := by decide +kernel
theorem dX7_canTake_6 : decode cX7_canTake 6 = .ok (.iadd, 1) := by decide +kernel
theorem dX7_canTake_7 : decode cX7_canTake 7 = .ok (.istore 4, 2) := by decide +kernel
theorem dX7_canTake_9 : decode cX7_canTake 9 = .ok (.aload_n 0, 1) := by decide +kernel
theorem dX7_canTake_10 : decode cX7_canTake 10 = .ok (.iload_n 2, 1) := by decide +kernel
theorem dX7_canTake_11 : decode cX7_canTake 11 = .ok (.invokevirtual 91, 3) := by decide +kernel
theorem dX7_canTake_14 : decode cX7_canTake 14 = .ok (.aload_n 0, 1) := by decide +kernel
theorem dX7_canTake_15 : decode cX7_canTake 15 = .ok (.getfield 7, 3) := by decide +kernel
theorem dX7_canTake_18 : decode cX7_canTake 18 = .ok (.iload_n 1, 1) := by decide +kernel
theorem dX7_canTake_19 : decode cX7_canTake 19 = .ok (.iaload, 1) := by decide +kernel
theorem dX7_canTake_20 : decode cX7_canTake 20 = .ok (.iconst (-1), 1) := by decide +kernel
theorem dX7_canTake_21 : decode cX7_canTake 21 = .ok (.ixor, 1) := by decide +kernel
theorem dX7_canTake_22 : decode cX7_canTake 22 = .ok (.iand, 1) := by decide +kernel
theorem dX7_canTake_23 : decode cX7_canTake 23 = .ok (.ifCond .ne 28, 3) := by decide +kernel
theorem dX7_canTake_26 : decode cX7_canTake 26 = .ok (.iload_n 3, 1) := by decide +kernel
theorem dX7_canTake_27 : decode cX7_canTake 27 = .ok (.aload_n 0, 1) := by decide +kernel
theorem dX7_canTake_28 : decode cX7_canTake 28 = .ok (.getfield 13, 3) := by decide +kernel
theorem dX7_canTake_31 : decode cX7_canTake 31 = .ok (.iload_n 1, 1) := by decide +kernel
theorem dX7_canTake_32 : decode cX7_canTake 32 = .ok (.iaload, 1) := by decide +kernel
theorem dX7_canTake_33 : decode cX7_canTake 33 = .ok (.if_icmp .lt 18, 3) := by decide +kernel
theorem dX7_canTake_36 : decode cX7_canTake 36 = .ok (.iload 4, 2) := by decide +kernel
theorem dX7_canTake_38 : decode cX7_canTake 38 = .ok (.aload_n 0, 1) := by decide +kernel
theorem dX7_canTake_39 : decode cX7_canTake 39 = .ok (.getfield 16, 3) := by decide +kernel
theorem dX7_canTake_42 : decode cX7_canTake 42 = .ok (.iload_n 1, 1) := by decide +kernel
theorem dX7_canTake_43 : decode cX7_canTake 43 = .ok (.iaload, 1) := by decide +kernel
theorem dX7_canTake_44 : decode cX7_canTake 44 = .ok (.if_icmp .gt 7, 3) := by decide +kernel
theorem dX7_canTake_47 : decode cX7_canTake 47 = .ok (.iconst 1, 1) := by decide +kernel
theorem dX7_canTake_48 : decode cX7_canTake 48 = .ok (.goto 4, 3) := by decide +kernel
theorem dX7_canTake_51 : decode cX7_canTake 51 = .ok (.iconst 0, 1) := by decide +kernel
theorem dX7_canTake_52 : decode cX7_canTake 52 = .ok (.istore 5, 2) := by decide +kernel
theorem dX7_canTake_54 : decode cX7_canTake 54 = .ok (.iload_n 3, 1) := by decide +kernel
theorem dX7_canTake_55 : decode cX7_canTake 55 = .ok (.istore 6, 2) := by decide +kernel
theorem dX7_canTake_57 : decode cX7_canTake 57 = .ok (.iconst 0, 1) := by decide +kernel
theorem dX7_canTake_58 : decode cX7_canTake 58 = .ok (.istore 7, 2) := by decide +kernel
theorem dX7_canTake_60 : decode cX7_canTake 60 = .ok (.iload 7, 2) := by decide +kernel
theorem dX7_canTake_62 : decode cX7_canTake 62 = .ok (.aload_n 0, 1) := by decide +kernel
theorem dX7_canTake_63 : decode cX7_canTake 63 = .ok (.getfield 25, 3) := by decide +kernel
theorem dX7_canTake_66 : decode cX7_canTake 66 = .ok (.iload_n 2, 1) := by decide +kernel
theorem dX7_canTake_67 : decode cX7_canTake 67 = .ok (.iaload, 1) := by decide +kernel
theorem dX7_canTake_68 : decode cX7_canTake 68 = .ok (.if_icmp .ge 86, 3) := by decide +kernel
theorem dX7_canTake_71 : decode cX7_canTake 71 = .ok (.iload 5, 2) := by decide +kernel
theorem dX7_canTake_73 : decode cX7_canTake 73 = .ok (.ifCond .eq 81, 3) := by decide +kernel
theorem dX7_canTake_76 : decode cX7_canTake 76 = .ok (.iconst 0, 1) := by decide +kernel
theorem dX7_canTake_77 : decode cX7_canTake 77 = .ok (.istore 8, 2) := by decide +kernel
theorem dX7_canTake_79 : decode cX7_canTake 79 = .ok (.iload 8, 2) := by decide +kernel
theorem dX7_canTake_81 : decode cX7_canTake 81 = .ok (.aload_n 0, 1) := by decide +kernel
theorem dX7_canTake_82 : decode cX7_canTake 82 = .ok (.getfield 22, 3) := by decide +kernel
theorem dX7_canTake_85 : decode cX7_canTake 85 = .ok (.iconst 5, 1) := by decide +kernel
theorem dX7_canTake_86 : decode cX7_canTake 86 = .ok (.iload_n 2, 1) := by decide +kernel
theorem dX7_canTake_87 : decode cX7_canTake 87 = .ok (.imul, 1) := by decide +kernel
theorem dX7_canTake_88 : decode cX7_canTake 88 = .ok (.iload 7, 2) := by decide +kernel
theorem dX7_canTake_90 : decode cX7_canTake 90 = .ok (.iadd, 1) := by decide +kernel
theorem dX7_canTake_91 : decode cX7_canTake 91 = .ok (.iaload, 1) := by decide +kernel
theorem dX7_canTake_92 : decode cX7_canTake 92 = .ok (.if_icmp .ge 56, 3) := by decide +kernel
theorem dX7_canTake_95 : decode cX7_canTake 95 = .ok (.iload 5, 2) := by decide +kernel
theorem dX7_canTake_97 : decode cX7_canTake 97 = .ok (.ifCond .eq 39, 3) := by decide +kernel
theorem dX7_canTake_100 : decode cX7_canTake 100 = .ok (.aload_n 0, 1) := by decide +kernel
theorem dX7_canTake_101 : decode cX7_canTake 101 = .ok (.getfield 19, 3) := by decide +kernel
theorem dX7_canTake_104 : decode cX7_canTake 104 = .ok (.iconst 5, 1) := by decide +kernel
theorem dX7_canTake_105 : decode cX7_canTake 105 = .ok (.iload_n 2, 1) := by decide +kernel
theorem dX7_canTake_106 : decode cX7_canTake 106 = .ok (.imul, 1) := by decide +kernel
theorem dX7_canTake_107 : decode cX7_canTake 107 = .ok (.iload 7, 2) := by decide +kernel
theorem dX7_canTake_109 : decode cX7_canTake 109 = .ok (.iadd, 1) := by decide +kernel
theorem dX7_canTake_110 : decode cX7_canTake 110 = .ok (.iaload, 1) := by decide +kernel
theorem dX7_canTake_111 : decode cX7_canTake 111 = .ok (.iconst (-1), 1) := by decide +kernel
theorem dX7_canTake_112 : decode cX7_canTake 112 = .ok (.if_icmp .eq 20, 3) := by decide +kernel
theorem dX7_canTake_115 : decode cX7_canTake 115 = .ok (.aload_n 0, 1) := by decide +kernel
theorem dX7_canTake_116 : decode cX7_canTake 116 = .ok (.getfield 44, 3) := by decide +kernel
theorem dX7_canTake_119 : decode cX7_canTake 119 = .ok (.sipush 600, 3) := by decide +kernel
theorem dX7_canTake_122 : decode cX7_canTake 122 = .ok (.iload_n 1, 1) := by decide +kernel
theorem dX7_canTake_123 : decode cX7_canTake 123 = .ok (.imul, 1) := by decide +kernel
theorem dX7_canTake_124 : decode cX7_canTake 124 = .ok (.iload 6, 2) := by decide +kernel
theorem dX7_canTake_126 : decode cX7_canTake 126 = .ok (.iadd, 1) := by decide +kernel
theorem dX7_canTake_127 : decode cX7_canTake 127 = .ok (.iaload, 1) := by decide +kernel
theorem dX7_canTake_128 : decode cX7_canTake 128 = .ok (.iconst (-1), 1) := by decide +kernel
theorem dX7_canTake_129 : decode cX7_canTake 129 = .ok (.if_icmp .ne 7, 3) := by decide +kernel
theorem dX7_canTake_132 : decode cX7_canTake 132 = .ok (.iconst 1, 1) := by decide +kernel
theorem dX7_canTake_133 : decode cX7_canTake 133 = .ok (.goto 4, 3) := by decide +kernel
theorem dX7_canTake_136 : decode cX7_canTake 136 = .ok (.iconst 0, 1) := by decide +kernel
theorem dX7_canTake_137 : decode cX7_canTake 137 = .ok (.istore 5, 2) := by decide +kernel
theorem dX7_canTake_139 : decode cX7_canTake 139 = .ok (.iinc 6 1, 3) := by decide +kernel
theorem dX7_canTake_142 : decode cX7_canTake 142 = .ok (.iinc 8 1, 3) := by decide +kernel
theorem dX7_canTake_145 : decode cX7_canTake 145 = .ok (.goto (-66), 3) := by decide +kernel
theorem dX7_canTake_148 : decode cX7_canTake 148 = .ok (.iinc 7 1, 3) := by decide +kernel
theorem dX7_canTake_151 : decode cX7_canTake 151 = .ok (.goto (-91), 3) := by decide +kernel
theorem dX7_canTake_154 : decode cX7_canTake 154 = .ok (.iload 5, 2) := by decide +kernel
theorem dX7_canTake_156 : decode cX7_canTake 156 = .ok (.ireturn, 1) := by decide +kernel
theorem dX7_chairFor_0 : decode cX7_chairFor 0 = .ok (.iload_n 2, 1) := by decide +kernel
theorem dX7_chairFor_1 : decode cX7_chairFor 1 = .ok (.aload_n 0, 1) := by decide +kernel
theorem dX7_chairFor_2 : decode cX7_chairFor 2 = .ok (.iload_n 1, 1) := by decide +kernel
theorem dX7_chairFor_3 : decode cX7_chairFor 3 = .ok (.invokevirtual 87, 3) := by decide +kernel
theorem dX7_chairFor_6 : decode cX7_chairFor 6 = .ok (.iadd, 1) := by decide +kernel
theorem dX7_chairFor_7 : decode cX7_chairFor 7 = .ok (.istore_n 3, 1) := by decide +kernel
theorem dX7_chairFor_8 : decode cX7_chairFor 8 = .ok (.iload_n 3, 1) := by decide +kernel
theorem dX7_chairFor_9 : decode cX7_chairFor 9 = .ok (.sipush 600, 3) := by decide +kernel
theorem dX7_chairFor_12 : decode cX7_chairFor 12 = .ok (.if_icmp .le 5, 3) := by decide +kernel
theorem dX7_chairFor_15 : decode cX7_chairFor 15 = .ok (.iconst (-1), 1) := by decide +kernel
theorem dX7_chairFor_16 : decode cX7_chairFor 16 = .ok (.ireturn, 1) := by decide +kernel
theorem dX7_chairFor_17 : decode cX7_chairFor 17 = .ok (.iconst 0, 1) := by decide +kernel
theorem dX7_chairFor_18 : decode cX7_chairFor 18 = .ok (.istore 4, 2) := by decide +kernel
theorem dX7_chairFor_20 : decode cX7_chairFor 20 = .ok (.iload 4, 2) := by decide +kernel
theorem dX7_chairFor_22 : decode cX7_chairFor 22 = .ok (.iconst 4, 1) := by decide +kernel
theorem dX7_chairFor_23 : decode cX7_chairFor 23 = .ok (.if_icmp .ge 65, 3) := by decide +kernel
theorem dX7_chairFor_26 : decode cX7_chairFor 26 = .ok (.iconst 1, 1) := by decide +kernel
theorem dX7_chairFor_27 : decode cX7_chairFor 27 = .ok (.istore 5, 2) := by decide +kernel
theorem dX7_chairFor_29 : decode cX7_chairFor 29 = .ok (.iload_n 2, 1) := by decide +kernel
theorem dX7_chairFor_30 : decode cX7_chairFor 30 = .ok (.istore 6, 2) := by decide +kernel
theorem dX7_chairFor_32 : decode cX7_chairFor 32 = .ok (.iload 6, 2) := by decide +kernel
theorem dX7_chairFor_34 : decode cX7_chairFor 34 = .ok (.iload_n 3, 1) := by decide +kernel
theorem dX7_chairFor_35 : decode cX7_chairFor 35 = .ok (.if_icmp .ge 39, 3) := by decide +kernel
theorem dX7_chairFor_38 : decode cX7_chairFor 38 = .ok (.iload 5, 2) := by decide +kernel
theorem dX7_chairFor_40 : decode cX7_chairFor 40 = .ok (.ifCond .eq 25, 3) := by decide +kernel
theorem dX7_chairFor_43 : decode cX7_chairFor 43 = .ok (.aload_n 0, 1) := by decide +kernel
theorem dX7_chairFor_44 : decode cX7_chairFor 44 = .ok (.getfield 47, 3) := by decide +kernel
theorem dX7_chairFor_47 : decode cX7_chairFor 47 = .ok (.sipush 600, 3) := by decide +kernel
theorem dX7_chairFor_50 : decode cX7_chairFor 50 = .ok (.iload 4, 2) := by decide +kernel
theorem dX7_chairFor_52 : decode cX7_chairFor 52 = .ok (.imul, 1) := by decide +kernel
theorem dX7_chairFor_53 : decode cX7_chairFor 53 = .ok (.iload 6, 2) := by decide +kernel
theorem dX7_chairFor_55 : decode cX7_chairFor 55 = .ok (.iadd, 1) := by decide +kernel
theorem dX7_chairFor_56 : decode cX7_chairFor 56 = .ok (.iaload, 1) := by decide +kernel
theorem dX7_chairFor_57 : decode cX7_chairFor 57 = .ok (.iconst (-1), 1) := by decide +kernel
theorem dX7_chairFor_58 : decode cX7_chairFor 58 = .ok (.if_icmp .ne 7, 3) := by decide +kernel
theorem dX7_chairFor_61 : decode cX7_chairFor 61 = .ok (.iconst 1, 1) := by decide +kernel
theorem dX7_chairFor_62 : decode cX7_chairFor 62 = .ok (.goto 4, 3) := by decide +kernel
theorem dX7_chairFor_65 : decode cX7_chairFor 65 = .ok (.iconst 0, 1) := by decide +kernel
theorem dX7_chairFor_66 : decode cX7_chairFor 66 = .ok (.istore 5, 2) := by decide +kernel
theorem dX7_chairFor_68 : decode cX7_chairFor 68 = .ok (.iinc 6 1, 3) := by decide +kernel
theorem dX7_chairFor_71 : decode cX7_chairFor 71 = .ok (.goto (-39), 3) := by decide +kernel
theorem dX7_chairFor_74 : decode cX7_chairFor 74 = .ok (.iload 5, 2) := by decide +kernel
theorem dX7_chairFor_76 : decode cX7_chairFor 76 = .ok (.ifCond .eq 6, 3) := by decide +kernel
theorem dX7_chairFor_79 : decode cX7_chairFor 79 = .ok (.iload 4, 2) := by decide +kernel
theorem dX7_chairFor_81 : decode cX7_chairFor 81 = .ok (.ireturn, 1) := by decide +kernel
theorem dX7_chairFor_82 : decode cX7_chairFor 82 = .ok (.iinc 4 1, 3) := by decide +kernel
theorem dX7_chairFor_85 : decode cX7_chairFor 85 = .ok (.goto (-65), 3) := by decide +kernel
theorem dX7_chairFor_88 : decode cX7_chairFor 88 = .ok (.iconst (-1), 1) := by decide +kernel
theorem dX7_chairFor_89 : decode cX7_chairFor 89 = .ok (.ireturn, 1) := by decide +kernel
theorem dX7_load_0 : decode cX7_load 0 = .ok (.iconst 0, 1) := by decide +kernel
theorem dX7_load_1 : decode cX7_load 1 = .ok (.istore_n 2, 1) := by decide +kernel
theorem dX7_load_2 : decode cX7_load 2 = .ok (.iconst 0, 1) := by decide +kernel
theorem dX7_load_3 : decode cX7_load 3 = .ok (.istore_n 3, 1) := by decide +kernel
theorem dX7_load_4 : decode cX7_load 4 = .ok (.iload_n 3, 1) := by decide +kernel
theorem dX7_load_5 : decode cX7_load 5 = .ok (.aload_n 0, 1) := by decide +kernel
theorem dX7_load_6 : decode cX7_load 6 = .ok (.getfield 70, 3) := by decide +kernel
theorem dX7_load_9 : decode cX7_load 9 = .ok (.if_icmp .ge 46, 3) := by decide +kernel
theorem dX7_load_12 : decode cX7_load 12 = .ok (.iload_n 2, 1) := by decide +kernel
theorem dX7_load_13 : decode cX7_load 13 = .ok (.aload_n 0, 1) := by decide +kernel
theorem dX7_load_14 : decode cX7_load 14 = .ok (.getfield 41, 3) := by decide +kernel
theorem dX7_load_17 : decode cX7_load 17 = .ok (.iload_n 3, 1) := by decide +kernel
theorem dX7_load_18 : decode cX7_load 18 = .ok (.iaload, 1) := by decide +kernel
theorem dX7_load_19 : decode cX7_load 19 = .ok (.iconst (-1), 1) := by decide +kernel
theorem dX7_load_20 : decode cX7_load 20 = .ok (.if_icmp .eq 26, 3) := by decide +kernel
theorem dX7_load_23 : decode cX7_load 23 = .ok (.aload_n 0, 1) := by decide +kernel
theorem dX7_load_24 : decode cX7_load 24 = .ok (.getfield 35, 3) := by decide +kernel
theorem dX7_load_27 : decode cX7_load 27 = .ok (.iload_n 3, 1) := by decide +kernel
theorem dX7_load_28 : decode cX7_load 28 = .ok (.iaload, 1) := by decide +kernel
theorem dX7_load_29 : decode cX7_load 29 = .ok (.iload_n 1, 1) := by decide +kernel
theorem dX7_load_30 : decode cX7_load 30 = .ok (.if_icmp .ne 16, 3) := by decide +kernel
theorem dX7_load_33 : decode cX7_load 33 = .ok (.aload_n 0, 1) := by decide +kernel
theorem dX7_load_34 : decode cX7_load 34 = .ok (.aload_n 0, 1) := by decide +kernel
theorem dX7_load_35 : decode cX7_load 35 = .ok (.getfield 32, 3) := by decide +kernel
theorem dX7_load_38 : decode cX7_load 38 = .ok (.iload_n 3, 1) := by decide +kernel
theorem dX7_load_39 : decode cX7_load 39 = .ok (.iaload, 1) := by decide +kernel
theorem dX7_load_40 : decode cX7_load 40 = .ok (.invokevirtual 94, 3) := by decide +kernel
theorem dX7_load_43 : decode cX7_load 43 = .ok (.goto 4, 3) := by decide +kernel
theorem dX7_load_46 : decode cX7_load 46 = .ok (.iconst 0, 1) := by decide +kernel
theorem dX7_load_47 : decode cX7_load 47 = .ok (.iadd, 1) := by decide +kernel
theorem dX7_load_48 : decode cX7_load 48 = .ok (.istore_n 2, 1) := by decide +kernel
theorem dX7_load_49 : decode cX7_load 49 = .ok (.iinc 3 1, 3) := by decide +kernel
theorem dX7_load_52 : decode cX7_load 52 = .ok (.goto (-48), 3) := by decide +kernel
theorem dX7_load_55 : decode cX7_load 55 = .ok (.iload_n 2, 1) := by decide +kernel
theorem dX7_load_56 : decode cX7_load 56 = .ok (.ireturn, 1) := by decide +kernel
theorem dX7_takerOf_0 : decode cX7_takerOf 0 = .ok (.iconst (-1), 1) := by decide +kernel
theorem dX7_takerOf_1 : decode cX7_takerOf 1 = .ok (.istore 4, 2) := by decide +kernel
theorem dX7_takerOf_3 : decode cX7_takerOf 3 = .ok (.iconst 0, 1) := by decide +kernel
theorem dX7_takerOf_4 : decode cX7_takerOf 4 = .ok (.istore 5, 2) := by decide +kernel
theorem dX7_takerOf_6 : decode cX7_takerOf 6 = .ok (.iload 5, 2) := by decide +kernel
theorem dX7_takerOf_8 : decode cX7_takerOf 8 = .ok (.aload_n 0, 1) := by decide +kernel
theorem dX7_takerOf_9 : decode cX7_takerOf 9 = .ok (.getfield 67, 3) := by decide +kernel
theorem dX7_takerOf_12 : decode cX7_takerOf 12 = .ok (.if_icmp .ge 68, 3) := by decide +kernel
theorem dX7_takerOf_15 : decode cX7_takerOf 15 = .ok (.iload_n 3, 1) := by decide +kernel
theorem dX7_takerOf_16 : decode cX7_takerOf 16 = .ok (.iconst (-1), 1) := by decide +kernel
theorem dX7_takerOf_17 : decode cX7_takerOf 17 = .ok (.if_icmp .eq 9, 3) := by decide +kernel
theorem dX7_takerOf_20 : decode cX7_takerOf 20 = .ok (.iload_n 3, 1) := by decide +kernel
theorem dX7_takerOf_21 : decode cX7_takerOf 21 = .ok (.iload 5, 2) := by decide +kernel
theorem dX7_takerOf_23 : decode cX7_takerOf 23 = .ok (.if_icmp .ne 18, 3) := by decide +kernel
theorem dX7_takerOf_26 : decode cX7_takerOf 26 = .ok (.aload_n 0, 1) := by decide +kernel
theorem dX7_takerOf_27 : decode cX7_takerOf 27 = .ok (.iload 5, 2) := by decide +kernel
theorem dX7_takerOf_29 : decode cX7_takerOf 29 = .ok (.iload_n 1, 1) := by decide +kernel
theorem dX7_takerOf_30 : decode cX7_takerOf 30 = .ok (.iload_n 2, 1) := by decide +kernel
theorem dX7_takerOf_31 : decode cX7_takerOf 31 = .ok (.invokevirtual 97, 3) := by decide +kernel
theorem dX7_takerOf_34 : decode cX7_takerOf 34 = .ok (.ifCond .eq 7, 3) := by decide +kernel
theorem dX7_takerOf_37 : decode cX7_takerOf 37 = .ok (.iconst 1, 1) := by decide +kernel
theorem dX7_takerOf_38 : decode cX7_takerOf 38 = .ok (.goto 4, 3) := by decide +kernel
theorem dX7_takerOf_41 : decode cX7_takerOf 41 = .ok (.iconst 0, 1) := by decide +kernel
theorem dX7_takerOf_42 : decode cX7_takerOf 42 = .ok (.istore 6, 2) := by decide +kernel
theorem dX7_takerOf_44 : decode cX7_takerOf 44 = .ok (.iload 6, 2) := by decide +kernel
theorem dX7_takerOf_46 : decode cX7_takerOf 46 = .ok (.ifCond .eq 28, 3) := by decide +kernel
theorem dX7_takerOf_49 : decode cX7_takerOf 49 = .ok (.iload 4, 2) := by decide +kernel
theorem dX7_takerOf_51 : decode cX7_takerOf 51 = .ok (.iconst (-1), 1) := by decide +kernel
theorem dX7_takerOf_52 : decode cX7_takerOf 52 = .ok (.if_icmp .eq 18, 3) := by decide +kernel
theorem dX7_takerOf_55 : decode cX7_takerOf 55 = .ok (.aload_n 0, 1) := by decide +kernel
theorem dX7_takerOf_56 : decode cX7_takerOf 56 = .ok (.iload 5, 2) := by decide +kernel
theorem dX7_takerOf_58 : decode cX7_takerOf 58 = .ok (.invokevirtual 100, 3) := by decide +kernel
theorem dX7_takerOf_61 : decode cX7_takerOf 61 = .ok (.aload_n 0, 1) := by decide +kernel
theorem dX7_takerOf_62 : decode cX7_takerOf 62 = .ok (.iload 4, 2) := by decide +kernel
theorem dX7_takerOf_64 : decode cX7_takerOf 64 = .ok (.invokevirtual 100, 3) := by decide +kernel
theorem dX7_takerOf_67 : decode cX7_takerOf 67 = .ok (.if_icmp .ge 7, 3) := by decide +kernel
theorem dX7_takerOf_70 : decode cX7_takerOf 70 = .ok (.iload 5, 2) := by decide +kernel
theorem dX7_takerOf_72 : decode cX7_takerOf 72 = .ok (.istore 4, 2) := by decide +kernel
theorem dX7_takerOf_74 : decode cX7_takerOf 74 = .ok (.iinc 5 1, 3) := by decide +kernel
theorem dX7_takerOf_77 : decode cX7_takerOf 77 = .ok (.goto (-71), 3) := by decide +kernel
theorem dX7_takerOf_80 : decode cX7_takerOf 80 = .ok (.iload 4, 2) := by decide +kernel
theorem dX7_takerOf_82 : decode cX7_takerOf 82 = .ok (.ireturn, 1) := by decide +kernel
theorem dX7_find_0 : decode cX7_find 0 = .ok (.iload_n 2, 1) := by decide +kernel
theorem dX7_find_1 : decode cX7_find 1 = .ok (.istore 4, 2) := by decide +kernel
theorem dX7_find_3 : decode cX7_find 3 = .ok (.iload 4, 2) := by decide +kernel
theorem dX7_find_5 : decode cX7_find 5 = .ok (.aload_n 0, 1) := by decide +kernel
theorem dX7_find_6 : decode cX7_find 6 = .ok (.iload_n 1, 1) := by decide +kernel
theorem dX7_find_7 : decode cX7_find 7 = .ok (.invokevirtual 87, 3) := by decide +kernel
theorem dX7_find_10 : decode cX7_find 10 = .ok (.iadd, 1) := by decide +kernel
theorem dX7_find_11 : decode cX7_find 11 = .ok (.sipush 600, 3) := by decide +kernel
theorem dX7_find_14 : decode cX7_find 14 = .ok (.if_icmp .gt 55, 3) := by decide +kernel
theorem dX7_find_17 : decode cX7_find 17 = .ok (.aload_n 0, 1) := by decide +kernel
theorem dX7_find_18 : decode cX7_find 18 = .ok (.aload_n 0, 1) := by decide +kernel
theorem dX7_find_19 : decode cX7_find 19 = .ok (.iload_n 1, 1) := by decide +kernel
theorem dX7_find_20 : decode cX7_find 20 = .ok (.iload 4, 2) := by decide +kernel
theorem dX7_find_22 : decode cX7_find 22 = .ok (.iload_n 3, 1) := by decide +kernel
theorem dX7_find_23 : decode cX7_find 23 = .ok (.invokevirtual 103, 3) := by decide +kernel
theorem dX7_find_26 : decode cX7_find 26 = .ok (.putfield 107, 3) := by decide +kernel
theorem dX7_find_29 : decode cX7_find 29 = .ok (.aload_n 0, 1) := by decide +kernel
theorem dX7_find_30 : decode cX7_find 30 = .ok (.aload_n 0, 1) := by decide +kernel
theorem dX7_find_31 : decode cX7_find 31 = .ok (.getfield 107, 3) := by decide +kernel
theorem dX7_find_34 : decode cX7_find 34 = .ok (.iconst (-1), 1) := by decide +kernel
theorem dX7_find_35 : decode cX7_find 35 = .ok (.if_icmp .ne 7, 3) := by decide +kernel
theorem dX7_find_38 : decode cX7_find 38 = .ok (.iconst (-1), 1) := by decide +kernel
theorem dX7_find_39 : decode cX7_find 39 = .ok (.goto 10, 3) := by decide +kernel
theorem dX7_find_42 : decode cX7_find 42 = .ok (.aload_n 0, 1) := by decide +kernel
theorem dX7_find_43 : decode cX7_find 43 = .ok (.iload_n 1, 1) := by decide +kernel
theorem dX7_find_44 : decode cX7_find 44 = .ok (.iload 4, 2) := by decide +kernel
theorem dX7_find_46 : decode cX7_find 46 = .ok (.invokevirtual 110, 3) := by decide +kernel
theorem dX7_find_49 : decode cX7_find 49 = .ok (.putfield 114, 3) := by decide +kernel
theorem dX7_find_52 : decode cX7_find 52 = .ok (.aload_n 0, 1) := by decide +kernel
theorem dX7_find_53 : decode cX7_find 53 = .ok (.getfield 114, 3) := by decide +kernel
theorem dX7_find_56 : decode cX7_find 56 = .ok (.iconst (-1), 1) := by decide +kernel
theorem dX7_find_57 : decode cX7_find 57 = .ok (.if_icmp .eq 6, 3) := by decide +kernel
theorem dX7_find_60 : decode cX7_find 60 = .ok (.iload 4, 2) := by decide +kernel
theorem dX7_find_62 : decode cX7_find 62 = .ok (.ireturn, 1) := by decide +kernel
theorem dX7_find_63 : decode cX7_find 63 = .ok (.iinc 4 1, 3) := by decide +kernel
theorem dX7_find_66 : decode cX7_find 66 = .ok (.goto (-63), 3) := by decide +kernel
theorem dX7_find_69 : decode cX7_find 69 = .ok (.iconst (-1), 1) := by decide +kernel
theorem dX7_find_70 : decode cX7_find 70 = .ok (.ireturn, 1) := by decide +kernel
theorem dX7_marks_0 : decode cX7_marks 0 = .ok (.aload_n 0, 1) := by decide +kernel
theorem dX7_marks_1 : decode cX7_marks 1 = .ok (.getfield 32, 3) := by decide +kernel
theorem dX7_marks_4 : decode cX7_marks 4 = .ok (.iload_n 1, 1) := by decide +kernel
theorem dX7_marks_5 : decode cX7_marks 5 = .ok (.iaload, 1) := by decide +kernel
theorem dX7_marks_6 : decode cX7_marks 6 = .ok (.istore_n 3, 1) := by decide +kernel
theorem dX7_marks_7 : decode cX7_marks 7 = .ok (.aload_n 0, 1) := by decide +kernel
theorem dX7_marks_8 : decode cX7_marks 8 = .ok (.getfield 41, 3) := by decide +kernel
theorem dX7_marks_11 : decode cX7_marks 11 = .ok (.iload_n 1, 1) := by decide +kernel
theorem dX7_marks_12 : decode cX7_marks 12 = .ok (.iaload, 1) := by decide +kernel
theorem dX7_marks_13 : decode cX7_marks 13 = .ok (.istore 4, 2) := by decide +kernel
theorem dX7_marks_15 : decode cX7_marks 15 = .ok (.iconst 0, 1) := by decide +kernel
theorem dX7_marks_16 : decode cX7_marks 16 = .ok (.istore 5, 2) := by decide +kernel
theorem dX7_marks_18 : decode cX7_marks 18 = .ok (.iload 5, 2) := by decide +kernel
theorem dX7_marks_20 : decode cX7_marks 20 = .ok (.aload_n 0, 1) := by decide +kernel
theorem dX7_marks_21 : decode cX7_marks 21 = .ok (.getfield 25, 3) := by decide +kernel
theorem dX7_marks_24 : decode cX7_marks 24 = .ok (.iload_n 3, 1) := by decide +kernel
theorem dX7_marks_25 : decode cX7_marks 25 = .ok (.iaload, 1) := by decide +kernel
theorem dX7_marks_26 : decode cX7_marks 26 = .ok (.if_icmp .ge 90, 3) := by decide +kernel
theorem dX7_marks_29 : decode cX7_marks 29 = .ok (.iconst 0, 1) := by decide +kernel
theorem dX7_marks_30 : decode cX7_marks 30 = .ok (.istore 6, 2) := by decide +kernel
theorem dX7_marks_32 : decode cX7_marks 32 = .ok (.iload 6, 2) := by decide +kernel
theorem dX7_marks_34 : decode cX7_marks 34 = .ok (.aload_n 0, 1) := by decide +kernel
theorem dX7_marks_35 : decode cX7_marks 35 = .ok (.getfield 22, 3) := by decide +kernel
theorem dX7_marks_38 : decode cX7_marks 38 = .ok (.iconst 5, 1) := by decide +kernel
theorem dX7_marks_39 : decode cX7_marks 39 = .ok (.iload_n 3, 1) := by decide +kernel
theorem dX7_marks_40 : decode cX7_marks 40 = .ok (.imul, 1) := by decide +kernel
theorem dX7_marks_41 : decode cX7_marks 41 = .ok (.iload 5, 2) := by decide +kernel
theorem dX7_marks_43 : decode cX7_marks 43 = .ok (.iadd, 1) := by decide +kernel
theorem dX7_marks_44 : decode cX7_marks 44 = .ok (.iaload, 1) := by decide +kernel
theorem dX7_marks_45 : decode cX7_marks 45 = .ok (.if_icmp .ge 65, 3) := by decide +kernel
theorem dX7_marks_48 : decode cX7_marks 48 = .ok (.aload_n 0, 1) := by decide +kernel
theorem dX7_marks_49 : decode cX7_marks 49 = .ok (.getfield 19, 3) := by decide +kernel
theorem dX7_marks_52 : decode cX7_marks 52 = .ok (.iconst 5, 1) := by decide +kernel
theorem dX7_marks_53 : decode cX7_marks 53 = .ok (.iload_n 3, 1) := by decide +kernel
theorem dX7_marks_54 : decode cX7_marks 54 = .ok (.imul, 1) := by decide +kernel
theorem dX7_marks_55 : decode cX7_marks 55 = .ok (.iload 5, 2) := by decide +kernel
theorem dX7_marks_57 : decode cX7_marks 57 = .ok (.iadd, 1) := by decide +kernel
theorem dX7_marks_58 : decode cX7_marks 58 = .ok (.iaload, 1) := by decide +kernel
theorem dX7_marks_59 : decode cX7_marks 59 = .ok (.iconst (-1), 1) := by decide +kernel
theorem dX7_marks_60 : decode cX7_marks 60 = .ok (.if_icmp .eq 22, 3) := by decide +kernel
theorem dX7_marks_63 : decode cX7_marks 63 = .ok (.aload_n 0, 1) := by decide +kernel
