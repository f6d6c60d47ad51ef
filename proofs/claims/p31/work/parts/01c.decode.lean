theorem dX6_isSkill_0 : decode cX6_isSkill 0 = .ok (.iload_n 0, 1) := by decide +kernel
theorem dX6_isSkill_1 : decode cX6_isSkill 1 = .ok (.ifCond .lt 12, 3) := by decide +kernel
theorem dX6_isSkill_4 : decode cX6_isSkill 4 = .ok (.iload_n 0, 1) := by decide +kernel
theorem dX6_isSkill_5 : decode cX6_isSkill 5 = .ok (.iconst 4, 1) := by decide +kernel
theorem dX6_isSkill_6 : decode cX6_isSkill 6 = .ok (.if_icmp .ge 7, 3) := by decide +kernel
theorem dX6_isSkill_9 : decode cX6_isSkill 9 = .ok (.iconst 1, 1) := by decide +kernel
theorem dX6_isSkill_10 : decode cX6_isSkill 10 = .ok (.goto 4, 3) := by decide +kernel
theorem dX6_isSkill_13 : decode cX6_isSkill 13 = .ok (.iconst 0, 1) := by decide +kernel
theorem dX6_isSkill_14 : decode cX6_isSkill 14 = .ok (.ireturn, 1) := by decide +kernel
theorem dX6_isChair_0 : decode cX6_isChair 0 = .ok (.iload_n 0, 1) := by decide +kernel
theorem dX6_isChair_1 : decode cX6_isChair 1 = .ok (.ifCond .lt 12, 3) := by decide +kernel
theorem dX6_isChair_4 : decode cX6_isChair 4 = .ok (.iload_n 0, 1) := by decide +kernel
theorem dX6_isChair_5 : decode cX6_isChair 5 = .ok (.iconst 4, 1) := by decide +kernel
theorem dX6_isChair_6 : decode cX6_isChair 6 = .ok (.if_icmp .ge 7, 3) := by decide +kernel
theorem dX6_isChair_9 : decode cX6_isChair 9 = .ok (.iconst 1, 1) := by decide +kernel
theorem dX6_isChair_10 : decode cX6_isChair 10 = .ok (.goto 4, 3) := by decide +kernel
theorem dX6_isChair_13 : decode cX6_isChair 13 = .ok (.iconst 0, 1) := by decide +kernel
theorem dX6_isChair_14 : decode cX6_isChair 14 = .ok (.ireturn, 1) := by decide +kernel
theorem dX6_isMember_0 : decode cX6_isMember 0 = .ok (.iload_n 1, 1) := by decide +kernel
theorem dX6_isMember_1 : decode cX6_isMember 1 = .ok (.ifCond .lt 18, 3) := by decide +kernel
theorem dX6_isMember_4 : decode cX6_isMember 4 = .ok (.iload_n 1, 1) := by decide +kernel
theorem dX6_isMember_5 : decode cX6_isMember 5 = .ok (.aload_n 0, 1) := by decide +kernel
theorem dX6_isMember_6 : decode cX6_isMember 6 = .ok (.getfield 10, 3) := by decide +kernel
theorem dX6_isMember_9 : decode cX6_isMember 9 = .ok (.invokevirtual 52, 3) := by decide +kernel
theorem dX6_isMember_12 : decode cX6_isMember 12 = .ok (.if_icmp .ge 7, 3) := by decide +kernel
theorem dX6_isMember_15 : decode cX6_isMember 15 = .ok (.iconst 1, 1) := by decide +kernel
theorem dX6_isMember_16 : decode cX6_isMember 16 = .ok (.goto 4, 3) := by decide +kernel
theorem dX6_isMember_19 : decode cX6_isMember 19 = .ok (.iconst 0, 1) := by decide +kernel
theorem dX6_isMember_20 : decode cX6_isMember 20 = .ok (.ireturn, 1) := by decide +kernel
theorem dX6_requireMinute_0 : decode cX6_requireMinute 0 = .ok (.iload_n 0, 1) := by decide +kernel
theorem dX6_requireMinute_1 : decode cX6_requireMinute 1 = .ok (.invokestatic 46, 3) := by decide +kernel
theorem dX6_requireMinute_4 : decode cX6_requireMinute 4 = .ok (.ifCond .ne 13, 3) := by decide +kernel
theorem dX6_requireMinute_7 : decode cX6_requireMinute 7 = .ok (.new 180, 3) := by decide +kernel
theorem dX6_requireMinute_10 : decode cX6_requireMinute 10 = .ok (.dup, 1) := by decide +kernel
theorem dX6_requireMinute_11 : decode cX6_requireMinute 11 = .ok (.ldc 238, 2) := by decide +kernel
theorem dX6_requireMinute_13 : decode cX6_requireMinute 13 = .ok (.invokespecial 184, 3) := by decide +kernel
theorem dX6_requireMinute_16 : decode cX6_requireMinute 16 = .ok (.athrow, 1) := by decide +kernel
theorem dX6_requireMinute_17 : decode cX6_requireMinute 17 = .ok (.return_, 1) := by decide +kernel
theorem dX6_requireStepMinutes_0 : decode cX6_requireStepMinutes 0 = .ok (.iload_n 0, 1) := by decide +kernel
theorem dX6_requireStepMinutes_1 : decode cX6_requireStepMinutes 1 = .ok (.iconst 1, 1) := by decide +kernel
theorem dX6_requireStepMinutes_2 : decode cX6_requireStepMinutes 2 = .ok (.if_icmp .lt 10, 3) := by decide +kernel
theorem dX6_requireStepMinutes_5 : decode cX6_requireStepMinutes 5 = .ok (.iload_n 0, 1) := by decide +kernel
theorem dX6_requireStepMinutes_6 : decode cX6_requireStepMinutes 6 = .ok (.sipush 200, 3) := by decide +kernel
theorem dX6_requireStepMinutes_9 : decode cX6_requireStepMinutes 9 = .ok (.if_icmp .le 13, 3) := by decide +kernel
theorem dX6_requireStepMinutes_12 : decode cX6_requireStepMinutes 12 = .ok (.new 39, 3) := by decide +kernel
theorem dX6_requireStepMinutes_15 : decode cX6_requireStepMinutes 15 = .ok (.dup, 1) := by decide +kernel
theorem dX6_requireStepMinutes_16 : decode cX6_requireStepMinutes 16 = .ok (.ldc 230, 2) := by decide +kernel
theorem dX6_requireStepMinutes_18 : decode cX6_requireStepMinutes 18 = .ok (.invokespecial 43, 3) := by decide +kernel
theorem dX6_requireStepMinutes_21 : decode cX6_requireStepMinutes 21 = .ok (.athrow, 1) := by decide +kernel
theorem dX6_requireStepMinutes_22 : decode cX6_requireStepMinutes 22 = .ok (.return_, 1) := by decide +kernel
theorem dX6_requireService_0 : decode cX6_requireService 0 = .ok (.iload_n 1, 1) := by decide +kernel
theorem dX6_requireService_1 : decode cX6_requireService 1 = .ok (.ifCond .lt 14, 3) := by decide +kernel
theorem dX6_requireService_4 : decode cX6_requireService 4 = .ok (.iload_n 1, 1) := by decide +kernel
theorem dX6_requireService_5 : decode cX6_requireService 5 = .ok (.aload_n 0, 1) := by decide +kernel
theorem dX6_requireService_6 : decode cX6_requireService 6 = .ok (.getfield 16, 3) := by decide +kernel
theorem dX6_requireService_9 : decode cX6_requireService 9 = .ok (.invokevirtual 52, 3) := by decide +kernel
theorem dX6_requireService_12 : decode cX6_requireService 12 = .ok (.if_icmp .lt 13, 3) := by decide +kernel
theorem dX6_requireService_15 : decode cX6_requireService 15 = .ok (.new 180, 3) := by decide +kernel
theorem dX6_requireService_18 : decode cX6_requireService 18 = .ok (.dup, 1) := by decide +kernel
theorem dX6_requireService_19 : decode cX6_requireService 19 = .ok (.ldc 240, 2) := by decide +kernel
theorem dX6_requireService_21 : decode cX6_requireService 21 = .ok (.invokespecial 184, 3) := by decide +kernel
theorem dX6_requireService_24 : decode cX6_requireService 24 = .ok (.athrow, 1) := by decide +kernel
theorem dX6_requireService_25 : decode cX6_requireService 25 = .ok (.return_, 1) := by decide +kernel
theorem dX6_requireMember_0 : decode cX6_requireMember 0 = .ok (.aload_n 0, 1) := by decide +kernel
theorem dX6_requireMember_1 : decode cX6_requireMember 1 = .ok (.iload_n 1, 1) := by decide +kernel
theorem dX6_requireMember_2 : decode cX6_requireMember 2 = .ok (.invokevirtual 242, 3) := by decide +kernel
theorem dX6_requireMember_5 : decode cX6_requireMember 5 = .ok (.ifCond .ne 13, 3) := by decide +kernel
theorem dX6_requireMember_8 : decode cX6_requireMember 8 = .ok (.new 180, 3) := by decide +kernel
theorem dX6_requireMember_11 : decode cX6_requireMember 11 = .ok (.dup, 1) := by decide +kernel
theorem dX6_requireMember_12 : decode cX6_requireMember 12 = .ok (.ldc 245, 2) := by decide +kernel
theorem dX6_requireMember_14 : decode cX6_requireMember 14 = .ok (.invokespecial 184, 3) := by decide +kernel
theorem dX6_requireMember_17 : decode cX6_requireMember 17 = .ok (.athrow, 1) := by decide +kernel
theorem dX6_requireMember_18 : decode cX6_requireMember 18 = .ok (.return_, 1) := by decide +kernel
theorem dX6_requireVisit_0 : decode cX6_requireVisit 0 = .ok (.iload_n 1, 1) := by decide +kernel
theorem dX6_requireVisit_1 : decode cX6_requireVisit 1 = .ok (.ifCond .lt 14, 3) := by decide +kernel
theorem dX6_requireVisit_4 : decode cX6_requireVisit 4 = .ok (.iload_n 1, 1) := by decide +kernel
theorem dX6_requireVisit_5 : decode cX6_requireVisit 5 = .ok (.aload_n 0, 1) := by decide +kernel
theorem dX6_requireVisit_6 : decode cX6_requireVisit 6 = .ok (.getfield 19, 3) := by decide +kernel
theorem dX6_requireVisit_9 : decode cX6_requireVisit 9 = .ok (.invokevirtual 52, 3) := by decide +kernel
theorem dX6_requireVisit_12 : decode cX6_requireVisit 12 = .ok (.if_icmp .lt 13, 3) := by decide +kernel
theorem dX6_requireVisit_15 : decode cX6_requireVisit 15 = .ok (.new 180, 3) := by decide +kernel
theorem dX6_requireVisit_18 : decode cX6_requireVisit 18 = .ok (.dup, 1) := by decide +kernel
theorem dX6_requireVisit_19 : decode cX6_requireVisit 19 = .ok (.ldc 247, 2) := by decide +kernel
theorem dX6_requireVisit_21 : decode cX6_requireVisit 21 = .ok (.invokespecial 184, 3) := by decide +kernel
theorem dX6_requireVisit_24 : decode cX6_requireVisit 24 = .ok (.athrow, 1) := by decide +kernel
theorem dX6_requireVisit_25 : decode cX6_requireVisit 25 = .ok (.return_, 1) := by decide +kernel
theorem dX6_requireUndropped_0 : decode cX6_requireUndropped 0 = .ok (.aload_n 0, 1) := by decide +kernel
theorem dX6_requireUndropped_1 : decode cX6_requireUndropped 1 = .ok (.iload_n 1, 1) := by decide +kernel
theorem dX6_requireUndropped_2 : decode cX6_requireUndropped 2 = .ok (.invokevirtual 195, 3) := by decide +kernel
theorem dX6_requireUndropped_5 : decode cX6_requireUndropped 5 = .ok (.aload_n 0, 1) := by decide +kernel
theorem dX6_requireUndropped_6 : decode cX6_requireUndropped 6 = .ok (.getfield 19, 3) := by decide +kernel
theorem dX6_requireUndropped_9 : decode cX6_requireUndropped 9 = .ok (.iload_n 1, 1) := by decide +kernel
theorem dX6_requireUndropped_10 : decode cX6_requireUndropped 10 = .ok (.invokevirtual 99, 3) := by decide +kernel
theorem dX6_requireUndropped_13 : decode cX6_requireUndropped 13 = .ok (.checkcast 136, 3) := by decide +kernel
theorem dX6_requireUndropped_16 : decode cX6_requireUndropped 16 = .ok (.invokevirtual 249, 3) := by decide +kernel
theorem dX6_requireUndropped_19 : decode cX6_requireUndropped 19 = .ok (.ifCond .eq 13, 3) := by decide +kernel
theorem dX6_requireUndropped_22 : decode cX6_requireUndropped 22 = .ok (.new 180, 3) := by decide +kernel
theorem dX6_requireUndropped_25 : decode cX6_requireUndropped 25 = .ok (.dup, 1) := by decide +kernel
theorem dX6_requireUndropped_26 : decode cX6_requireUndropped 26 = .ok (.ldc 253, 2) := by decide +kernel
theorem dX6_requireUndropped_28 : decode cX6_requireUndropped 28 = .ok (.invokespecial 184, 3) := by decide +kernel
theorem dX6_requireUndropped_31 : decode cX6_requireUndropped 31 = .ok (.athrow, 1) := by decide +kernel
theorem dX6_requireUndropped_32 : decode cX6_requireUndropped 32 = .ok (.return_, 1) := by decide +kernel
theorem dX6_requireRoomForService_0 : decode cX6_requireRoomForService 0 = .ok (.aload_n 0, 1) := by decide +kernel
theorem dX6_requireRoomForService_1 : decode cX6_requireRoomForService 1 = .ok (.getfield 16, 3) := by decide +kernel
theorem dX6_requireRoomForService_4 : decode cX6_requireRoomForService 4 = .ok (.invokevirtual 52, 3) := by decide +kernel
theorem dX6_requireRoomForService_7 : decode cX6_requireRoomForService 7 = .ok (.bipush 8, 2) := by decide +kernel
theorem dX6_requireRoomForService_9 : decode cX6_requireRoomForService 9 = .ok (.if_icmp .lt 13, 3) := by decide +kernel
theorem dX6_requireRoomForService_12 : decode cX6_requireRoomForService 12 = .ok (.new 56, 3) := by decide +kernel
theorem dX6_requireRoomForService_15 : decode cX6_requireRoomForService 15 = .ok (.dup, 1) := by decide +kernel
theorem dX6_requireRoomForService_16 : decode cX6_requireRoomForService 16 = .ok (.ldc 255, 2) := by decide +kernel
theorem dX6_requireRoomForService_18 : decode cX6_requireRoomForService 18 = .ok (.invokespecial 60, 3) := by decide +kernel
theorem dX6_requireRoomForService_21 : decode cX6_requireRoomForService 21 = .ok (.athrow, 1) := by decide +kernel
theorem dX6_requireRoomForService_22 : decode cX6_requireRoomForService 22 = .ok (.return_, 1) := by decide +kernel
theorem dX6_requireRoomForVisit_0 : decode cX6_requireRoomForVisit 0 = .ok (.aload_n 0, 1) := by decide +kernel
theorem dX6_requireRoomForVisit_1 : decode cX6_requireRoomForVisit 1 = .ok (.getfield 19, 3) := by decide +kernel
theorem dX6_requireRoomForVisit_4 : decode cX6_requireRoomForVisit 4 = .ok (.invokevirtual 52, 3) := by decide +kernel
theorem dX6_requireRoomForVisit_7 : decode cX6_requireRoomForVisit 7 = .ok (.bipush 30, 2) := by decide +kernel
theorem dX6_requireRoomForVisit_9 : decode cX6_requireRoomForVisit 9 = .ok (.if_icmp .lt 14, 3) := by decide +kernel
theorem dX6_requireRoomForVisit_12 : decode cX6_requireRoomForVisit 12 = .ok (.new 56, 3) := by decide +kernel
theorem dX6_requireRoomForVisit_15 : decode cX6_requireRoomForVisit 15 = .ok (.dup, 1) := by decide +kernel
theorem dX6_requireRoomForVisit_16 : decode cX6_requireRoomForVisit 16 = .ok (.ldc_w 257, 3) := by decide +kernel
theorem dX6_requireRoomForVisit_19 : decode cX6_requireRoomForVisit 19 = .ok (.invokespecial 60, 3) := by decide +kernel
theorem dX6_requireRoomForVisit_22 : decode cX6_requireRoomForVisit 22 = .ok (.athrow, 1) := by decide +kernel
theorem dX6_requireRoomForVisit_23 : decode cX6_requireRoomForVisit 23 = .ok (.return_, 1) := by decide +kernel
theorem dX6_newService_0 : decode cX6_newService 0 = .ok (.new 87, 3) := by decide +kernel
theorem dX6_newService_3 : decode cX6_newService 3 = .ok (.dup, 1) := by decide +kernel
theorem dX6_newService_4 : decode cX6_newService 4 = .ok (.aload_n 0, 1) := by decide +kernel
theorem dX6_newService_5 : decode cX6_newService 5 = .ok (.getfield 16, 3) := by decide +kernel
theorem dX6_newService_8 : decode cX6_newService 8 = .ok (.invokevirtual 52, 3) := by decide +kernel
theorem dX6_newService_11 : decode cX6_newService 11 = .ok (.invokespecial 259, 3) := by decide +kernel
theorem dX6_newService_14 : decode cX6_newService 14 = .ok (.astore_n 1, 1) := by decide +kernel
theorem dX6_newService_15 : decode cX6_newService 15 = .ok (.aload_n 0, 1) := by decide +kernel
theorem dX6_newService_16 : decode cX6_newService 16 = .ok (.getfield 16, 3) := by decide +kernel
theorem dX6_newService_19 : decode cX6_newService 19 = .ok (.aload_n 1, 1) := by decide +kernel
theorem dX6_newService_20 : decode cX6_newService 20 = .ok (.invokevirtual 66, 3) := by decide +kernel
theorem dX6_newService_23 : decode cX6_newService 23 = .ok (.pop, 1) := by decide +kernel
theorem dX6_newService_24 : decode cX6_newService 24 = .ok (.aload_n 1, 1) := by decide +kernel
theorem dX6_newService_25 : decode cX6_newService 25 = .ok (.areturn, 1) := by decide +kernel
theorem dX6_appendUsualSteps_0 : decode cX6_appendUsualSteps 0 = .ok (.iload_n 1, 1) := by decide +kernel
theorem dX6_appendUsualSteps_1 : decode cX6_appendUsualSteps 1 = .ok (.tableswitch 99 0 2 #[27, 44, 75], 27) := by decide +kernel
theorem dX6_appendUsualSteps_28 : decode cX6_appendUsualSteps 28 = .ok (.aload_n 0, 1) := by decide +kernel
theorem dX6_appendUsualSteps_29 : decode cX6_appendUsualSteps 29 = .ok (.iconst 0, 1) := by decide +kernel
theorem dX6_appendUsualSteps_30 : decode cX6_appendUsualSteps 30 = .ok (.bipush 10, 2) := by decide +kernel
theorem dX6_appendUsualSteps_32 : decode cX6_appendUsualSteps 32 = .ok (.invokevirtual 86, 3) := by decide +kernel
theorem dX6_appendUsualSteps_35 : decode cX6_appendUsualSteps 35 = .ok (.aload_n 0, 1) := by decide +kernel
theorem dX6_appendUsualSteps_36 : decode cX6_appendUsualSteps 36 = .ok (.iconst 1, 1) := by decide +kernel
theorem dX6_appendUsualSteps_37 : decode cX6_appendUsualSteps 37 = .ok (.bipush 30, 2) := by decide +kernel
theorem dX6_appendUsualSteps_39 : decode cX6_appendUsualSteps 39 = .ok (.invokevirtual 86, 3) := by decide +kernel
theorem dX6_appendUsualSteps_42 : decode cX6_appendUsualSteps 42 = .ok (.goto 65, 3) := by decide +kernel
theorem dX6_appendUsualSteps_45 : decode cX6_appendUsualSteps 45 = .ok (.aload_n 0, 1) := by decide +kernel
theorem dX6_appendUsualSteps_46 : decode cX6_appendUsualSteps 46 = .ok (.iconst 2, 1) := by decide +kernel
theorem dX6_appendUsualSteps_47 : decode cX6_appendUsualSteps 47 = .ok (.bipush 40, 2) := by decide +kernel
theorem dX6_appendUsualSteps_49 : decode cX6_appendUsualSteps 49 = .ok (.invokevirtual 86, 3) := by decide +kernel
theorem dX6_appendUsualSteps_52 : decode cX6_appendUsualSteps 52 = .ok (.aload_n 0, 1) := by decide +kernel
theorem dX6_appendUsualSteps_53 : decode cX6_appendUsualSteps 53 = .ok (.iconst (-1), 1) := by decide +kernel
theorem dX6_appendUsualSteps_54 : decode cX6_appendUsualSteps 54 = .ok (.bipush 35, 2) := by decide +kernel
theorem dX6_appendUsualSteps_56 : decode cX6_appendUsualSteps 56 = .ok (.invokevirtual 86, 3) := by decide +kernel
theorem dX6_appendUsualSteps_59 : decode cX6_appendUsualSteps 59 = .ok (.aload_n 0, 1) := by decide +kernel
theorem dX6_appendUsualSteps_60 : decode cX6_appendUsualSteps 60 = .ok (.iconst 0, 1) := by decide +kernel
theorem dX6_appendUsualSteps_61 : decode cX6_appendUsualSteps 61 = .ok (.bipush 10, 2) := by decide +kernel
theorem dX6_appendUsualSteps_63 : decode cX6_appendUsualSteps 63 = .ok (.invokevirtual 86, 3) := by decide +kernel
theorem dX6_appendUsualSteps_66 : decode cX6_appendUsualSteps 66 = .ok (.aload_n 0, 1) := by decide +kernel
theorem dX6_appendUsualSteps_67 : decode cX6_appendUsualSteps 67 = .ok (.iconst 1, 1) := by decide +kernel
theorem dX6_appendUsualSteps_68 : decode cX6_appendUsualSteps 68 = .ok (.bipush 30, 2) := by decide +kernel
theorem dX6_appendUsualSteps_70 : decode cX6_appendUsualSteps 70 = .ok (.invokevirtual 86, 3) := by decide +kernel
theorem dX6_appendUsualSteps_73 : decode cX6_appendUsualSteps 73 = .ok (.goto 34, 3) := by decide +kernel
theorem dX6_appendUsualSteps_76 : decode cX6_appendUsualSteps 76 = .ok (.aload_n 0, 1) := by decide +kernel
theorem dX6_appendUsualSteps_77 : decode cX6_appendUsualSteps 77 = .ok (.iconst 3, 1) := by decide +kernel
theorem dX6_appendUsualSteps_78 : decode cX6_appendUsualSteps 78 = .ok (.bipush 15, 2) := by decide +kernel
theorem dX6_appendUsualSteps_80 : decode cX6_appendUsualSteps 80 = .ok (.invokevirtual 86, 3) := by decide +kernel
theorem dX6_appendUsualSteps_83 : decode cX6_appendUsualSteps 83 = .ok (.aload_n 0, 1) := by decide +kernel
theorem dX6_appendUsualSteps_84 : decode cX6_appendUsualSteps 84 = .ok (.iconst (-1), 1) := by decide +kernel
theorem dX6_appendUsualSteps_85 : decode cX6_appendUsualSteps 85 = .ok (.bipush 20, 2) := by decide +kernel
theorem dX6_appendUsualSteps_87 : decode cX6_appendUsualSteps 87 = .ok (.invokevirtual 86, 3) := by decide +kernel
theorem dX6_appendUsualSteps_90 : decode cX6_appendUsualSteps 90 = .ok (.aload_n 0, 1) := by decide +kernel
theorem dX6_appendUsualSteps_91 : decode cX6_appendUsualSteps 91 = .ok (.iconst 0, 1) := by decide +kernel
theorem dX6_appendUsualSteps_92 : decode cX6_appendUsualSteps 92 = .ok (.bipush 10, 2) := by decide +kernel
theorem dX6_appendUsualSteps_94 : decode cX6_appendUsualSteps 94 = .ok (.invokevirtual 86, 3) := by decide +kernel
theorem dX6_appendUsualSteps_97 : decode cX6_appendUsualSteps 97 = .ok (.goto 10, 3) := by decide +kernel
theorem dX6_appendUsualSteps_100 : decode cX6_appendUsualSteps 100 = .ok (.aload_n 0, 1) := by decide +kernel
theorem dX6_appendUsualSteps_101 : decode cX6_appendUsualSteps 101 = .ok (.iconst 1, 1) := by decide +kernel
theorem dX6_appendUsualSteps_102 : decode cX6_appendUsualSteps 102 = .ok (.bipush 20, 2) := by decide +kernel
theorem dX6_appendUsualSteps_104 : decode cX6_appendUsualSteps 104 = .ok (.invokevirtual 86, 3) := by decide +kernel
theorem dX6_appendUsualSteps_107 : decode cX6_appendUsualSteps 107 = .ok (.return_, 1) := by decide +kernel
theorem dX6_bookFirst_0 : decode cX6_bookFirst 0 = .ok (.aload_n 0, 1) := by decide +kernel
theorem dX6_bookFirst_1 : decode cX6_bookFirst 1 = .ok (.aload_n 1, 1) := by decide +kernel
theorem dX6_bookFirst_2 : decode cX6_bookFirst 2 = .ok (.iload_n 2, 1) := by decide +kernel
theorem dX6_bookFirst_3 : decode cX6_bookFirst 3 = .ok (.iload_n 3, 1) := by decide +kernel
theorem dX6_bookFirst_4 : decode cX6_bookFirst 4 = .ok (.invokevirtual 155, 3) := by decide +kernel
theorem dX6_bookFirst_7 : decode cX6_bookFirst 7 = .ok (.istore 4, 2) := by decide +kernel
theorem dX6_bookFirst_9 : decode cX6_bookFirst 9 = .ok (.iload 4, 2) := by decide +kernel
theorem dX6_bookFirst_11 : decode cX6_bookFirst 11 = .ok (.iconst (-1), 1) := by decide +kernel
theorem dX6_bookFirst_12 : decode cX6_bookFirst 12 = .ok (.if_icmp .ne 14, 3) := by decide +kernel
theorem dX6_bookFirst_15 : decode cX6_bookFirst 15 = .ok (.new 162, 3) := by decide +kernel
theorem dX6_bookFirst_18 : decode cX6_bookFirst 18 = .ok (.dup, 1) := by decide +kernel
theorem dX6_bookFirst_19 : decode cX6_bookFirst 19 = .ok (.ldc_w 261, 3) := by decide +kernel
theorem dX6_bookFirst_22 : decode cX6_bookFirst 22 = .ok (.invokespecial 166, 3) := by decide +kernel
theorem dX6_bookFirst_25 : decode cX6_bookFirst 25 = .ok (.athrow, 1) := by decide +kernel
theorem dX6_bookFirst_26 : decode cX6_bookFirst 26 = .ok (.aload_n 0, 1) := by decide +kernel
theorem dX6_bookFirst_27 : decode cX6_bookFirst 27 = .ok (.aload_n 1, 1) := by decide +kernel
theorem dX6_bookFirst_28 : decode cX6_bookFirst 28 = .ok (.iload_n 2, 1) := by decide +kernel
theorem dX6_bookFirst_29 : decode cX6_bookFirst 29 = .ok (.iload 4, 2) := by decide +kernel
theorem dX6_bookFirst_31 : decode cX6_bookFirst 31 = .ok (.invokevirtual 263, 3) := by decide +kernel
theorem dX6_bookFirst_34 : decode cX6_bookFirst 34 = .ok (.ireturn, 1) := by decide +kernel
theorem dX6_bookAt_0 : decode cX6_bookAt 0 = .ok (.new 136, 3) := by decide +kernel
theorem dX6_bookAt_3 : decode cX6_bookAt 3 = .ok (.dup, 1) := by decide +kernel
theorem dX6_bookAt_4 : decode cX6_bookAt 4 = .ok (.aload_n 0, 1) := by decide +kernel
theorem dX6_bookAt_5 : decode cX6_bookAt 5 = .ok (.getfield 19, 3) := by decide +kernel
theorem dX6_bookAt_8 : decode cX6_bookAt 8 = .ok (.invokevirtual 52, 3) := by decide +kernel
theorem dX6_bookAt_11 : decode cX6_bookAt 11 = .ok (.aload_n 1, 1) := by decide +kernel
theorem dX6_bookAt_12 : decode cX6_bookAt 12 = .ok (.invokespecial 266, 3) := by decide +kernel
theorem dX6_bookAt_15 : decode cX6_bookAt 15 = .ok (.astore 4, 2) := by decide +kernel
theorem dX6_bookAt_17 : decode cX6_bookAt 17 = .ok (.aload_n 0, 1) := by decide +kernel
theorem dX6_bookAt_18 : decode cX6_bookAt 18 = .ok (.getfield 19, 3) := by decide +kernel
theorem dX6_bookAt_21 : decode cX6_bookAt 21 = .ok (.aload 4, 2) := by decide +kernel
theorem dX6_bookAt_23 : decode cX6_bookAt 23 = .ok (.invokevirtual 66, 3) := by decide +kernel
theorem dX6_bookAt_26 : decode cX6_bookAt 26 = .ok (.pop, 1) := by decide +kernel
theorem dX6_bookAt_27 : decode cX6_bookAt 27 = .ok (.aload_n 1, 1) := by decide +kernel
theorem dX6_bookAt_28 : decode cX6_bookAt 28 = .ok (.iconst 1, 1) := by decide +kernel
theorem dX6_bookAt_29 : decode cX6_bookAt 29 = .ok (.putfield 108, 3) := by decide +kernel
theorem dX6_bookAt_32 : decode cX6_bookAt 32 = .ok (.aload_n 0, 1) := by decide +kernel
theorem dX6_bookAt_33 : decode cX6_bookAt 33 = .ok (.aload 4, 2) := by decide +kernel
theorem dX6_bookAt_35 : decode cX6_bookAt 35 = .ok (.iload_n 2, 1) := by decide +kernel
theorem dX6_bookAt_36 : decode cX6_bookAt 36 = .ok (.iload_n 3, 1) := by decide +kernel
theorem dX6_bookAt_37 : decode cX6_bookAt 37 = .ok (.invokevirtual 167, 3) := by decide +kernel
theorem dX6_bookAt_40 : decode cX6_bookAt 40 = .ok (.aload 4, 2) := by decide +kernel
theorem dX6_bookAt_42 : decode cX6_bookAt 42 = .ok (.getfield 269, 3) := by decide +kernel
theorem dX6_bookAt_45 : decode cX6_bookAt 45 = .ok (.ireturn, 1) := by decide +kernel
theorem dX6_putAt_0 : decode cX6_putAt 0 = .ok (.aload_n 0, 1) := by decide +kernel
theorem dX6_putAt_1 : decode cX6_putAt 1 = .ok (.aload_n 1, 1) := by decide +kernel
theorem dX6_putAt_2 : decode cX6_putAt 2 = .ok (.getfield 151, 3) := by decide +kernel
theorem dX6_putAt_5 : decode cX6_putAt 5 = .ok (.iload_n 2, 1) := by decide +kernel
theorem dX6_putAt_6 : decode cX6_putAt 6 = .ok (.iload_n 3, 1) := by decide +kernel
theorem dX6_putAt_7 : decode cX6_putAt 7 = .ok (.invokevirtual 218, 3) := by decide +kernel
theorem dX6_putAt_10 : decode cX6_putAt 10 = .ok (.istore 4, 2) := by decide +kernel
theorem dX6_putAt_12 : decode cX6_putAt 12 = .ok (.aload_n 0, 1) := by decide +kernel
theorem dX6_putAt_13 : decode cX6_putAt 13 = .ok (.aload_n 1, 1) := by decide +kernel
theorem dX6_putAt_14 : decode cX6_putAt 14 = .ok (.getfield 151, 3) := by decide +kernel
theorem dX6_putAt_17 : decode cX6_putAt 17 = .ok (.iload_n 3, 1) := by decide +kernel
theorem dX6_putAt_18 : decode cX6_putAt 18 = .ok (.invokevirtual 270, 3) := by decide +kernel
theorem dX6_putAt_21 : decode cX6_putAt 21 = .ok (.istore 5, 2) := by decide +kernel
theorem dX6_putAt_23 : decode cX6_putAt 23 = .ok (.aload_n 0, 1) := by decide +kernel
theorem dX6_putAt_24 : decode cX6_putAt 24 = .ok (.aload_n 1, 1) := by decide +kernel
theorem dX6_putAt_25 : decode cX6_putAt 25 = .ok (.iload 4, 2) := by decide +kernel
theorem dX6_putAt_27 : decode cX6_putAt 27 = .ok (.iload 5, 2) := by decide +kernel
theorem dX6_putAt_29 : decode cX6_putAt 29 = .ok (.iload_n 3, 1) := by decide +kernel
theorem dX6_putAt_30 : decode cX6_putAt 30 = .ok (.invokevirtual 158, 3) := by decide +kernel
theorem dX6_putAt_33 : decode cX6_putAt 33 = .ok (.return_, 1) := by decide +kernel
theorem dX6_put_0 : decode cX6_put 0 = .ok (.aload_n 1, 1) := by decide +kernel
theorem dX6_put_1 : decode cX6_put 1 = .ok (.iload_n 2, 1) := by decide +kernel
theorem dX6_put_2 : decode cX6_put 2 = .ok (.putfield 138, 3) := by decide +kernel
theorem dX6_put_5 : decode cX6_put 5 = .ok (.aload_n 1, 1) := by decide +kernel
theorem dX6_put_6 : decode cX6_put 6 = .ok (.iload_n 3, 1) := by decide +kernel
theorem dX6_put_7 : decode cX6_put 7 = .ok (.putfield 141, 3) := by decide +kernel
theorem dX6_put_10 : decode cX6_put 10 = .ok (.aload_n 1, 1) := by decide +kernel
theorem dX6_put_11 : decode cX6_put 11 = .ok (.iload 4, 2) := by decide +kernel
theorem dX6_put_13 : decode cX6_put 13 = .ok (.putfield 144, 3) := by decide +kernel
theorem dX6_put_16 : decode cX6_put 16 = .ok (.aload_n 0, 1) := by decide +kernel
theorem dX6_put_17 : decode cX6_put 17 = .ok (.aload_n 1, 1) := by decide +kernel
theorem dX6_put_18 : decode cX6_put 18 = .ok (.aload_n 1, 1) := by decide +kernel
theorem dX6_put_19 : decode cX6_put 19 = .ok (.getfield 269, 3) := by decide +kernel
theorem dX6_put_22 : decode cX6_put 22 = .ok (.invokevirtual 274, 3) := by decide +kernel
theorem dX6_put_25 : decode cX6_put 25 = .ok (.return_, 1) := by decide +kernel
theorem dX6_takeOut_0 : decode cX6_takeOut 0 = .ok (.aload_n 0, 1) := by decide +kernel
theorem dX6_takeOut_1 : decode cX6_takeOut 1 = .ok (.aload_n 1, 1) := by decide +kernel
theorem dX6_takeOut_2 : decode cX6_takeOut 2 = .ok (.iconst (-1), 1) := by decide +kernel
theorem dX6_takeOut_3 : decode cX6_takeOut 3 = .ok (.invokevirtual 274, 3) := by decide +kernel
theorem dX6_takeOut_6 : decode cX6_takeOut 6 = .ok (.aload_n 1, 1) := by decide +kernel
theorem dX6_takeOut_7 : decode cX6_takeOut 7 = .ok (.iconst (-1), 1) := by decide +kernel
theorem dX6_takeOut_8 : decode cX6_takeOut 8 = .ok (.putfield 138, 3) := by decide +kernel
theorem dX6_takeOut_11 : decode cX6_takeOut 11 = .ok (.aload_n 1, 1) := by decide +kernel
theorem dX6_takeOut_12 : decode cX6_takeOut 12 = .ok (.iconst (-1), 1) := by decide +kernel
theorem dX6_takeOut_13 : decode cX6_takeOut 13 = .ok (.putfield 141, 3) := by decide +kernel
theorem dX6_takeOut_16 : decode cX6_takeOut 16 = .ok (.aload_n 1, 1) := by decide +kernel
theorem dX6_takeOut_17 : decode cX6_takeOut 17 = .ok (.iconst (-1), 1) := by decide +kernel
theorem dX6_takeOut_18 : decode cX6_takeOut 18 = .ok (.putfield 144, 3) := by decide +kernel
theorem dX6_takeOut_21 : decode cX6_takeOut 21 = .ok (.return_, 1) := by decide +kernel
theorem dX6_write_0 : decode cX6_write 0 = .ok (.aload_n 0, 1) := by decide +kernel
theorem dX6_write_1 : decode cX6_write 1 = .ok (.aload_n 1, 1) := by decide +kernel
theorem dX6_write_2 : decode cX6_write 2 = .ok (.getfield 138, 3) := by decide +kernel
theorem dX6_write_5 : decode cX6_write 5 = .ok (.invokevirtual 242, 3) := by decide +kernel
theorem dX6_write_8 : decode cX6_write 8 = .ok (.ifCond .eq 13, 3) := by decide +kernel
theorem dX6_write_11 : decode cX6_write 11 = .ok (.aload_n 1, 1) := by decide +kernel
theorem dX6_write_12 : decode cX6_write 12 = .ok (.getfield 141, 3) := by decide +kernel
theorem dX6_write_15 : decode cX6_write 15 = .ok (.invokestatic 209, 3) := by decide +kernel
theorem dX6_write_18 : decode cX6_write 18 = .ok (.ifCond .ne 4, 3) := by decide +kernel
theorem dX6_write_21 : decode cX6_write 21 = .ok (.return_, 1) := by decide +kernel
theorem dX6_write_22 : decode cX6_write 22 = .ok (.aload_n 1, 1) := by decide +kernel
theorem dX6_write_23 : decode cX6_write 23 = .ok (.getfield 151, 3) := by decide +kernel
theorem dX6_write_26 : decode cX6_write 26 = .ok (.astore_n 3, 1) := by decide +kernel
theorem dX6_write_27 : decode cX6_write 27 = .ok (.aload_n 0, 1) := by decide +kernel
theorem dX6_write_28 : decode cX6_write 28 = .ok (.getfield 27, 3) := by decide +kernel
theorem dX6_write_31 : decode cX6_write 31 = .ok (.aload_n 1, 1) := by decide +kernel
theorem dX6_write_32 : decode cX6_write 32 = .ok (.getfield 141, 3) := by decide +kernel
theorem dX6_write_35 : decode cX6_write 35 = .ok (.aaload, 1) := by decide +kernel
theorem dX6_write_36 : decode cX6_write 36 = .ok (.aload_n 1, 1) := by decide +kernel
theorem dX6_write_37 : decode cX6_write 37 = .ok (.getfield 144, 3) := by decide +kernel
theorem dX6_write_40 : decode cX6_write 40 = .ok (.aload_n 1, 1) := by decide +kernel
theorem dX6_write_41 : decode cX6_write 41 = .ok (.getfield 144, 3) := by decide +kernel
theorem dX6_write_44 : decode cX6_write 44 = .ok (.aload_n 3, 1) := by decide +kernel
theorem dX6_write_45 : decode cX6_write 45 = .ok (.getfield 186, 3) := by decide +kernel
theorem dX6_write_48 : decode cX6_write 48 = .ok (.iadd, 1) := by decide +kernel
theorem dX6_write_49 : decode cX6_write 49 = .ok (.iload_n 2, 1) := by decide +kernel
theorem dX6_write_50 : decode cX6_write 50 = .ok (.invokevirtual 278, 3) := by decide +kernel
theorem dX6_write_53 : decode cX6_write 53 = .ok (.aload_n 0, 1) := by decide +kernel
theorem dX6_write_54 : decode cX6_write 54 = .ok (.getfield 10, 3) := by decide +kernel
theorem dX6_write_57 : decode cX6_write 57 = .ok (.aload_n 1, 1) := by decide +kernel
theorem dX6_write_58 : decode cX6_write 58 = .ok (.getfield 138, 3) := by decide +kernel
theorem dX6_write_61 : decode cX6_write 61 = .ok (.invokevirtual 99, 3) := by decide +kernel
theorem dX6_write_64 : decode cX6_write 64 = .ok (.checkcast 61, 3) := by decide +kernel
theorem dX6_write_67 : decode cX6_write 67 = .ok (.getfield 202, 3) := by decide +kernel
theorem dX6_write_70 : decode cX6_write 70 = .ok (.astore 4, 2) := by decide +kernel
theorem dX6_write_72 : decode cX6_write 72 = .ok (.iconst 0, 1) := by decide +kernel
theorem dX6_write_73 : decode cX6_write 73 = .ok (.istore 5, 2) := by decide +kernel
theorem dX6_write_75 : decode cX6_write 75 = .ok (.iload 5, 2) := by decide +kernel
theorem dX6_write_77 : decode cX6_write 77 = .ok (.aload_n 3, 1) := by decide +kernel
theorem dX6_write_78 : decode cX6_write 78 = .ok (.getfield 103, 3) := by decide +kernel
theorem dX6_write_81 : decode cX6_write 81 = .ok (.if_icmp .ge 54, 3) := by decide +kernel
theorem dX6_write_84 : decode cX6_write 84 = .ok (.aload_n 3, 1) := by decide +kernel
theorem dX6_write_85 : decode cX6_write 85 = .ok (.iload 5, 2) := by decide +kernel
theorem dX6_write_87 : decode cX6_write 87 = .ok (.invokevirtual 221, 3) := by decide +kernel
theorem dX6_write_90 : decode cX6_write 90 = .ok (.ifCond .ne 39, 3) := by decide +kernel
theorem dX6_write_93 : decode cX6_write 93 = .ok (.aload_n 1, 1) := by decide +kernel
theorem dX6_write_94 : decode cX6_write 94 = .ok (.getfield 144, 3) := by decide +kernel
theorem dX6_write_97 : decode cX6_write 97 = .ok (.aload_n 3, 1) := by decide +kernel
theorem dX6_write_98 : decode cX6_write 98 = .ok (.iload 5, 2) := by decide +kernel
theorem dX6_write_100 : decode cX6_write 100 = .ok (.invokevirtual 224, 3) := by decide +kernel
theorem dX6_write_103 : decode cX6_write 103 = .ok (.iadd, 1) := by decide +kernel
theorem dX6_write_104 : decode cX6_write 104 = .ok (.istore 6, 2) := by decide +kernel
theorem dX6_write_106 : decode cX6_write 106 = .ok (.aload_n 1, 1) := by decide +kernel
theorem dX6_write_107 : decode cX6_write 107 = .ok (.getfield 144, 3) := by decide +kernel
theorem dX6_write_110 : decode cX6_write 110 = .ok (.aload_n 3, 1) := by decide +kernel
theorem dX6_write_111 : decode cX6_write 111 = .ok (.iload 5, 2) := by decide +kernel
theorem dX6_write_113 : decode cX6_write 113 = .ok (.invokevirtual 227, 3) := by decide +kernel
theorem dX6_write_116 : decode cX6_write 116 = .ok (.iadd, 1) := by decide +kernel
theorem dX6_write_117 : decode cX6_write 117 = .ok (.istore 7, 2) := by decide +kernel
theorem dX6_write_119 : decode cX6_write 119 = .ok (.aload 4, 2) := by decide +kernel
theorem dX6_write_121 : decode cX6_write 121 = .ok (.iload 6, 2) := by decide +kernel
theorem dX6_write_123 : decode cX6_write 123 = .ok (.iload 7, 2) := by decide +kernel
theorem dX6_write_125 : decode cX6_write 125 = .ok (.iload_n 2, 1) := by decide +kernel
theorem dX6_write_126 : decode cX6_write 126 = .ok (.invokevirtual 278, 3) := by decide +kernel
theorem dX6_write_129 : decode cX6_write 129 = .ok (.iinc 5 1, 3) := by decide +kernel
theorem dX6_write_132 : decode cX6_write 132 = .ok (.goto (-57), 3) := by decide +kernel
theorem dX6_write_135 : decode cX6_write 135 = .ok (.return_, 1) := by decide +kernel
theorem dX6_serveWaiting_0 : decode cX6_serveWaiting 0 = .ok (.iconst 0, 1) := by decide +kernel
theorem dX6_serveWaiting_1 : decode cX6_serveWaiting 1 = .ok (.istore_n 1, 1) := by decide +kernel
theorem dX6_serveWaiting_2 : decode cX6_serveWaiting 2 = .ok (.iconst 0, 1) := by decide +kernel
theorem dX6_serveWaiting_3 : decode cX6_serveWaiting 3 = .ok (.istore_n 2, 1) := by decide +kernel
theorem dX6_serveWaiting_4 : decode cX6_serveWaiting 4 = .ok (.aload_n 0, 1) := by decide +kernel
theorem dX6_serveWaiting_5 : decode cX6_serveWaiting 5 = .ok (.getfield 22, 3) := by decide +kernel
theorem dX6_serveWaiting_8 : decode cX6_serveWaiting 8 = .ok (.invokevirtual 52, 3) := by decide +kernel
theorem dX6_serveWaiting_11 : decode cX6_serveWaiting 11 = .ok (.istore_n 3, 1) := by decide +kernel
theorem dX6_serveWaiting_12 : decode cX6_serveWaiting 12 = .ok (.iconst 0, 1) := by decide +kernel
theorem dX6_serveWaiting_13 : decode cX6_serveWaiting 13 = .ok (.istore 4, 2) := by decide +kernel
theorem dX6_serveWaiting_15 : decode cX6_serveWaiting 15 = .ok (.iload 4, 2) := by decide +kernel
theorem dX6_serveWaiting_17 : decode cX6_serveWaiting 17 = .ok (.iload_n 3, 1) := by decide +kernel
theorem dX6_serveWaiting_18 : decode cX6_serveWaiting 18 = .ok (.if_icmp .ge 123, 3) := by decide +kernel
theorem dX6_serveWaiting_21 : decode cX6_serveWaiting 21 = .ok (.iload_n 2, 1) := by decide +kernel
theorem dX6_serveWaiting_22 : decode cX6_serveWaiting 22 = .ok (.aload_n 0, 1) := by decide +kernel
theorem dX6_serveWaiting_23 : decode cX6_serveWaiting 23 = .ok (.getfield 22, 3) := by decide +kernel
theorem dX6_serveWaiting_26 : decode cX6_serveWaiting 26 = .ok (.invokevirtual 52, 3) := by decide +kernel
theorem dX6_serveWaiting_29 : decode cX6_serveWaiting 29 = .ok (.if_icmp .ge 112, 3) := by decide +kernel
theorem dX6_serveWaiting_32 : decode cX6_serveWaiting 32 = .ok (.aload_n 0, 1) := by decide +kernel
theorem dX6_serveWaiting_33 : decode cX6_serveWaiting 33 = .ok (.getfield 22, 3) := by decide +kernel
theorem dX6_serveWaiting_36 : decode cX6_serveWaiting 36 = .ok (.iload_n 2, 1) := by decide +kernel
theorem dX6_serveWaiting_37 : decode cX6_serveWaiting 37 = .ok (.invokevirtual 99, 3) := by decide +kernel
theorem dX6_serveWaiting_40 : decode cX6_serveWaiting 40 = .ok (.checkcast 176, 3) := by decide +kernel
theorem dX6_serveWaiting_43 : decode cX6_serveWaiting 43 = .ok (.astore 5, 2) := by decide +kernel
theorem dX6_serveWaiting_45 : decode cX6_serveWaiting 45 = .ok (.aload_n 0, 1) := by decide +kernel
theorem dX6_serveWaiting_46 : decode cX6_serveWaiting 46 = .ok (.getfield 19, 3) := by decide +kernel
theorem dX6_serveWaiting_49 : decode cX6_serveWaiting 49 = .ok (.invokevirtual 52, 3) := by decide +kernel
theorem dX6_serveWaiting_52 : decode cX6_serveWaiting 52 = .ok (.bipush 30, 2) := by decide +kernel
theorem dX6_serveWaiting_54 : decode cX6_serveWaiting 54 = .ok (.if_icmp .lt 7, 3) := by decide +kernel
theorem dX6_serveWaiting_57 : decode cX6_serveWaiting 57 = .ok (.iconst 1, 1) := by decide +kernel
theorem dX6_serveWaiting_58 : decode cX6_serveWaiting 58 = .ok (.goto 4, 3) := by decide +kernel
theorem dX6_serveWaiting_61 : decode cX6_serveWaiting 61 = .ok (.iconst 0, 1) := by decide +kernel
theorem dX6_serveWaiting_62 : decode cX6_serveWaiting 62 = .ok (.istore 6, 2) := by decide +kernel
theorem dX6_serveWaiting_64 : decode cX6_serveWaiting 64 = .ok (.iload 6, 2) := by decide +kernel
theorem dX6_serveWaiting_66 : decode cX6_serveWaiting 66 = .ok (.ifCond .eq 7, 3) := by decide +kernel
theorem dX6_serveWaiting_69 : decode cX6_serveWaiting 69 = .ok (.iconst (-1), 1) := by decide +kernel
theorem dX6_serveWaiting_70 : decode cX6_serveWaiting 70 = .ok (.goto 15, 3) := by decide +kernel
theorem dX6_serveWaiting_73 : decode cX6_serveWaiting 73 = .ok (.aload_n 0, 1) := by decide +kernel
theorem dX6_serveWaiting_74 : decode cX6_serveWaiting 74 = .ok (.aload 5, 2) := by decide +kernel
theorem dX6_serveWaiting_76 : decode cX6_serveWaiting 76 = .ok (.getfield 185, 3) := by decide +kernel
theorem dX6_serveWaiting_79 : decode cX6_serveWaiting 79 = .ok (.bipush 31, 2) := by decide +kernel
theorem dX6_serveWaiting_81 : decode cX6_serveWaiting 81 = .ok (.iconst 0, 1) := by decide +kernel
theorem dX6_serveWaiting_82 : decode cX6_serveWaiting 82 = .ok (.invokevirtual 155, 3) := by decide +kernel
theorem dX6_serveWaiting_85 : decode cX6_serveWaiting 85 = .ok (.istore 7, 2) := by decide +kernel
theorem dX6_serveWaiting_87 : decode cX6_serveWaiting 87 = .ok (.iload 7, 2) := by decide +kernel
theorem dX6_serveWaiting_89 : decode cX6_serveWaiting 89 = .ok (.iconst (-1), 1) := by decide +kernel
theorem dX6_serveWaiting_90 : decode cX6_serveWaiting 90 = .ok (.if_icmp .eq 13, 3) := by decide +kernel
theorem dX6_serveWaiting_93 : decode cX6_serveWaiting 93 = .ok (.iload 7, 2) := by decide +kernel
theorem dX6_serveWaiting_95 : decode cX6_serveWaiting 95 = .ok (.aload 5, 2) := by decide +kernel
theorem dX6_serveWaiting_97 : decode cX6_serveWaiting 97 = .ok (.getfield 280, 3) := by decide +kernel
theorem dX6_serveWaiting_100 : decode cX6_serveWaiting 100 = .ok (.if_icmp .le 9, 3) := by decide +kernel
theorem dX6_serveWaiting_103 : decode cX6_serveWaiting 103 = .ok (.iinc 2 1, 3) := by decide +kernel
theorem dX6_serveWaiting_106 : decode cX6_serveWaiting 106 = .ok (.goto 29, 3) := by decide +kernel
theorem dX6_serveWaiting_109 : decode cX6_serveWaiting 109 = .ok (.aload_n 0, 1) := by decide +kernel
theorem dX6_serveWaiting_110 : decode cX6_serveWaiting 110 = .ok (.aload 5, 2) := by decide +kernel
theorem dX6_serveWaiting_112 : decode cX6_serveWaiting 112 = .ok (.getfield 185, 3) := by decide +kernel
theorem dX6_serveWaiting_115 : decode cX6_serveWaiting 115 = .ok (.bipush 31, 2) := by decide +kernel
theorem dX6_serveWaiting_117 : decode cX6_serveWaiting 117 = .ok (.iload 7, 2) := by decide +kernel
theorem dX6_serveWaiting_119 : decode cX6_serveWaiting 119 = .ok (.invokevirtual 263, 3) := by decide +kernel
theorem dX6_serveWaiting_122 : decode cX6_serveWaiting 122 = .ok (.pop, 1) := by decide +kernel
theorem dX6_serveWaiting_123 : decode cX6_serveWaiting 123 = .ok (.aload_n 0, 1) := by decide +kernel
theorem dX6_serveWaiting_124 : decode cX6_serveWaiting 124 = .ok (.getfield 22, 3) := by decide +kernel
theorem dX6_serveWaiting_127 : decode cX6_serveWaiting 127 = .ok (.iload_n 2, 1) := by decide +kernel
theorem dX6_serveWaiting_128 : decode cX6_serveWaiting 128 = .ok (.invokevirtual 283, 3) := by decide +kernel
theorem dX6_serveWaiting_131 : decode cX6_serveWaiting 131 = .ok (.pop, 1) := by decide +kernel
theorem dX6_serveWaiting_132 : decode cX6_serveWaiting 132 = .ok (.iinc 1 1, 3) := by decide +kernel
theorem dX6_serveWaiting_135 : decode cX6_serveWaiting 135 = .ok (.iinc 4 1, 3) := by decide +kernel
theorem dX6_serveWaiting_138 : decode cX6_serveWaiting 138 = .ok (.goto (-123), 3) := by decide +kernel
theorem dX6_serveWaiting_141 : decode cX6_serveWaiting 141 = .ok (.iload_n 1, 1) := by decide +kernel
theorem dX6_serveWaiting_142 : decode cX6_serveWaiting 142 = .ok (.ireturn, 1) := by decide +kernel
theorem dX6_firstStart_0 : decode cX6_firstStart 0 = .ok (.aload_n 0, 1) := by decide +kernel
theorem dX6_firstStart_1 : decode cX6_firstStart 1 = .ok (.aload_n 1, 1) := by decide +kernel
theorem dX6_firstStart_2 : decode cX6_firstStart 2 = .ok (.iload_n 3, 1) := by decide +kernel
theorem dX6_firstStart_3 : decode cX6_firstStart 3 = .ok (.invokevirtual 286, 3) := by decide +kernel
theorem dX6_firstStart_6 : decode cX6_firstStart 6 = .ok (.iload_n 3, 1) := by decide +kernel
theorem dX6_firstStart_7 : decode cX6_firstStart 7 = .ok (.istore 4, 2) := by decide +kernel
theorem dX6_firstStart_9 : decode cX6_firstStart 9 = .ok (.iload 4, 2) := by decide +kernel
theorem dX6_firstStart_11 : decode cX6_firstStart 11 = .ok (.aload_n 1, 1) := by decide +kernel
theorem dX6_firstStart_12 : decode cX6_firstStart 12 = .ok (.getfield 186, 3) := by decide +kernel
theorem dX6_firstStart_15 : decode cX6_firstStart 15 = .ok (.iadd, 1) := by decide +kernel
theorem dX6_firstStart_16 : decode cX6_firstStart 16 = .ok (.sipush 600, 3) := by decide +kernel
theorem dX6_firstStart_19 : decode cX6_firstStart 19 = .ok (.if_icmp .gt 35, 3) := by decide +kernel
theorem dX6_firstStart_22 : decode cX6_firstStart 22 = .ok (.aload_n 0, 1) := by decide +kernel
theorem dX6_firstStart_23 : decode cX6_firstStart 23 = .ok (.getfield 35, 3) := by decide +kernel
theorem dX6_firstStart_26 : decode cX6_firstStart 26 = .ok (.iload 4, 2) := by decide +kernel
theorem dX6_firstStart_28 : decode cX6_firstStart 28 = .ok (.invokevirtual 289, 3) := by decide +kernel
theorem dX6_firstStart_31 : decode cX6_firstStart 31 = .ok (.ifCond .eq 17, 3) := by decide +kernel
theorem dX6_firstStart_34 : decode cX6_firstStart 34 = .ok (.aload_n 0, 1) := by decide +kernel
theorem dX6_firstStart_35 : decode cX6_firstStart 35 = .ok (.aload_n 1, 1) := by decide +kernel
theorem dX6_firstStart_36 : decode cX6_firstStart 36 = .ok (.iload_n 2, 1) := by decide +kernel
theorem dX6_firstStart_37 : decode cX6_firstStart 37 = .ok (.iload 4, 2) := by decide +kernel
theorem dX6_firstStart_39 : decode cX6_firstStart 39 = .ok (.invokevirtual 292, 3) := by decide +kernel
theorem dX6_firstStart_42 : decode cX6_firstStart 42 = .ok (.ifCond .eq 6, 3) := by decide +kernel
theorem dX6_firstStart_45 : decode cX6_firstStart 45 = .ok (.iload 4, 2) := by decide +kernel
theorem dX6_firstStart_47 : decode cX6_firstStart 47 = .ok (.ireturn, 1) := by decide +kernel
theorem dX6_firstStart_48 : decode cX6_firstStart 48 = .ok (.iinc 4 1, 3) := by decide +kernel
theorem dX6_firstStart_51 : decode cX6_firstStart 51 = .ok (.goto (-42), 3) := by decide +kernel
theorem dX6_firstStart_54 : decode cX6_firstStart 54 = .ok (.iconst (-1), 1) := by decide +kernel
theorem dX6_firstStart_55 : decode cX6_firstStart 55 = .ok (.ireturn, 1) := by decide +kernel
theorem dX6_gatherCandidates_0 : decode cX6_gatherCandidates 0 = .ok (.aload_n 0, 1) := by decide +kernel
theorem dX6_gatherCandidates_1 : decode cX6_gatherCandidates 1 = .ok (.getfield 35, 3) := by decide +kernel
theorem dX6_gatherCandidates_4 : decode cX6_gatherCandidates 4 = .ok (.invokevirtual 296, 3) := by decide +kernel
theorem dX6_gatherCandidates_7 : decode cX6_gatherCandidates 7 = .ok (.aload_n 0, 1) := by decide +kernel
theorem dX6_gatherCandidates_8 : decode cX6_gatherCandidates 8 = .ok (.getfield 35, 3) := by decide +kernel
theorem dX6_gatherCandidates_11 : decode cX6_gatherCandidates 11 = .ok (.iload_n 2, 1) := by decide +kernel
theorem dX6_gatherCandidates_12 : decode cX6_gatherCandidates 12 = .ok (.invokevirtual 299, 3) := by decide +kernel
theorem dX6_gatherCandidates_15 : decode cX6_gatherCandidates 15 = .ok (.iconst 0, 1) := by decide +kernel
theorem dX6_gatherCandidates_16 : decode cX6_gatherCandidates 16 = .ok (.istore_n 3, 1) := by decide +kernel
theorem dX6_gatherCandidates_17 : decode cX6_gatherCandidates 17 = .ok (.iload_n 3, 1) := by decide +kernel
theorem dX6_gatherCandidates_18 : decode cX6_gatherCandidates 18 = .ok (.aload_n 0, 1) := by decide +kernel
theorem dX6_gatherCandidates_19 : decode cX6_gatherCandidates 19 = .ok (.getfield 10, 3) := by decide +kernel
theorem dX6_gatherCandidates_22 : decode cX6_gatherCandidates 22 = .ok (.invokevirtual 52, 3) := by decide +kernel
theorem dX6_gatherCandidates_25 : decode cX6_gatherCandidates 25 = .ok (.if_icmp .ge 30, 3) := by decide +kernel
theorem dX6_gatherCandidates_28 : decode cX6_gatherCandidates 28 = .ok (.aload_n 0, 1) := by decide +kernel
theorem dX6_gatherCandidates_29 : decode cX6_gatherCandidates 29 = .ok (.getfield 35, 3) := by decide +kernel
theorem dX6_gatherCandidates_32 : decode cX6_gatherCandidates 32 = .ok (.aload_n 0, 1) := by decide +kernel
theorem dX6_gatherCandidates_33 : decode cX6_gatherCandidates 33 = .ok (.getfield 10, 3) := by decide +kernel
theorem dX6_gatherCandidates_36 : decode cX6_gatherCandidates 36 = .ok (.iload_n 3, 1) := by decide +kernel
theorem dX6_gatherCandidates_37 : decode cX6_gatherCandidates 37 = .ok (.invokevirtual 99, 3) := by decide +kernel
theorem dX6_gatherCandidates_40 : decode cX6_gatherCandidates 40 = .ok (.checkcast 61, 3) := by decide +kernel
theorem dX6_gatherCandidates_43 : decode cX6_gatherCandidates 43 = .ok (.getfield 301, 3) := by decide +kernel
theorem dX6_gatherCandidates_46 : decode cX6_gatherCandidates 46 = .ok (.invokevirtual 299, 3) := by decide +kernel
theorem dX6_gatherCandidates_49 : decode cX6_gatherCandidates 49 = .ok (.iinc 3 1, 3) := by decide +kernel
theorem dX6_gatherCandidates_52 : decode cX6_gatherCandidates 52 = .ok (.goto (-35), 3) := by decide +kernel
theorem dX6_gatherCandidates_55 : decode cX6_gatherCandidates 55 = .ok (.iconst 0, 1) := by decide +kernel
theorem dX6_gatherCandidates_56 : decode cX6_gatherCandidates 56 = .ok (.istore_n 3, 1) := by decide +kernel
theorem dX6_gatherCandidates_57 : decode cX6_gatherCandidates 57 = .ok (.iload_n 3, 1) := by decide +kernel
theorem dX6_gatherCandidates_58 : decode cX6_gatherCandidates 58 = .ok (.aload_n 0, 1) := by decide +kernel
theorem dX6_gatherCandidates_59 : decode cX6_gatherCandidates 59 = .ok (.getfield 19, 3) := by decide +kernel
theorem dX6_gatherCandidates_62 : decode cX6_gatherCandidates 62 = .ok (.invokevirtual 52, 3) := by decide +kernel
theorem dX6_gatherCandidates_65 : decode cX6_gatherCandidates 65 = .ok (.if_icmp .ge 58, 3) := by decide +kernel
theorem dX6_gatherCandidates_68 : decode cX6_gatherCandidates 68 = .ok (.aload_n 0, 1) := by decide +kernel
theorem dX6_gatherCandidates_69 : decode cX6_gatherCandidates 69 = .ok (.getfield 19, 3) := by decide +kernel
theorem dX6_gatherCandidates_72 : decode cX6_gatherCandidates 72 = .ok (.iload_n 3, 1) := by decide +kernel
theorem dX6_gatherCandidates_73 : decode cX6_gatherCandidates 73 = .ok (.invokevirtual 99, 3) := by decide +kernel
theorem dX6_gatherCandidates_76 : decode cX6_gatherCandidates 76 = .ok (.checkcast 136, 3) := by decide +kernel
theorem dX6_gatherCandidates_79 : decode cX6_gatherCandidates 79 = .ok (.astore 4, 2) := by decide +kernel
theorem dX6_gatherCandidates_81 : decode cX6_gatherCandidates 81 = .ok (.aload 4, 2) := by decide +kernel
theorem dX6_gatherCandidates_83 : decode cX6_gatherCandidates 83 = .ok (.invokevirtual 249, 3) := by decide +kernel
theorem dX6_gatherCandidates_86 : decode cX6_gatherCandidates 86 = .ok (.ifCond .ne 31, 3) := by decide +kernel
theorem dX6_gatherCandidates_89 : decode cX6_gatherCandidates 89 = .ok (.aload_n 0, 1) := by decide +kernel
theorem dX6_gatherCandidates_90 : decode cX6_gatherCandidates 90 = .ok (.getfield 35, 3) := by decide +kernel
theorem dX6_gatherCandidates_93 : decode cX6_gatherCandidates 93 = .ok (.aload 4, 2) := by decide +kernel
theorem dX6_gatherCandidates_95 : decode cX6_gatherCandidates 95 = .ok (.getfield 144, 3) := by decide +kernel
theorem dX6_gatherCandidates_98 : decode cX6_gatherCandidates 98 = .ok (.aload 4, 2) := by decide +kernel
theorem dX6_gatherCandidates_100 : decode cX6_gatherCandidates 100 = .ok (.getfield 151, 3) := by decide +kernel
theorem dX6_gatherCandidates_103 : decode cX6_gatherCandidates 103 = .ok (.getfield 186, 3) := by decide +kernel
theorem dX6_gatherCandidates_106 : decode cX6_gatherCandidates 106 = .ok (.iadd, 1) := by decide +kernel
theorem dX6_gatherCandidates_107 : decode cX6_gatherCandidates 107 = .ok (.invokevirtual 299, 3) := by decide +kernel
theorem dX6_gatherCandidates_110 : decode cX6_gatherCandidates 110 = .ok (.aload_n 0, 1) := by decide +kernel
theorem dX6_gatherCandidates_111 : decode cX6_gatherCandidates 111 = .ok (.aload 4, 2) := by decide +kernel
theorem dX6_gatherCandidates_113 : decode cX6_gatherCandidates 113 = .ok (.aload_n 1, 1) := by decide +kernel
theorem dX6_gatherCandidates_114 : decode cX6_gatherCandidates 114 = .ok (.invokevirtual 304, 3) := by decide +kernel
theorem dX6_gatherCandidates_117 : decode cX6_gatherCandidates 117 = .ok (.iinc 3 1, 3) := by decide +kernel
theorem dX6_gatherCandidates_120 : decode cX6_gatherCandidates 120 = .ok (.goto (-63), 3) := by decide +kernel
theorem dX6_gatherCandidates_123 : decode cX6_gatherCandidates 123 = .ok (.return_, 1) := by decide +kernel
theorem dX6_addStartsBehindSteps_0 : decode cX6_addStartsBehindSteps 0 = .ok (.iconst 0, 1) := by decide +kernel
theorem dX6_addStartsBehindSteps_1 : decode cX6_addStartsBehindSteps 1 = .ok (.istore_n 3, 1) := by decide +kernel
theorem dX6_addStartsBehindSteps_2 : decode cX6_addStartsBehindSteps 2 = .ok (.iload_n 3, 1) := by decide +kernel
theorem dX6_addStartsBehindSteps_3 : decode cX6_addStartsBehindSteps 3 = .ok (.aload_n 1, 1) := by decide +kernel
theorem dX6_addStartsBehindSteps_4 : decode cX6_addStartsBehindSteps 4 = .ok (.getfield 151, 3) := by decide +kernel
theorem dX6_addStartsBehindSteps_7 : decode cX6_addStartsBehindSteps 7 = .ok (.getfield 103, 3) := by decide +kernel
theorem dX6_addStartsBehindSteps_10 : decode cX6_addStartsBehindSteps 10 = .ok (.if_icmp .ge 78, 3) := by decide +kernel
theorem dX6_addStartsBehindSteps_13 : decode cX6_addStartsBehindSteps 13 = .ok (.aload_n 1, 1) := by decide +kernel
theorem dX6_addStartsBehindSteps_14 : decode cX6_addStartsBehindSteps 14 = .ok (.getfield 144, 3) := by decide +kernel
theorem dX6_addStartsBehindSteps_17 : decode cX6_addStartsBehindSteps 17 = .ok (.aload_n 1, 1) := by decide +kernel
theorem dX6_addStartsBehindSteps_18 : decode cX6_addStartsBehindSteps 18 = .ok (.getfield 151, 3) := by decide +kernel
theorem dX6_addStartsBehindSteps_21 : decode cX6_addStartsBehindSteps 21 = .ok (.iload_n 3, 1) := by decide +kernel
theorem dX6_addStartsBehindSteps_22 : decode cX6_addStartsBehindSteps 22 = .ok (.invokevirtual 227, 3) := by decide +kernel
theorem dX6_addStartsBehindSteps_25 : decode cX6_addStartsBehindSteps 25 = .ok (.iadd, 1) := by decide +kernel
theorem dX6_addStartsBehindSteps_26 : decode cX6_addStartsBehindSteps 26 = .ok (.istore 4, 2) := by decide +kernel
theorem dX6_addStartsBehindSteps_28 : decode cX6_addStartsBehindSteps 28 = .ok (.iconst 0, 1) := by decide +kernel
theorem dX6_addStartsBehindSteps_29 : decode cX6_addStartsBehindSteps 29 = .ok (.istore 5, 2) := by decide +kernel
theorem dX6_addStartsBehindSteps_31 : decode cX6_addStartsBehindSteps 31 = .ok (.iload 5, 2) := by decide +kernel
theorem dX6_addStartsBehindSteps_33 : decode cX6_addStartsBehindSteps 33 = .ok (.aload_n 2, 1) := by decide +kernel
theorem dX6_addStartsBehindSteps_34 : decode cX6_addStartsBehindSteps 34 = .ok (.getfield 103, 3) := by decide +kernel
theorem dX6_addStartsBehindSteps_37 : decode cX6_addStartsBehindSteps 37 = .ok (.if_icmp .ge 45, 3) := by decide +kernel
theorem dX6_addStartsBehindSteps_40 : decode cX6_addStartsBehindSteps 40 = .ok (.aload_n 1, 1) := by decide +kernel
theorem dX6_addStartsBehindSteps_41 : decode cX6_addStartsBehindSteps 41 = .ok (.getfield 151, 3) := by decide +kernel
theorem dX6_addStartsBehindSteps_44 : decode cX6_addStartsBehindSteps 44 = .ok (.iload_n 3, 1) := by decide +kernel
theorem dX6_addStartsBehindSteps_45 : decode cX6_addStartsBehindSteps 45 = .ok (.invokevirtual 221, 3) := by decide +kernel
theorem dX6_addStartsBehindSteps_48 : decode cX6_addStartsBehindSteps 48 = .ok (.ifCond .ne 28, 3) := by decide +kernel
theorem dX6_addStartsBehindSteps_51 : decode cX6_addStartsBehindSteps 51 = .ok (.aload_n 2, 1) := by decide +kernel
theorem dX6_addStartsBehindSteps_52 : decode cX6_addStartsBehindSteps 52 = .ok (.iload 5, 2) := by decide +kernel
theorem dX6_addStartsBehindSteps_54 : decode cX6_addStartsBehindSteps 54 = .ok (.invokevirtual 221, 3) := by decide +kernel
theorem dX6_addStartsBehindSteps_57 : decode cX6_addStartsBehindSteps 57 = .ok (.ifCond .ne 19, 3) := by decide +kernel
theorem dX6_addStartsBehindSteps_60 : decode cX6_addStartsBehindSteps 60 = .ok (.aload_n 0, 1) := by decide +kernel
theorem dX6_addStartsBehindSteps_61 : decode cX6_addStartsBehindSteps 61 = .ok (.getfield 35, 3) := by decide +kernel
theorem dX6_addStartsBehindSteps_64 : decode cX6_addStartsBehindSteps 64 = .ok (.iload 4, 2) := by decide +kernel
theorem dX6_addStartsBehindSteps_66 : decode cX6_addStartsBehindSteps 66 = .ok (.aload_n 2, 1) := by decide +kernel
theorem dX6_addStartsBehindSteps_67 : decode cX6_addStartsBehindSteps 67 = .ok (.iload 5, 2) := by decide +kernel
theorem dX6_addStartsBehindSteps_69 : decode cX6_addStartsBehindSteps 69 = .ok (.invokevirtual 224, 3) := by decide +kernel
theorem dX6_addStartsBehindSteps_72 : decode cX6_addStartsBehindSteps 72 = .ok (.isub, 1) := by decide +kernel
theorem dX6_addStartsBehindSteps_73 : decode cX6_addStartsBehindSteps 73 = .ok (.invokevirtual 299, 3) := by decide +kernel
theorem dX6_addStartsBehindSteps_76 : decode cX6_addStartsBehindSteps 76 = .ok (.iinc 5 1, 3) := by decide +kernel
theorem dX6_addStartsBehindSteps_79 : decode cX6_addStartsBehindSteps 79 = .ok (.goto (-48), 3) := by decide +kernel
theorem dX6_addStartsBehindSteps_82 : decode cX6_addStartsBehindSteps 82 = .ok (.iinc 3 1, 3) := by decide +kernel
theorem dX6_addStartsBehindSteps_85 : decode cX6_addStartsBehindSteps 85 = .ok (.goto (-83), 3) := by decide +kernel
theorem dX6_addStartsBehindSteps_88 : decode cX6_addStartsBehindSteps 88 = .ok (.return_, 1) := by decide +kernel
theorem dX6_firstStartByScan_0 : decode cX6_firstStartByScan 0 = .ok (.iload_n 3, 1) := by decide +kernel
theorem dX6_firstStartByScan_1 : decode cX6_firstStartByScan 1 = .ok (.istore 5, 2) := by decide +kernel
theorem dX6_firstStartByScan_3 : decode cX6_firstStartByScan 3 = .ok (.iload 5, 2) := by decide +kernel
theorem dX6_firstStartByScan_5 : decode cX6_firstStartByScan 5 = .ok (.aload_n 1, 1) := by decide +kernel
theorem dX6_firstStartByScan_6 : decode cX6_firstStartByScan 6 = .ok (.getfield 186, 3) := by decide +kernel
theorem dX6_firstStartByScan_9 : decode cX6_firstStartByScan 9 = .ok (.iadd, 1) := by decide +kernel
theorem dX6_firstStartByScan_10 : decode cX6_firstStartByScan 10 = .ok (.iload 4, 2) := by decide +kernel
theorem dX6_firstStartByScan_12 : decode cX6_firstStartByScan 12 = .ok (.if_icmp .gt 23, 3) := by decide +kernel
theorem dX6_firstStartByScan_15 : decode cX6_firstStartByScan 15 = .ok (.aload_n 0, 1) := by decide +kernel
theorem dX6_firstStartByScan_16 : decode cX6_firstStartByScan 16 = .ok (.aload_n 1, 1) := by decide +kernel
theorem dX6_firstStartByScan_17 : decode cX6_firstStartByScan 17 = .ok (.iload_n 2, 1) := by decide +kernel
theorem dX6_firstStartByScan_18 : decode cX6_firstStartByScan 18 = .ok (.iload 5, 2) := by decide +kernel
theorem dX6_firstStartByScan_20 : decode cX6_firstStartByScan 20 = .ok (.invokevirtual 292, 3) := by decide +kernel
theorem dX6_firstStartByScan_23 : decode cX6_firstStartByScan 23 = .ok (.ifCond .eq 6, 3) := by decide +kernel
theorem dX6_firstStartByScan_26 : decode cX6_firstStartByScan 26 = .ok (.iload 5, 2) := by decide +kernel
theorem dX6_firstStartByScan_28 : decode cX6_firstStartByScan 28 = .ok (.ireturn, 1) := by decide +kernel
theorem dX6_firstStartByScan_29 : decode cX6_firstStartByScan 29 = .ok (.iinc 5 1, 3) := by decide +kernel
theorem dX6_firstStartByScan_32 : decode cX6_firstStartByScan 32 = .ok (.goto (-29), 3) := by decide +kernel
theorem dX6_firstStartByScan_35 : decode cX6_firstStartByScan 35 = .ok (.iconst (-1), 1) := by decide +kernel
theorem dX6_firstStartByScan_36 : decode cX6_firstStartByScan 36 = .ok (.ireturn, 1) := by decide +kernel
theorem dX6_hasRoom_0 : decode cX6_hasRoom 0 = .ok (.aload_n 0, 1) := by decide +kernel
theorem dX6_hasRoom_1 : decode cX6_hasRoom 1 = .ok (.aload_n 1, 1) := by decide +kernel
theorem dX6_hasRoom_2 : decode cX6_hasRoom 2 = .ok (.iload_n 3, 1) := by decide +kernel
theorem dX6_hasRoom_3 : decode cX6_hasRoom 3 = .ok (.invokevirtual 270, 3) := by decide +kernel
theorem dX6_hasRoom_6 : decode cX6_hasRoom 6 = .ok (.iconst (-1), 1) := by decide +kernel
theorem dX6_hasRoom_7 : decode cX6_hasRoom 7 = .ok (.if_icmp .eq 18, 3) := by decide +kernel
theorem dX6_hasRoom_10 : decode cX6_hasRoom 10 = .ok (.aload_n 0, 1) := by decide +kernel
theorem dX6_hasRoom_11 : decode cX6_hasRoom 11 = .ok (.aload_n 1, 1) := by decide +kernel
theorem dX6_hasRoom_12 : decode cX6_hasRoom 12 = .ok (.iload_n 2, 1) := by decide +kernel
theorem dX6_hasRoom_13 : decode cX6_hasRoom 13 = .ok (.iload_n 3, 1) := by decide +kernel
theorem dX6_hasRoom_14 : decode cX6_hasRoom 14 = .ok (.invokevirtual 218, 3) := by decide +kernel
theorem dX6_hasRoom_17 : decode cX6_hasRoom 17 = .ok (.iconst (-1), 1) := by decide +kernel
theorem dX6_hasRoom_18 : decode cX6_hasRoom 18 = .ok (.if_icmp .eq 7, 3) := by decide +kernel
theorem dX6_hasRoom_21 : decode cX6_hasRoom 21 = .ok (.iconst 1, 1) := by decide +kernel
theorem dX6_hasRoom_22 : decode cX6_hasRoom 22 = .ok (.goto 4, 3) := by decide +kernel
theorem dX6_hasRoom_25 : decode cX6_hasRoom 25 = .ok (.iconst 0, 1) := by decide +kernel
theorem dX6_hasRoom_26 : decode cX6_hasRoom 26 = .ok (.ireturn, 1) := by decide +kernel
theorem dX6_memberFor_0 : decode cX6_memberFor 0 = .ok (.iconst (-1), 1) := by decide +kernel
theorem dX6_memberFor_1 : decode cX6_memberFor 1 = .ok (.istore 4, 2) := by decide +kernel
theorem dX6_memberFor_3 : decode cX6_memberFor 3 = .ok (.iconst 0, 1) := by decide +kernel
theorem dX6_memberFor_4 : decode cX6_memberFor 4 = .ok (.istore 5, 2) := by decide +kernel
theorem dX6_memberFor_6 : decode cX6_memberFor 6 = .ok (.iconst 0, 1) := by decide +kernel
theorem dX6_memberFor_7 : decode cX6_memberFor 7 = .ok (.istore 6, 2) := by decide +kernel
theorem dX6_memberFor_9 : decode cX6_memberFor 9 = .ok (.iload 6, 2) := by decide +kernel
theorem dX6_memberFor_11 : decode cX6_memberFor 11 = .ok (.aload_n 0, 1) := by decide +kernel
theorem dX6_memberFor_12 : decode cX6_memberFor 12 = .ok (.getfield 10, 3) := by decide +kernel
theorem dX6_memberFor_15 : decode cX6_memberFor 15 = .ok (.invokevirtual 52, 3) := by decide +kernel
theorem dX6_memberFor_18 : decode cX6_memberFor 18 = .ok (.if_icmp .ge 68, 3) := by decide +kernel
theorem dX6_memberFor_21 : decode cX6_memberFor 21 = .ok (.iload_n 2, 1) := by decide +kernel
theorem dX6_memberFor_22 : decode cX6_memberFor 22 = .ok (.iload 6, 2) := by decide +kernel
theorem dX6_memberFor_24 : decode cX6_memberFor 24 = .ok (.ishr, 1) := by decide +kernel
theorem dX6_memberFor_25 : decode cX6_memberFor 25 = .ok (.iconst 1, 1) := by decide +kernel
theorem dX6_memberFor_26 : decode cX6_memberFor 26 = .ok (.iand, 1) := by decide +kernel
theorem dX6_memberFor_27 : decode cX6_memberFor 27 = .ok (.iconst 1, 1) := by decide +kernel
theorem dX6_memberFor_28 : decode cX6_memberFor 28 = .ok (.if_icmp .ne 52, 3) := by decide +kernel
theorem dX6_memberFor_31 : decode cX6_memberFor 31 = .ok (.aload_n 0, 1) := by decide +kernel
theorem dX6_memberFor_32 : decode cX6_memberFor 32 = .ok (.getfield 10, 3) := by decide +kernel
theorem dX6_memberFor_35 : decode cX6_memberFor 35 = .ok (.iload 6, 2) := by decide +kernel
theorem dX6_memberFor_37 : decode cX6_memberFor 37 = .ok (.invokevirtual 99, 3) := by decide +kernel
theorem dX6_memberFor_40 : decode cX6_memberFor 40 = .ok (.checkcast 61, 3) := by decide +kernel
theorem dX6_memberFor_43 : decode cX6_memberFor 43 = .ok (.aload_n 1, 1) := by decide +kernel
theorem dX6_memberFor_44 : decode cX6_memberFor 44 = .ok (.iload_n 3, 1) := by decide +kernel
theorem dX6_memberFor_45 : decode cX6_memberFor 45 = .ok (.invokevirtual 308, 3) := by decide +kernel
theorem dX6_memberFor_48 : decode cX6_memberFor 48 = .ok (.ifCond .eq 32, 3) := by decide +kernel
theorem dX6_memberFor_51 : decode cX6_memberFor 51 = .ok (.aload_n 0, 1) := by decide +kernel
theorem dX6_memberFor_52 : decode cX6_memberFor 52 = .ok (.iload 6, 2) := by decide +kernel
theorem dX6_memberFor_54 : decode cX6_memberFor 54 = .ok (.invokevirtual 198, 3) := by decide +kernel
theorem dX6_memberFor_57 : decode cX6_memberFor 57 = .ok (.istore 7, 2) := by decide +kernel
theorem dX6_memberFor_59 : decode cX6_memberFor 59 = .ok (.iload 4, 2) := by decide +kernel
theorem dX6_memberFor_61 : decode cX6_memberFor 61 = .ok (.iconst (-1), 1) := by decide +kernel
theorem dX6_memberFor_62 : decode cX6_memberFor 62 = .ok (.if_icmp .eq 10, 3) := by decide +kernel
theorem dX6_memberFor_65 : decode cX6_memberFor 65 = .ok (.iload 7, 2) := by decide +kernel
theorem dX6_memberFor_67 : decode cX6_memberFor 67 = .ok (.iload 5, 2) := by decide +kernel
theorem dX6_memberFor_69 : decode cX6_memberFor 69 = .ok (.if_icmp .ge 11, 3) := by decide +kernel
theorem dX6_memberFor_72 : decode cX6_memberFor 72 = .ok (.iload 6, 2) := by decide +kernel
theorem dX6_memberFor_74 : decode cX6_memberFor 74 = .ok (.istore 4, 2) := by decide +kernel
theorem dX6_memberFor_76 : decode cX6_memberFor 76 = .ok (.iload 7, 2) := by decide +kernel
theorem dX6_memberFor_78 : decode cX6_memberFor 78 = .ok (.istore 5, 2) := by decide +kernel
theorem dX6_memberFor_80 : decode cX6_memberFor 80 = .ok (.iinc 6 1, 3) := by decide +kernel
theorem dX6_memberFor_83 : decode cX6_memberFor 83 = .ok (.goto (-74), 3) := by decide +kernel
theorem dX6_memberFor_86 : decode cX6_memberFor 86 = .ok (.iload 4, 2) := by decide +kernel
theorem dX6_memberFor_88 : decode cX6_memberFor 88 = .ok (.ireturn, 1) := by decide +kernel
theorem dX6_chairFor_0 : decode cX6_chairFor 0 = .ok (.iconst 0, 1) := by decide +kernel
theorem dX6_chairFor_1 : decode cX6_chairFor 1 = .ok (.istore_n 3, 1) := by decide +kernel
theorem dX6_chairFor_2 : decode cX6_chairFor 2 = .ok (.iload_n 3, 1) := by decide +kernel
theorem dX6_chairFor_3 : decode cX6_chairFor 3 = .ok (.iconst 4, 1) := by decide +kernel
theorem dX6_chairFor_4 : decode cX6_chairFor 4 = .ok (.if_icmp .ge 30, 3) := by decide +kernel
theorem dX6_chairFor_7 : decode cX6_chairFor 7 = .ok (.aload_n 0, 1) := by decide +kernel
theorem dX6_chairFor_8 : decode cX6_chairFor 8 = .ok (.getfield 27, 3) := by decide +kernel
theorem dX6_chairFor_11 : decode cX6_chairFor 11 = .ok (.iload_n 3, 1) := by decide +kernel
theorem dX6_chairFor_12 : decode cX6_chairFor 12 = .ok (.aaload, 1) := by decide +kernel
theorem dX6_chairFor_13 : decode cX6_chairFor 13 = .ok (.iload_n 2, 1) := by decide +kernel
theorem dX6_chairFor_14 : decode cX6_chairFor 14 = .ok (.iload_n 2, 1) := by decide +kernel
theorem dX6_chairFor_15 : decode cX6_chairFor 15 = .ok (.aload_n 1, 1) := by decide +kernel
theorem dX6_chairFor_16 : decode cX6_chairFor 16 = .ok (.getfield 186, 3) := by decide +kernel
theorem dX6_chairFor_19 : decode cX6_chairFor 19 = .ok (.iadd, 1) := by decide +kernel
theorem dX6_chairFor_20 : decode cX6_chairFor 20 = .ok (.invokevirtual 312, 3) := by decide +kernel
theorem dX6_chairFor_23 : decode cX6_chairFor 23 = .ok (.ifCond .eq 5, 3) := by decide +kernel
theorem dX6_chairFor_26 : decode cX6_chairFor 26 = .ok (.iload_n 3, 1) := by decide +kernel
theorem dX6_chairFor_27 : decode cX6_chairFor 27 = .ok (.ireturn, 1) := by decide +kernel
theorem dX6_chairFor_28 : decode cX6_chairFor 28 = .ok (.iinc 3 1, 3) := by decide +kernel
theorem dX6_chairFor_31 : decode cX6_chairFor 31 = .ok (.goto (-29), 3) := by decide +kernel
theorem dX6_chairFor_34 : decode cX6_chairFor 34 = .ok (.iconst (-1), 1) := by decide +kernel
theorem dX6_chairFor_35 : decode cX6_chairFor 35 = .ok (.ireturn, 1) := by decide +kernel
theorem dX6_workBookedWith_0 : decode cX6_workBookedWith 0 = .ok (.iconst 0, 1) := by decide +kernel
theorem dX6_workBookedWith_1 : decode cX6_workBookedWith 1 = .ok (.istore_n 2, 1) := by decide +kernel
theorem dX6_workBookedWith_2 : decode cX6_workBookedWith 2 = .ok (.iconst 0, 1) := by decide +kernel
theorem dX6_workBookedWith_3 : decode cX6_workBookedWith 3 = .ok (.istore_n 3, 1) := by decide +kernel
theorem dX6_workBookedWith_4 : decode cX6_workBookedWith 4 = .ok (.iload_n 3, 1) := by decide +kernel
theorem dX6_workBookedWith_5 : decode cX6_workBookedWith 5 = .ok (.aload_n 0, 1) := by decide +kernel
theorem dX6_workBookedWith_6 : decode cX6_workBookedWith 6 = .ok (.getfield 19, 3) := by decide +kernel
theorem dX6_workBookedWith_9 : decode cX6_workBookedWith 9 = .ok (.invokevirtual 52, 3) := by decide +kernel
theorem dX6_workBookedWith_12 : decode cX6_workBookedWith 12 = .ok (.if_icmp .ge 42, 3) := by decide +kernel
theorem dX6_workBookedWith_15 : decode cX6_workBookedWith 15 = .ok (.aload_n 0, 1) := by decide +kernel
theorem dX6_workBookedWith_16 : decode cX6_workBookedWith 16 = .ok (.getfield 19, 3) := by decide +kernel
theorem dX6_workBookedWith_19 : decode cX6_workBookedWith 19 = .ok (.iload_n 3, 1) := by decide +kernel
theorem dX6_workBookedWith_20 : decode cX6_workBookedWith 20 = .ok (.invokevirtual 99, 3) := by decide +kernel
theorem dX6_workBookedWith_23 : decode cX6_workBookedWith 23 = .ok (.checkcast 136, 3) := by decide +kernel
theorem dX6_workBookedWith_26 : decode cX6_workBookedWith 26 = .ok (.astore 4, 2) := by decide +kernel
theorem dX6_workBookedWith_28 : decode cX6_workBookedWith 28 = .ok (.aload 4, 2) := by decide +kernel
theorem dX6_workBookedWith_30 : decode cX6_workBookedWith 30 = .ok (.getfield 138, 3) := by decide +kernel
theorem dX6_workBookedWith_33 : decode cX6_workBookedWith 33 = .ok (.iload_n 1, 1) := by decide +kernel
theorem dX6_workBookedWith_34 : decode cX6_workBookedWith 34 = .ok (.if_icmp .ne 14, 3) := by decide +kernel
theorem dX6_workBookedWith_37 : decode cX6_workBookedWith 37 = .ok (.iload_n 2, 1) := by decide +kernel
theorem dX6_workBookedWith_38 : decode cX6_workBookedWith 38 = .ok (.aload 4, 2) := by decide +kernel
theorem dX6_workBookedWith_40 : decode cX6_workBookedWith 40 = .ok (.getfield 151, 3) := by decide +kernel
theorem dX6_workBookedWith_43 : decode cX6_workBookedWith 43 = .ok (.getfield 189, 3) := by decide +kernel
theorem dX6_workBookedWith_46 : decode cX6_workBookedWith 46 = .ok (.iadd, 1) := by decide +kernel
theorem dX6_workBookedWith_47 : decode cX6_workBookedWith 47 = .ok (.istore_n 2, 1) := by decide +kernel
theorem dX6_workBookedWith_48 : decode cX6_workBookedWith 48 = .ok (.iinc 3 1, 3) := by decide +kernel
theorem dX6_workBookedWith_51 : decode cX6_workBookedWith 51 = .ok (.goto (-47), 3) := by decide +kernel
theorem dX6_workBookedWith_54 : decode cX6_workBookedWith 54 = .ok (.iload_n 2, 1) := by decide +kernel
theorem dX6_workBookedWith_55 : decode cX6_workBookedWith 55 = .ok (.ireturn, 1) := by decide +kernel
theorem dX6_chairsTakenAt_0 : decode cX6_chairsTakenAt 0 = .ok (.iconst 0, 1) := by decide +kernel
theorem dX6_chairsTakenAt_1 : decode cX6_chairsTakenAt 1 = .ok (.istore_n 2, 1) := by decide +kernel
theorem dX6_chairsTakenAt_2 : decode cX6_chairsTakenAt 2 = .ok (.iconst 0, 1) := by decide +kernel
theorem dX6_chairsTakenAt_3 : decode cX6_chairsTakenAt 3 = .ok (.istore_n 3, 1) := by decide +kernel
theorem dX6_chairsTakenAt_4 : decode cX6_chairsTakenAt 4 = .ok (.iload_n 3, 1) := by decide +kernel
theorem dX6_chairsTakenAt_5 : decode cX6_chairsTakenAt 5 = .ok (.iconst 4, 1) := by decide +kernel
theorem dX6_chairsTakenAt_6 : decode cX6_chairsTakenAt 6 = .ok (.if_icmp .ge 26, 3) := by decide +kernel
theorem dX6_chairsTakenAt_9 : decode cX6_chairsTakenAt 9 = .ok (.aload_n 0, 1) := by decide +kernel
theorem dX6_chairsTakenAt_10 : decode cX6_chairsTakenAt 10 = .ok (.getfield 27, 3) := by decide +kernel
theorem dX6_chairsTakenAt_13 : decode cX6_chairsTakenAt 13 = .ok (.iload_n 3, 1) := by decide +kernel
theorem dX6_chairsTakenAt_14 : decode cX6_chairsTakenAt 14 = .ok (.aaload, 1) := by decide +kernel
theorem dX6_chairsTakenAt_15 : decode cX6_chairsTakenAt 15 = .ok (.iload_n 1, 1) := by decide +kernel
theorem dX6_chairsTakenAt_16 : decode cX6_chairsTakenAt 16 = .ok (.invokevirtual 206, 3) := by decide +kernel
theorem dX6_chairsTakenAt_19 : decode cX6_chairsTakenAt 19 = .ok (.iconst (-1), 1) := by decide +kernel
theorem dX6_chairsTakenAt_20 : decode cX6_chairsTakenAt 20 = .ok (.if_icmp .eq 6, 3) := by decide +kernel
theorem dX6_chairsTakenAt_23 : decode cX6_chairsTakenAt 23 = .ok (.iinc 2 1, 3) := by decide +kernel
theorem dX6_chairsTakenAt_26 : decode cX6_chairsTakenAt 26 = .ok (.iinc 3 1, 3) := by decide +kernel
theorem dX6_chairsTakenAt_29 : decode cX6_chairsTakenAt 29 = .ok (.goto (-25), 3) := by decide +kernel
theorem dX6_chairsTakenAt_32 : decode cX6_chairsTakenAt 32 = .ok (.iload_n 2, 1) := by decide +kernel
theorem dX6_chairsTakenAt_33 : decode cX6_chairsTakenAt 33 = .ok (.ireturn, 1) := by decide +kernel
theorem dJ9_max_7cf53_0 : decode cJ9_max_7cf53 0 = .ok (.iload_n 0, 1) := by decide +kernel
theorem dJ9_max_7cf53_1 : decode cJ9_max_7cf53 1 = .ok (.iload_n 1, 1) := by decide +kernel
theorem dJ9_max_7cf53_2 : decode cJ9_max_7cf53 2 = .ok (.if_icmp .lt 7, 3) := by decide +kernel
theorem dJ9_max_7cf53_5 : decode cJ9_max_7cf53 5 = .ok (.iload_n 0, 1) := by decide +kernel
theorem dJ9_max_7cf53_6 : decode cJ9_max_7cf53 6 = .ok (.goto 4, 3) := by decide +kernel
theorem dJ9_max_7cf53_9 : decode cJ9_max_7cf53 9 = .ok (.iload_n 1, 1) := by decide +kernel
theorem dJ9_max_7cf53_10 : decode cJ9_max_7cf53 10 = .ok (.ireturn, 1) := by decide +kernel
theorem dJ9_min_7cf53_0 : decode cJ9_min_7cf53 0 = .ok (.iload_n 0, 1) := by decide +kernel
theorem dJ9_min_7cf53_1 : decode cJ9_min_7cf53 1 = .ok (.iload_n 1, 1) := by decide +kernel
theorem dJ9_min_7cf53_2 : decode cJ9_min_7cf53 2 = .ok (.if_icmp .gt 7, 3) := by decide +kernel
theorem dJ9_min_7cf53_5 : decode cJ9_min_7cf53 5 = .ok (.iload_n 0, 1) := by decide +kernel
theorem dJ9_min_7cf53_6 : decode cJ9_min_7cf53 6 = .ok (.goto 4, 3) := by decide +kernel
theorem dJ9_min_7cf53_9 : decode cJ9_min_7cf53 9 = .ok (.iload_n 1, 1) := by decide +kernel
theorem dJ9_min_7cf53_10 : decode cJ9_min_7cf53 10 = .ok (.ireturn, 1) := by decide +kernel
theorem dJxa1e45_init_da8c8_0 : decode cJxa1e45_init_da8c8 0 = .ok (.aload_n 0, 1) := by decide +kernel
theorem dJxa1e45_init_da8c8_1 : decode cJxa1e45_init_da8c8 1 = .ok (.invokespecial 1, 3) := by decide +kernel
theorem dJxa1e45_init_da8c8_4 : decode cJxa1e45_init_da8c8 4 = .ok (.return_, 1) := by decide +kernel
theorem dJxc12de_init_da8c8_0 : decode cJxc12de_init_da8c8 0 = .ok (.aload_n 0, 1) := by decide +kernel
theorem dJxc12de_init_da8c8_1 : decode cJxc12de_init_da8c8 1 = .ok (.invokespecial 1, 3) := by decide +kernel
theorem dJxc12de_init_da8c8_4 : decode cJxc12de_init_da8c8 4 = .ok (.aload_n 0, 1) := by decide +kernel
theorem dJxc12de_init_da8c8_5 : decode cJxc12de_init_da8c8 5 = .ok (.iconst 0, 1) := by decide +kernel
theorem dJxc12de_init_da8c8_6 : decode cJxc12de_init_da8c8 6 = .ok (.putfield 7, 3) := by decide +kernel
theorem dJxc12de_init_da8c8_9 : decode cJxc12de_init_da8c8 9 = .ok (.return_, 1) := by decide +kernel
theorem dJx4a65c_init_da8c8_0 : decode cJx4a65c_init_da8c8 0 = .ok (.aload_n 0, 1) := by decide +kernel
theorem dJx4a65c_init_da8c8_1 : decode cJx4a65c_init_da8c8 1 = .ok (.invokespecial 1, 3) := by decide +kernel
theorem dJx4a65c_init_da8c8_4 : decode cJx4a65c_init_da8c8 4 = .ok (.aload_n 0, 1) := by decide +kernel
theorem dJx4a65c_init_da8c8_5 : decode cJx4a65c_init_da8c8 5 = .ok (.getstatic 39, 3) := by decide +kernel
theorem dJx4a65c_init_da8c8_8 : decode cJx4a65c_init_da8c8 8 = .ok (.putfield 9, 3) := by decide +kernel
theorem dJx4a65c_init_da8c8_11 : decode cJx4a65c_init_da8c8 11 = .ok (.return_, 1) := by decide +kernel
theorem dJx4a65c_grow_92f84_0 : decode cJx4a65c_grow_92f84 0 = .ok (.aload_n 0, 1) := by decide +kernel
theorem dJx4a65c_grow_92f84_1 : decode cJx4a65c_grow_92f84 1 = .ok (.getfield 9, 3) := by decide +kernel
theorem dJx4a65c_grow_92f84_4 : decode cJx4a65c_grow_92f84 4 = .ok (.arraylength, 1) := by decide +kernel
theorem dJx4a65c_grow_92f84_5 : decode cJx4a65c_grow_92f84 5 = .ok (.istore_n 2, 1) := by decide +kernel
theorem dJx4a65c_grow_92f84_6 : decode cJx4a65c_grow_92f84 6 = .ok (.iload_n 2, 1) := by decide +kernel
theorem dJx4a65c_grow_92f84_7 : decode cJx4a65c_grow_92f84 7 = .ok (.ifCond .gt 13, 3) := by decide +kernel
theorem dJx4a65c_grow_92f84_10 : decode cJx4a65c_grow_92f84 10 = .ok (.aload_n 0, 1) := by decide +kernel
theorem dJx4a65c_grow_92f84_11 : decode cJx4a65c_grow_92f84 11 = .ok (.getfield 9, 3) := by decide +kernel
theorem dJx4a65c_grow_92f84_14 : decode cJx4a65c_grow_92f84 14 = .ok (.getstatic 39, 3) := by decide +kernel
theorem dJx4a65c_grow_92f84_17 : decode cJx4a65c_grow_92f84 17 = .ok (.if_acmp .eq 28, 3) := by decide +kernel
theorem dJx4a65c_grow_92f84_20 : decode cJx4a65c_grow_92f84 20 = .ok (.iload_n 2, 1) := by decide +kernel
theorem dJx4a65c_grow_92f84_21 : decode cJx4a65c_grow_92f84 21 = .ok (.iload_n 1, 1) := by decide +kernel
theorem dJx4a65c_grow_92f84_22 : decode cJx4a65c_grow_92f84 22 = .ok (.iload_n 2, 1) := by decide +kernel
theorem dJx4a65c_grow_92f84_23 : decode cJx4a65c_grow_92f84 23 = .ok (.isub, 1) := by decide +kernel
theorem dJx4a65c_grow_92f84_24 : decode cJx4a65c_grow_92f84 24 = .ok (.iload_n 2, 1) := by decide +kernel
theorem dJx4a65c_grow_92f84_25 : decode cJx4a65c_grow_92f84 25 = .ok (.iconst 1, 1) := by decide +kernel
theorem dJx4a65c_grow_92f84_26 : decode cJx4a65c_grow_92f84 26 = .ok (.ishr, 1) := by decide +kernel
theorem dJx4a65c_grow_92f84_27 : decode cJx4a65c_grow_92f84 27 = .ok (.invokestatic 73, 3) := by decide +kernel
theorem dJx4a65c_grow_92f84_30 : decode cJx4a65c_grow_92f84 30 = .ok (.istore_n 3, 1) := by decide +kernel
theorem dJx4a65c_grow_92f84_31 : decode cJx4a65c_grow_92f84 31 = .ok (.aload_n 0, 1) := by decide +kernel
theorem dJx4a65c_grow_92f84_32 : decode cJx4a65c_grow_92f84 32 = .ok (.aload_n 0, 1) := by decide +kernel
theorem dJx4a65c_grow_92f84_33 : decode cJx4a65c_grow_92f84 33 = .ok (.getfield 9, 3) := by decide +kernel
theorem dJx4a65c_grow_92f84_36 : decode cJx4a65c_grow_92f84 36 = .ok (.iload_n 3, 1) := by decide +kernel
theorem dJx4a65c_grow_92f84_37 : decode cJx4a65c_grow_92f84 37 = .ok (.invokestatic 66, 3) := by decide +kernel
theorem dJx4a65c_grow_92f84_40 : decode cJx4a65c_grow_92f84 40 = .ok (.dup_x1, 1) := by decide +kernel
theorem dJx4a65c_grow_92f84_41 : decode cJx4a65c_grow_92f84 41 = .ok (.putfield 9, 3) := by decide +kernel
theorem dJx4a65c_grow_92f84_44 : decode cJx4a65c_grow_92f84 44 = .ok (.areturn, 1) := by decide +kernel
theorem dJx4a65c_grow_92f84_45 : decode cJx4a65c_grow_92f84 45 = .ok (.aload_n 0, 1) := by decide +kernel
theorem dJx4a65c_grow_92f84_46 : decode cJx4a65c_grow_92f84 46 = .ok (.bipush 10, 2) := by decide +kernel
theorem dJx4a65c_grow_92f84_48 : decode cJx4a65c_grow_92f84 48 = .ok (.iload_n 1, 1) := by decide +kernel
theorem dJx4a65c_grow_92f84_49 : decode cJx4a65c_grow_92f84 49 = .ok (.invokestatic 79, 3) := by decide +kernel
theorem dJx4a65c_grow_92f84_52 : decode cJx4a65c_grow_92f84 52 = .ok (.anewarray 7, 3) := by decide +kernel
theorem dJx4a65c_grow_92f84_55 : decode cJx4a65c_grow_92f84 55 = .ok (.dup_x1, 1) := by decide +kernel
theorem dJx4a65c_grow_92f84_56 : decode cJx4a65c_grow_92f84 56 = .ok (.putfield 9, 3) := by decide +kernel
theorem dJx4a65c_grow_92f84_59 : decode cJx4a65c_grow_92f84 59 = .ok (.areturn, 1) := by decide +kernel
theorem dJx4a65c_grow_d5877_0 : decode cJx4a65c_grow_d5877 0 = .ok (.aload_n 0, 1) := by decide +kernel
theorem dJx4a65c_grow_d5877_1 : decode cJx4a65c_grow_d5877 1 = .ok (.aload_n 0, 1) := by decide +kernel
theorem dJx4a65c_grow_d5877_2 : decode cJx4a65c_grow_d5877 2 = .ok (.getfield 48, 3) := by decide +kernel
theorem dJx4a65c_grow_d5877_5 : decode cJx4a65c_grow_d5877 5 = .ok (.iconst 1, 1) := by decide +kernel
theorem dJx4a65c_grow_d5877_6 : decode cJx4a65c_grow_d5877 6 = .ok (.iadd, 1) := by decide +kernel
theorem dJx4a65c_grow_d5877_7 : decode cJx4a65c_grow_d5877 7 = .ok (.invokevirtual 69, 3) := by decide +kernel
theorem dJx4a65c_grow_d5877_10 : decode cJx4a65c_grow_d5877 10 = .ok (.areturn, 1) := by decide +kernel
theorem dJx4a65c_size_8abf5_0 : decode cJx4a65c_size_8abf5 0 = .ok (.aload_n 0, 1) := by decide +kernel
theorem dJx4a65c_size_8abf5_1 : decode cJx4a65c_size_8abf5 1 = .ok (.getfield 48, 3) := by decide +kernel
theorem dJx4a65c_size_8abf5_4 : decode cJx4a65c_size_8abf5 4 = .ok (.ireturn, 1) := by decide +kernel
theorem dJx4a65c_elementData_915e3_0 : decode cJx4a65c_elementData_915e3 0 = .ok (.aload_n 0, 1) := by decide +kernel
theorem dJx4a65c_elementData_915e3_1 : decode cJx4a65c_elementData_915e3 1 = .ok (.getfield 9, 3) := by decide +kernel
theorem dJx4a65c_elementData_915e3_4 : decode cJx4a65c_elementData_915e3 4 = .ok (.iload_n 1, 1) := by decide +kernel
theorem dJx4a65c_elementData_915e3_5 : decode cJx4a65c_elementData_915e3 5 = .ok (.aaload, 1) := by decide +kernel
theorem dJx4a65c_elementData_915e3_6 : decode cJx4a65c_elementData_915e3 6 = .ok (.areturn, 1) := by decide +kernel
theorem dJx4a65c_get_915e3_0 : decode cJx4a65c_get_915e3 0 = .ok (.iload_n 1, 1) := by decide +kernel
theorem dJx4a65c_get_915e3_1 : decode cJx4a65c_get_915e3 1 = .ok (.aload_n 0, 1) := by decide +kernel
theorem dJx4a65c_get_915e3_2 : decode cJx4a65c_get_915e3 2 = .ok (.getfield 48, 3) := by decide +kernel
theorem dJx4a65c_get_915e3_5 : decode cJx4a65c_get_915e3 5 = .ok (.invokestatic 118, 3) := by decide +kernel
theorem dJx4a65c_get_915e3_8 : decode cJx4a65c_get_915e3 8 = .ok (.pop, 1) := by decide +kernel
theorem dJx4a65c_get_915e3_9 : decode cJx4a65c_get_915e3 9 = .ok (.aload_n 0, 1) := by decide +kernel
theorem dJx4a65c_get_915e3_10 : decode cJx4a65c_get_915e3 10 = .ok (.iload_n 1, 1) := by decide +kernel
theorem dJx4a65c_get_915e3_11 : decode cJx4a65c_get_915e3 11 = .ok (.invokevirtual 123, 3) := by decide +kernel
theorem dJx4a65c_get_915e3_14 : decode cJx4a65c_get_915e3 14 = .ok (.areturn, 1) := by decide +kernel
theorem dJx4a65c_add_72be8_0 : decode cJx4a65c_add_72be8 0 = .ok (.iload_n 3, 1) := by decide +kernel
theorem dJx4a65c_add_72be8_1 : decode cJx4a65c_add_72be8 1 = .ok (.aload_n 2, 1) := by decide +kernel
theorem dJx4a65c_add_72be8_2 : decode cJx4a65c_add_72be8 2 = .ok (.arraylength, 1) := by decide +kernel
theorem dJx4a65c_add_72be8_3 : decode cJx4a65c_add_72be8 3 = .ok (.if_icmp .ne 8, 3) := by decide +kernel
theorem dJx4a65c_add_72be8_6 : decode cJx4a65c_add_72be8 6 = .ok (.aload_n 0, 1) := by decide +kernel
theorem dJx4a65c_add_72be8_7 : decode cJx4a65c_add_72be8 7 = .ok (.invokevirtual 129, 3) := by decide +kernel
theorem dJx4a65c_add_72be8_10 : decode cJx4a65c_add_72be8 10 = .ok (.astore_n 2, 1) := by decide +kernel
theorem dJx4a65c_add_72be8_11 : decode cJx4a65c_add_72be8 11 = .ok (.aload_n 2, 1) := by decide +kernel
theorem dJx4a65c_add_72be8_12 : decode cJx4a65c_add_72be8 12 = .ok (.iload_n 3, 1) := by decide +kernel
theorem dJx4a65c_add_72be8_13 : decode cJx4a65c_add_72be8 13 = .ok (.aload_n 1, 1) := by decide +kernel
theorem dJx4a65c_add_72be8_14 : decode cJx4a65c_add_72be8 14 = .ok (.aastore, 1) := by decide +kernel
theorem dJx4a65c_add_72be8_15 : decode cJx4a65c_add_72be8 15 = .ok (.aload_n 0, 1) := by decide +kernel
theorem dJx4a65c_add_72be8_16 : decode cJx4a65c_add_72be8 16 = .ok (.iload_n 3, 1) := by decide +kernel
theorem dJx4a65c_add_72be8_17 : decode cJx4a65c_add_72be8 17 = .ok (.iconst 1, 1) := by decide +kernel
theorem dJx4a65c_add_72be8_18 : decode cJx4a65c_add_72be8 18 = .ok (.iadd, 1) := by decide +kernel
theorem dJx4a65c_add_72be8_19 : decode cJx4a65c_add_72be8 19 = .ok (.putfield 48, 3) := by decide +kernel
theorem dJx4a65c_add_72be8_22 : decode cJx4a65c_add_72be8 22 = .ok (.return_, 1) := by decide +kernel
theorem dJx4a65c_add_9ea2d_0 : decode cJx4a65c_add_9ea2d 0 = .ok (.aload_n 0, 1) := by decide +kernel
theorem dJx4a65c_add_9ea2d_1 : decode cJx4a65c_add_9ea2d 1 = .ok (.dup, 1) := by decide +kernel
theorem dJx4a65c_add_9ea2d_2 : decode cJx4a65c_add_9ea2d 2 = .ok (.getfield 63, 3) := by decide +kernel
theorem dJx4a65c_add_9ea2d_5 : decode cJx4a65c_add_9ea2d 5 = .ok (.iconst 1, 1) := by decide +kernel
theorem dJx4a65c_add_9ea2d_6 : decode cJx4a65c_add_9ea2d 6 = .ok (.iadd, 1) := by decide +kernel
theorem dJx4a65c_add_9ea2d_7 : decode cJx4a65c_add_9ea2d 7 = .ok (.putfield 63, 3) := by decide +kernel
theorem dJx4a65c_add_9ea2d_10 : decode cJx4a65c_add_9ea2d 10 = .ok (.aload_n 0, 1) := by decide +kernel
theorem dJx4a65c_add_9ea2d_11 : decode cJx4a65c_add_9ea2d 11 = .ok (.aload_n 1, 1) := by decide +kernel
theorem dJx4a65c_add_9ea2d_12 : decode cJx4a65c_add_9ea2d 12 = .ok (.aload_n 0, 1) := by decide +kernel
theorem dJx4a65c_add_9ea2d_13 : decode cJx4a65c_add_9ea2d 13 = .ok (.getfield 9, 3) := by decide +kernel
theorem dJx4a65c_add_9ea2d_16 : decode cJx4a65c_add_9ea2d 16 = .ok (.aload_n 0, 1) := by decide +kernel
theorem dJx4a65c_add_9ea2d_17 : decode cJx4a65c_add_9ea2d 17 = .ok (.getfield 48, 3) := by decide +kernel
theorem dJx4a65c_add_9ea2d_20 : decode cJx4a65c_add_9ea2d 20 = .ok (.invokevirtual 131, 3) := by decide +kernel
theorem dJx4a65c_add_9ea2d_23 : decode cJx4a65c_add_9ea2d 23 = .ok (.iconst 1, 1) := by decide +kernel
theorem dJx4a65c_add_9ea2d_24 : decode cJx4a65c_add_9ea2d 24 = .ok (.ireturn, 1) := by decide +kernel
theorem dJx4a65c_remove_915e3_0 : decode cJx4a65c_remove_915e3 0 = .ok (.iload_n 1, 1) := by decide +kernel
theorem dJx4a65c_remove_915e3_1 : decode cJx4a65c_remove_915e3 1 = .ok (.aload_n 0, 1) := by decide +kernel
theorem dJx4a65c_remove_915e3_2 : decode cJx4a65c_remove_915e3 2 = .ok (.getfield 48, 3) := by decide +kernel
theorem dJx4a65c_remove_915e3_5 : decode cJx4a65c_remove_915e3 5 = .ok (.invokestatic 118, 3) := by decide +kernel
theorem dJx4a65c_remove_915e3_8 : decode cJx4a65c_remove_915e3 8 = .ok (.pop, 1) := by decide +kernel
theorem dJx4a65c_remove_915e3_9 : decode cJx4a65c_remove_915e3 9 = .ok (.aload_n 0, 1) := by decide +kernel
theorem dJx4a65c_remove_915e3_10 : decode cJx4a65c_remove_915e3 10 = .ok (.getfield 9, 3) := by decide +kernel
theorem dJx4a65c_remove_915e3_13 : decode cJx4a65c_remove_915e3 13 = .ok (.astore_n 2, 1) := by decide +kernel
theorem dJx4a65c_remove_915e3_14 : decode cJx4a65c_remove_915e3 14 = .ok (.aload_n 2, 1) := by decide +kernel
theorem dJx4a65c_remove_915e3_15 : decode cJx4a65c_remove_915e3 15 = .ok (.iload_n 1, 1) := by decide +kernel
theorem dJx4a65c_remove_915e3_16 : decode cJx4a65c_remove_915e3 16 = .ok (.aaload, 1) := by decide +kernel
theorem dJx4a65c_remove_915e3_17 : decode cJx4a65c_remove_915e3 17 = .ok (.astore_n 3, 1) := by decide +kernel
theorem dJx4a65c_remove_915e3_18 : decode cJx4a65c_remove_915e3 18 = .ok (.aload_n 0, 1) := by decide +kernel
theorem dJx4a65c_remove_915e3_19 : decode cJx4a65c_remove_915e3 19 = .ok (.aload_n 2, 1) := by decide +kernel
theorem dJx4a65c_remove_915e3_20 : decode cJx4a65c_remove_915e3 20 = .ok (.iload_n 1, 1) := by decide +kernel
theorem dJx4a65c_remove_915e3_21 : decode cJx4a65c_remove_915e3 21 = .ok (.invokevirtual 144, 3) := by decide +kernel
theorem dJx4a65c_remove_915e3_24 : decode cJx4a65c_remove_915e3 24 = .ok (.aload_n 3, 1) := by decide +kernel
theorem dJx4a65c_remove_915e3_25 : decode cJx4a65c_remove_915e3 25 = .ok (.areturn, 1) := by decide +kernel
theorem dJx4a65c_fastRemove_b59b0_0 : decode cJx4a65c_fastRemove_b59b0 0 = .ok (.aload_n 0, 1) := by decide +kernel
theorem dJx4a65c_fastRemove_b59b0_1 : decode cJx4a65c_fastRemove_b59b0 1 = .ok (.dup, 1) := by decide +kernel
theorem dJx4a65c_fastRemove_b59b0_2 : decode cJx4a65c_fastRemove_b59b0 2 = .ok (.getfield 63, 3) := by decide +kernel
theorem dJx4a65c_fastRemove_b59b0_5 : decode cJx4a65c_fastRemove_b59b0 5 = .ok (.iconst 1, 1) := by decide +kernel
theorem dJx4a65c_fastRemove_b59b0_6 : decode cJx4a65c_fastRemove_b59b0 6 = .ok (.iadd, 1) := by decide +kernel
theorem dJx4a65c_fastRemove_b59b0_7 : decode cJx4a65c_fastRemove_b59b0 7 = .ok (.putfield 63, 3) := by decide +kernel
theorem dJx4a65c_fastRemove_b59b0_10 : decode cJx4a65c_fastRemove_b59b0 10 = .ok (.aload_n 0, 1) := by decide +kernel
theorem dJx4a65c_fastRemove_b59b0_11 : decode cJx4a65c_fastRemove_b59b0 11 = .ok (.getfield 48, 3) := by decide +kernel
theorem dJx4a65c_fastRemove_b59b0_14 : decode cJx4a65c_fastRemove_b59b0 14 = .ok (.iconst 1, 1) := by decide +kernel
theorem dJx4a65c_fastRemove_b59b0_15 : decode cJx4a65c_fastRemove_b59b0 15 = .ok (.isub, 1) := by decide +kernel
theorem dJx4a65c_fastRemove_b59b0_16 : decode cJx4a65c_fastRemove_b59b0 16 = .ok (.dup, 1) := by decide +kernel
theorem dJx4a65c_fastRemove_b59b0_17 : decode cJx4a65c_fastRemove_b59b0 17 = .ok (.istore_n 3, 1) := by decide +kernel
theorem dJx4a65c_fastRemove_b59b0_18 : decode cJx4a65c_fastRemove_b59b0 18 = .ok (.iload_n 2, 1) := by decide +kernel
theorem dJx4a65c_fastRemove_b59b0_19 : decode cJx4a65c_fastRemove_b59b0 19 = .ok (.if_icmp .le 15, 3) := by decide +kernel
theorem dJx4a65c_fastRemove_b59b0_22 : decode cJx4a65c_fastRemove_b59b0 22 = .ok (.aload_n 1, 1) := by decide +kernel
theorem dJx4a65c_fastRemove_b59b0_23 : decode cJx4a65c_fastRemove_b59b0 23 = .ok (.iload_n 2, 1) := by decide +kernel
theorem dJx4a65c_fastRemove_b59b0_24 : decode cJx4a65c_fastRemove_b59b0 24 = .ok (.iconst 1, 1) := by decide +kernel
theorem dJx4a65c_fastRemove_b59b0_25 : decode cJx4a65c_fastRemove_b59b0 25 = .ok (.iadd, 1) := by decide +kernel
theorem dJx4a65c_fastRemove_b59b0_26 : decode cJx4a65c_fastRemove_b59b0 26 = .ok (.aload_n 1, 1) := by decide +kernel
theorem dJx4a65c_fastRemove_b59b0_27 : decode cJx4a65c_fastRemove_b59b0 27 = .ok (.iload_n 2, 1) := by decide +kernel
theorem dJx4a65c_fastRemove_b59b0_28 : decode cJx4a65c_fastRemove_b59b0 28 = .ok (.iload_n 3, 1) := by decide +kernel
theorem dJx4a65c_fastRemove_b59b0_29 : decode cJx4a65c_fastRemove_b59b0 29 = .ok (.iload_n 2, 1) := by decide +kernel
theorem dJx4a65c_fastRemove_b59b0_30 : decode cJx4a65c_fastRemove_b59b0 30 = .ok (.isub, 1) := by decide +kernel
theorem dJx4a65c_fastRemove_b59b0_31 : decode cJx4a65c_fastRemove_b59b0 31 = .ok (.invokestatic 112, 3) := by decide +kernel
theorem dJx4a65c_fastRemove_b59b0_34 : decode cJx4a65c_fastRemove_b59b0 34 = .ok (.aload_n 1, 1) := by decide +kernel
theorem dJx4a65c_fastRemove_b59b0_35 : decode cJx4a65c_fastRemove_b59b0 35 = .ok (.aload_n 0, 1) := by decide +kernel
theorem dJx4a65c_fastRemove_b59b0_36 : decode cJx4a65c_fastRemove_b59b0 36 = .ok (.iload_n 3, 1) := by decide +kernel
theorem dJx4a65c_fastRemove_b59b0_37 : decode cJx4a65c_fastRemove_b59b0 37 = .ok (.dup_x1, 1) := by decide +kernel
theorem dJx4a65c_fastRemove_b59b0_38 : decode cJx4a65c_fastRemove_b59b0 38 = .ok (.putfield 48, 3) := by decide +kernel
theorem dJx4a65c_fastRemove_b59b0_41 : decode cJx4a65c_fastRemove_b59b0 41 = .ok (.aconst_null, 1) := by decide +kernel
theorem dJx4a65c_fastRemove_b59b0_42 : decode cJx4a65c_fastRemove_b59b0 42 = .ok (.aastore, 1) := by decide +kernel
theorem dJx4a65c_fastRemove_b59b0_43 : decode cJx4a65c_fastRemove_b59b0 43 = .ok (.return_, 1) := by decide +kernel
theorem dJ7_copyOf_1904c_0 : decode cJ7_copyOf_1904c 0 = .ok (.aload_n 0, 1) := by decide +kernel
theorem dJ7_copyOf_1904c_1 : decode cJ7_copyOf_1904c 1 = .ok (.iload_n 1, 1) := by decide +kernel
theorem dJ7_copyOf_1904c_2 : decode cJ7_copyOf_1904c 2 = .ok (.aload_n 0, 1) := by decide +kernel
theorem dJ7_copyOf_1904c_3 : decode cJ7_copyOf_1904c 3 = .ok (.invokevirtual 86, 3) := by decide +kernel
theorem dJ7_copyOf_1904c_6 : decode cJ7_copyOf_1904c 6 = .ok (.invokestatic 300, 3) := by decide +kernel
theorem dJ7_copyOf_1904c_9 : decode cJ7_copyOf_1904c 9 = .ok (.areturn, 1) := by decide +kernel
theorem dJ7_copyOf_6403c_0 : decode cJ7_copyOf_6403c 0 = .ok (.aload_n 2, 1) := by decide +kernel
theorem dJ7_copyOf_6403c_1 : decode cJ7_copyOf_6403c 1 = .ok (.ldc 110, 2) := by decide +kernel
theorem dJ7_copyOf_6403c_3 : decode cJ7_copyOf_6403c 3 = .ok (.if_acmp .ne 10, 3) := by decide +kernel
theorem dJ7_copyOf_6403c_6 : decode cJ7_copyOf_6403c 6 = .ok (.iload_n 1, 1) := by decide +kernel
theorem dJ7_copyOf_6403c_7 : decode cJ7_copyOf_6403c 7 = .ok (.anewarray 2, 3) := by decide +kernel
theorem dJ7_copyOf_6403c_10 : decode cJ7_copyOf_6403c 10 = .ok (.goto 14, 3) := by decide +kernel
theorem dJ7_copyOf_6403c_13 : decode cJ7_copyOf_6403c 13 = .ok (.aload_n 2, 1) := by decide +kernel
theorem dJ7_copyOf_6403c_14 : decode cJ7_copyOf_6403c 14 = .ok (.invokevirtual 90, 3) := by decide +kernel
theorem dJ7_copyOf_6403c_17 : decode cJ7_copyOf_6403c 17 = .ok (.iload_n 1, 1) := by decide +kernel
theorem dJ7_copyOf_6403c_18 : decode cJ7_copyOf_6403c 18 = .ok (.invokestatic 95, 3) := by decide +kernel
theorem dJ7_copyOf_6403c_21 : decode cJ7_copyOf_6403c 21 = .ok (.checkcast 110, 3) := by decide +kernel
theorem dJ7_copyOf_6403c_24 : decode cJ7_copyOf_6403c 24 = .ok (.astore_n 3, 1) := by decide +kernel
theorem dJ7_copyOf_6403c_25 : decode cJ7_copyOf_6403c 25 = .ok (.aload_n 0, 1) := by decide +kernel
theorem dJ7_copyOf_6403c_26 : decode cJ7_copyOf_6403c 26 = .ok (.iconst 0, 1) := by decide +kernel
theorem dJ7_copyOf_6403c_27 : decode cJ7_copyOf_6403c 27 = .ok (.aload_n 3, 1) := by decide +kernel
theorem dJ7_copyOf_6403c_28 : decode cJ7_copyOf_6403c 28 = .ok (.iconst 0, 1) := by decide +kernel
theorem dJ7_copyOf_6403c_29 : decode cJ7_copyOf_6403c 29 = .ok (.aload_n 0, 1) := by decide +kernel
theorem dJ7_copyOf_6403c_30 : decode cJ7_copyOf_6403c 30 = .ok (.arraylength, 1) := by decide +kernel
theorem dJ7_copyOf_6403c_31 : decode cJ7_copyOf_6403c 31 = .ok (.iload_n 1, 1) := by decide +kernel
theorem dJ7_copyOf_6403c_32 : decode cJ7_copyOf_6403c 32 = .ok (.invokestatic 304, 3) := by decide +kernel
theorem dJ7_copyOf_6403c_35 : decode cJ7_copyOf_6403c 35 = .ok (.invokestatic 150, 3) := by decide +kernel
theorem dJ7_copyOf_6403c_38 : decode cJ7_copyOf_6403c 38 = .ok (.aload_n 3, 1) := by decide +kernel
theorem dJ7_copyOf_6403c_39 : decode cJ7_copyOf_6403c 39 = .ok (.areturn, 1) := by decide +kernel
theorem dJ15_checkIndex_7cf53_0 : decode cJ15_checkIndex_7cf53 0 = .ok (.iload_n 0, 1) := by decide +kernel
theorem dJ15_checkIndex_7cf53_1 : decode cJ15_checkIndex_7cf53 1 = .ok (.iload_n 1, 1) := by decide +kernel
theorem dJ15_checkIndex_7cf53_2 : decode cJ15_checkIndex_7cf53 2 = .ok (.aconst_null, 1) := by decide +kernel
theorem dJ15_checkIndex_7cf53_3 : decode cJ15_checkIndex_7cf53 3 = .ok (.invokestatic 105, 3) := by decide +kernel
theorem dJ15_checkIndex_7cf53_6 : decode cJ15_checkIndex_7cf53 6 = .ok (.ireturn, 1) := by decide +kernel
theorem dJ8_newLength_cabcc_0 : decode cJ8_newLength_cabcc 0 = .ok (.iload_n 0, 1) := by decide +kernel
theorem dJ8_newLength_cabcc_1 : decode cJ8_newLength_cabcc 1 = .ok (.iload_n 1, 1) := by decide +kernel
theorem dJ8_newLength_cabcc_2 : decode cJ8_newLength_cabcc 2 = .ok (.iload_n 2, 1) := by decide +kernel
theorem dJ8_newLength_cabcc_3 : decode cJ8_newLength_cabcc 3 = .ok (.invokestatic 194, 3) := by decide +kernel
theorem dJ8_newLength_cabcc_6 : decode cJ8_newLength_cabcc 6 = .ok (.iadd, 1) := by decide +kernel
theorem dJ8_newLength_cabcc_7 : decode cJ8_newLength_cabcc 7 = .ok (.istore_n 3, 1) := by decide +kernel
theorem dJ8_newLength_cabcc_8 : decode cJ8_newLength_cabcc 8 = .ok (.iconst 0, 1) := by decide +kernel
theorem dJ8_newLength_cabcc_9 : decode cJ8_newLength_cabcc 9 = .ok (.iload_n 3, 1) := by decide +kernel
theorem dJ8_newLength_cabcc_10 : decode cJ8_newLength_cabcc 10 = .ok (.if_icmp .ge 11, 3) := by decide +kernel
theorem dJ8_newLength_cabcc_13 : decode cJ8_newLength_cabcc 13 = .ok (.iload_n 3, 1) := by decide +kernel
theorem dJ8_newLength_cabcc_14 : decode cJ8_newLength_cabcc 14 = .ok (.ldc 200, 2) := by decide +kernel
theorem dJ8_newLength_cabcc_16 : decode cJ8_newLength_cabcc 16 = .ok (.if_icmp .gt 5, 3) := by decide +kernel
theorem dJ8_newLength_cabcc_19 : decode cJ8_newLength_cabcc 19 = .ok (.iload_n 3, 1) := by decide +kernel
theorem dJ8_newLength_cabcc_20 : decode cJ8_newLength_cabcc 20 = .ok (.ireturn, 1) := by decide +kernel
theorem dJ8_newLength_cabcc_21 : decode cJ8_newLength_cabcc 21 = .ok (.iload_n 0, 1) := by decide +kernel
theorem dJ8_newLength_cabcc_22 : decode cJ8_newLength_cabcc 22 = .ok (.iload_n 1, 1) := by decide +kernel
theorem dJ8_newLength_cabcc_23 : decode cJ8_newLength_cabcc 23 = .ok (.invokestatic 201, 3) := by decide +kernel
theorem dJ8_newLength_cabcc_26 : decode cJ8_newLength_cabcc 26 = .ok (.ireturn, 1) := by decide +kernel
theorem dJ8_hugeLength_7cf53_0 : decode cJ8_hugeLength_7cf53 0 = .ok (.iload_n 0, 1) := by decide +kernel
theorem dJ8_hugeLength_7cf53_1 : decode cJ8_hugeLength_7cf53 1 = .ok (.iload_n 1, 1) := by decide +kernel
theorem dJ8_hugeLength_7cf53_2 : decode cJ8_hugeLength_7cf53 2 = .ok (.iadd, 1) := by decide +kernel
theorem dJ8_hugeLength_7cf53_3 : decode cJ8_hugeLength_7cf53 3 = .ok (.istore_n 2, 1) := by decide +kernel
theorem dJ8_hugeLength_7cf53_4 : decode cJ8_hugeLength_7cf53 4 = .ok (.iload_n 2, 1) := by decide +kernel
theorem dJ8_hugeLength_7cf53_5 : decode cJ8_hugeLength_7cf53 5 = .ok (.ifCond .ge 44, 3) := by decide +kernel
theorem dJ8_hugeLength_7cf53_8 : decode cJ8_hugeLength_7cf53 8 = .ok (.new 204, 3) := by decide +kernel
theorem dJ8_hugeLength_7cf53_11 : decode cJ8_hugeLength_7cf53 11 = .ok (.dup, 1) := by decide +kernel
theorem dJ8_hugeLength_7cf53_12 : decode cJ8_hugeLength_7cf53 12 = .ok (.new 89, 3) := by decide +kernel
theorem dJ8_hugeLength_7cf53_15 : decode cJ8_hugeLength_7cf53 15 = .ok (.dup, 1) := by decide +kernel
theorem dJ8_hugeLength_7cf53_16 : decode cJ8_hugeLength_7cf53 16 = .ok (.invokespecial 91, 3) := by decide +kernel
theorem dJ8_hugeLength_7cf53_19 : decode cJ8_hugeLength_7cf53 19 = .ok (.ldc 206, 2) := by decide +kernel
theorem dJ8_hugeLength_7cf53_21 : decode cJ8_hugeLength_7cf53 21 = .ok (.invokevirtual 94, 3) := by decide +kernel
theorem dJ8_hugeLength_7cf53_24 : decode cJ8_hugeLength_7cf53 24 = .ok (.iload_n 0, 1) := by decide +kernel
theorem dJ8_hugeLength_7cf53_25 : decode cJ8_hugeLength_7cf53 25 = .ok (.invokevirtual 98, 3) := by decide +kernel
theorem dJ8_hugeLength_7cf53_28 : decode cJ8_hugeLength_7cf53 28 = .ok (.ldc 208, 2) := by decide +kernel
theorem dJ8_hugeLength_7cf53_30 : decode cJ8_hugeLength_7cf53 30 = .ok (.invokevirtual 94, 3) := by decide +kernel
theorem dJ8_hugeLength_7cf53_33 : decode cJ8_hugeLength_7cf53 33 = .ok (.iload_n 1, 1) := by decide +kernel
theorem dJ8_hugeLength_7cf53_34 : decode cJ8_hugeLength_7cf53 34 = .ok (.invokevirtual 98, 3) := by decide +kernel
theorem dJ8_hugeLength_7cf53_37 : decode cJ8_hugeLength_7cf53 37 = .ok (.ldc 210, 2) := by decide +kernel
theorem dJ8_hugeLength_7cf53_39 : decode cJ8_hugeLength_7cf53 39 = .ok (.invokevirtual 94, 3) := by decide +kernel
theorem dJ8_hugeLength_7cf53_42 : decode cJ8_hugeLength_7cf53 42 = .ok (.invokevirtual 101, 3) := by decide +kernel
theorem dJ8_hugeLength_7cf53_45 : decode cJ8_hugeLength_7cf53 45 = .ok (.invokespecial 212, 3) := by decide +kernel
theorem dJ8_hugeLength_7cf53_48 : decode cJ8_hugeLength_7cf53 48 = .ok (.athrow, 1) := by decide +kernel
theorem dJ8_hugeLength_7cf53_49 : decode cJ8_hugeLength_7cf53 49 = .ok (.iload_n 2, 1) := by decide +kernel
theorem dJ8_hugeLength_7cf53_50 : decode cJ8_hugeLength_7cf53 50 = .ok (.ldc 200, 2) := by decide +kernel
theorem dJ8_hugeLength_7cf53_52 : decode cJ8_hugeLength_7cf53 52 = .ok (.if_icmp .gt 6, 3) := by decide +kernel
theorem dJ8_hugeLength_7cf53_55 : decode cJ8_hugeLength_7cf53 55 = .ok (.ldc 200, 2) := by decide +kernel
theorem dJ8_hugeLength_7cf53_57 : decode cJ8_hugeLength_7cf53 57 = .ok (.ireturn, 1) := by decide +kernel
theorem dJ8_hugeLength_7cf53_58 : decode cJ8_hugeLength_7cf53 58 = .ok (.iload_n 2, 1) := by decide +kernel
theorem dJ8_hugeLength_7cf53_59 : decode cJ8_hugeLength_7cf53 59 = .ok (.ireturn, 1) := by decide +kernel
theorem dJ3_checkIndex_8e157_0 : decode cJ3_checkIndex_8e157 0 = .ok (.iload_n 0, 1) := by decide +kernel
theorem dJ3_checkIndex_8e157_1 : decode cJ3_checkIndex_8e157 1 = .ok (.ifCond .lt 8, 3) := by decide +kernel
theorem dJ3_checkIndex_8e157_4 : decode cJ3_checkIndex_8e157 4 = .ok (.iload_n 0, 1) := by decide +kernel
theorem dJ3_checkIndex_8e157_5 : decode cJ3_checkIndex_8e157 5 = .ok (.iload_n 1, 1) := by decide +kernel
theorem dJ3_checkIndex_8e157_6 : decode cJ3_checkIndex_8e157 6 = .ok (.if_icmp .lt 10, 3) := by decide +kernel
theorem dJ3_checkIndex_8e157_9 : decode cJ3_checkIndex_8e157 9 = .ok (.aload_n 2, 1) := by decide +kernel
theorem dJ3_checkIndex_8e157_10 : decode cJ3_checkIndex_8e157 10 = .ok (.iload_n 0, 1) := by decide +kernel
theorem dJ3_checkIndex_8e157_11 : decode cJ3_checkIndex_8e157 11 = .ok (.iload_n 1, 1) := by decide +kernel
theorem dJ3_checkIndex_8e157_12 : decode cJ3_checkIndex_8e157 12 = .ok (.invokestatic 95, 3) := by decide +kernel
theorem dJ3_checkIndex_8e157_15 : decode cJ3_checkIndex_8e157 15 = .ok (.athrow, 1) := by decide +kernel
theorem dJ3_checkIndex_8e157_16 : decode cJ3_checkIndex_8e157 16 = .ok (.iload_n 0, 1) := by decide +kernel
theorem dJ3_checkIndex_8e157_17 : decode cJ3_checkIndex_8e157 17 = .ok (.ireturn, 1) := by decide +kernel
