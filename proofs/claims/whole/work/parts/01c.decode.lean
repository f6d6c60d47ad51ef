theorem dX7_marks_64 : decode cX7_marks 64 = .ok (.getfield 44, 3) := by decide +kernel
theorem dX7_marks_67 : decode cX7_marks 67 = .ok (.sipush 600, 3) := by decide +kernel
theorem dX7_marks_70 : decode cX7_marks 70 = .ok (.aload_n 0, 1) := by decide +kernel
theorem dX7_marks_71 : decode cX7_marks 71 = .ok (.getfield 35, 3) := by decide +kernel
theorem dX7_marks_74 : decode cX7_marks 74 = .ok (.iload_n 1, 1) := by decide +kernel
theorem dX7_marks_75 : decode cX7_marks 75 = .ok (.iaload, 1) := by decide +kernel
theorem dX7_marks_76 : decode cX7_marks 76 = .ok (.imul, 1) := by decide +kernel
theorem dX7_marks_77 : decode cX7_marks 77 = .ok (.iload 4, 2) := by decide +kernel
theorem dX7_marks_79 : decode cX7_marks 79 = .ok (.iadd, 1) := by decide +kernel
theorem dX7_marks_80 : decode cX7_marks 80 = .ok (.iload_n 2, 1) := by decide +kernel
theorem dX7_marks_81 : decode cX7_marks 81 = .ok (.iastore, 1) := by decide +kernel
theorem dX7_marks_82 : decode cX7_marks 82 = .ok (.aload_n 0, 1) := by decide +kernel
theorem dX7_marks_83 : decode cX7_marks 83 = .ok (.getfield 47, 3) := by decide +kernel
theorem dX7_marks_86 : decode cX7_marks 86 = .ok (.sipush 600, 3) := by decide +kernel
theorem dX7_marks_89 : decode cX7_marks 89 = .ok (.aload_n 0, 1) := by decide +kernel
theorem dX7_marks_90 : decode cX7_marks 90 = .ok (.getfield 38, 3) := by decide +kernel
theorem dX7_marks_93 : decode cX7_marks 93 = .ok (.iload_n 1, 1) := by decide +kernel
theorem dX7_marks_94 : decode cX7_marks 94 = .ok (.iaload, 1) := by decide +kernel
theorem dX7_marks_95 : decode cX7_marks 95 = .ok (.imul, 1) := by decide +kernel
theorem dX7_marks_96 : decode cX7_marks 96 = .ok (.iload 4, 2) := by decide +kernel
theorem dX7_marks_98 : decode cX7_marks 98 = .ok (.iadd, 1) := by decide +kernel
theorem dX7_marks_99 : decode cX7_marks 99 = .ok (.iload_n 2, 1) := by decide +kernel
theorem dX7_marks_100 : decode cX7_marks 100 = .ok (.iastore, 1) := by decide +kernel
theorem dX7_marks_101 : decode cX7_marks 101 = .ok (.iinc 4 1, 3) := by decide +kernel
theorem dX7_marks_104 : decode cX7_marks 104 = .ok (.iinc 6 1, 3) := by decide +kernel
theorem dX7_marks_107 : decode cX7_marks 107 = .ok (.goto (-75), 3) := by decide +kernel
theorem dX7_marks_110 : decode cX7_marks 110 = .ok (.iinc 5 1, 3) := by decide +kernel
theorem dX7_marks_113 : decode cX7_marks 113 = .ok (.goto (-95), 3) := by decide +kernel
theorem dX7_marks_116 : decode cX7_marks 116 = .ok (.return_, 1) := by decide +kernel
theorem dX7_lays_0 : decode cX7_lays 0 = .ok (.aload_n 0, 1) := by decide +kernel
theorem dX7_lays_1 : decode cX7_lays 1 = .ok (.getfield 32, 3) := by decide +kernel
theorem dX7_lays_4 : decode cX7_lays 4 = .ok (.iload_n 1, 1) := by decide +kernel
theorem dX7_lays_5 : decode cX7_lays 5 = .ok (.iload_n 2, 1) := by decide +kernel
theorem dX7_lays_6 : decode cX7_lays 6 = .ok (.iastore, 1) := by decide +kernel
theorem dX7_lays_7 : decode cX7_lays 7 = .ok (.aload_n 0, 1) := by decide +kernel
theorem dX7_lays_8 : decode cX7_lays 8 = .ok (.getfield 35, 3) := by decide +kernel
theorem dX7_lays_11 : decode cX7_lays 11 = .ok (.iload_n 1, 1) := by decide +kernel
theorem dX7_lays_12 : decode cX7_lays 12 = .ok (.aload_n 0, 1) := by decide +kernel
theorem dX7_lays_13 : decode cX7_lays 13 = .ok (.getfield 107, 3) := by decide +kernel
theorem dX7_lays_16 : decode cX7_lays 16 = .ok (.iastore, 1) := by decide +kernel
theorem dX7_lays_17 : decode cX7_lays 17 = .ok (.aload_n 0, 1) := by decide +kernel
theorem dX7_lays_18 : decode cX7_lays 18 = .ok (.getfield 38, 3) := by decide +kernel
theorem dX7_lays_21 : decode cX7_lays 21 = .ok (.iload_n 1, 1) := by decide +kernel
theorem dX7_lays_22 : decode cX7_lays 22 = .ok (.aload_n 0, 1) := by decide +kernel
theorem dX7_lays_23 : decode cX7_lays 23 = .ok (.getfield 114, 3) := by decide +kernel
theorem dX7_lays_26 : decode cX7_lays 26 = .ok (.iastore, 1) := by decide +kernel
theorem dX7_lays_27 : decode cX7_lays 27 = .ok (.aload_n 0, 1) := by decide +kernel
theorem dX7_lays_28 : decode cX7_lays 28 = .ok (.getfield 41, 3) := by decide +kernel
theorem dX7_lays_31 : decode cX7_lays 31 = .ok (.iload_n 1, 1) := by decide +kernel
theorem dX7_lays_32 : decode cX7_lays 32 = .ok (.iload_n 3, 1) := by decide +kernel
theorem dX7_lays_33 : decode cX7_lays 33 = .ok (.iastore, 1) := by decide +kernel
theorem dX7_lays_34 : decode cX7_lays 34 = .ok (.aload_n 0, 1) := by decide +kernel
theorem dX7_lays_35 : decode cX7_lays 35 = .ok (.iload_n 1, 1) := by decide +kernel
theorem dX7_lays_36 : decode cX7_lays 36 = .ok (.iload_n 1, 1) := by decide +kernel
theorem dX7_lays_37 : decode cX7_lays 37 = .ok (.invokevirtual 117, 3) := by decide +kernel
theorem dX7_lays_40 : decode cX7_lays 40 = .ok (.return_, 1) := by decide +kernel
theorem dX7_books_0 : decode cX7_books 0 = .ok (.aload_n 0, 1) := by decide +kernel
theorem dX7_books_1 : decode cX7_books 1 = .ok (.aload_n 0, 1) := by decide +kernel
theorem dX7_books_2 : decode cX7_books 2 = .ok (.getfield 70, 3) := by decide +kernel
theorem dX7_books_5 : decode cX7_books 5 = .ok (.iload_n 1, 1) := by decide +kernel
theorem dX7_books_6 : decode cX7_books 6 = .ok (.iload_n 2, 1) := by decide +kernel
theorem dX7_books_7 : decode cX7_books 7 = .ok (.invokevirtual 121, 3) := by decide +kernel
theorem dX7_books_10 : decode cX7_books 10 = .ok (.aload_n 0, 1) := by decide +kernel
theorem dX7_books_11 : decode cX7_books 11 = .ok (.getfield 28, 3) := by decide +kernel
theorem dX7_books_14 : decode cX7_books 14 = .ok (.iload_n 1, 1) := by decide +kernel
theorem dX7_books_15 : decode cX7_books 15 = .ok (.iconst 1, 1) := by decide +kernel
theorem dX7_books_16 : decode cX7_books 16 = .ok (.bastore, 1) := by decide +kernel
theorem dX7_books_17 : decode cX7_books 17 = .ok (.aload_n 0, 1) := by decide +kernel
theorem dX7_books_18 : decode cX7_books 18 = .ok (.dup, 1) := by decide +kernel
theorem dX7_books_19 : decode cX7_books 19 = .ok (.getfield 70, 3) := by decide +kernel
theorem dX7_books_22 : decode cX7_books 22 = .ok (.iconst 1, 1) := by decide +kernel
theorem dX7_books_23 : decode cX7_books 23 = .ok (.iadd, 1) := by decide +kernel
theorem dX7_books_24 : decode cX7_books 24 = .ok (.putfield 70, 3) := by decide +kernel
theorem dX7_books_27 : decode cX7_books 27 = .ok (.aload_n 0, 1) := by decide +kernel
theorem dX7_books_28 : decode cX7_books 28 = .ok (.getfield 70, 3) := by decide +kernel
theorem dX7_books_31 : decode cX7_books 31 = .ok (.iconst 1, 1) := by decide +kernel
theorem dX7_books_32 : decode cX7_books 32 = .ok (.isub, 1) := by decide +kernel
theorem dX7_books_33 : decode cX7_books 33 = .ok (.ireturn, 1) := by decide +kernel
theorem dX7_book_0 : decode cX7_book 0 = .ok (.aload_n 0, 1) := by decide +kernel
theorem dX7_book_1 : decode cX7_book 1 = .ok (.iload_n 1, 1) := by decide +kernel
theorem dX7_book_2 : decode cX7_book 2 = .ok (.invokevirtual 84, 3) := by decide +kernel
theorem dX7_book_5 : decode cX7_book 5 = .ok (.ifCond .eq 10, 3) := by decide +kernel
theorem dX7_book_8 : decode cX7_book 8 = .ok (.iload_n 2, 1) := by decide +kernel
theorem dX7_book_9 : decode cX7_book 9 = .ok (.invokestatic 124, 3) := by decide +kernel
theorem dX7_book_12 : decode cX7_book 12 = .ok (.ifCond .ne 7, 3) := by decide +kernel
theorem dX7_book_15 : decode cX7_book 15 = .ok (.iconst 1, 1) := by decide +kernel
theorem dX7_book_16 : decode cX7_book 16 = .ok (.goto 17, 3) := by decide +kernel
theorem dX7_book_19 : decode cX7_book 19 = .ok (.aload_n 0, 1) := by decide +kernel
theorem dX7_book_20 : decode cX7_book 20 = .ok (.getfield 70, 3) := by decide +kernel
theorem dX7_book_23 : decode cX7_book 23 = .ok (.bipush 30, 2) := by decide +kernel
theorem dX7_book_25 : decode cX7_book 25 = .ok (.if_icmp .ne 7, 3) := by decide +kernel
theorem dX7_book_28 : decode cX7_book 28 = .ok (.iconst 2, 1) := by decide +kernel
theorem dX7_book_29 : decode cX7_book 29 = .ok (.goto 4, 3) := by decide +kernel
theorem dX7_book_32 : decode cX7_book 32 = .ok (.iconst 0, 1) := by decide +kernel
theorem dX7_book_33 : decode cX7_book 33 = .ok (.istore_n 3, 1) := by decide +kernel
theorem dX7_book_34 : decode cX7_book 34 = .ok (.iload_n 3, 1) := by decide +kernel
theorem dX7_book_35 : decode cX7_book 35 = .ok (.ifCond .ne 13, 3) := by decide +kernel
theorem dX7_book_38 : decode cX7_book 38 = .ok (.aload_n 0, 1) := by decide +kernel
theorem dX7_book_39 : decode cX7_book 39 = .ok (.iload_n 1, 1) := by decide +kernel
theorem dX7_book_40 : decode cX7_book 40 = .ok (.iload_n 2, 1) := by decide +kernel
theorem dX7_book_41 : decode cX7_book 41 = .ok (.iconst (-1), 1) := by decide +kernel
theorem dX7_book_42 : decode cX7_book 42 = .ok (.invokevirtual 127, 3) := by decide +kernel
theorem dX7_book_45 : decode cX7_book 45 = .ok (.goto 4, 3) := by decide +kernel
theorem dX7_book_48 : decode cX7_book 48 = .ok (.iconst (-1), 1) := by decide +kernel
theorem dX7_book_49 : decode cX7_book 49 = .ok (.istore 4, 2) := by decide +kernel
theorem dX7_book_51 : decode cX7_book 51 = .ok (.aload_n 0, 1) := by decide +kernel
theorem dX7_book_52 : decode cX7_book 52 = .ok (.iload_n 3, 1) := by decide +kernel
theorem dX7_book_53 : decode cX7_book 53 = .ok (.ifCond .ne 13, 3) := by decide +kernel
theorem dX7_book_56 : decode cX7_book 56 = .ok (.iload 4, 2) := by decide +kernel
theorem dX7_book_58 : decode cX7_book 58 = .ok (.iconst (-1), 1) := by decide +kernel
theorem dX7_book_59 : decode cX7_book 59 = .ok (.if_icmp .ne 7, 3) := by decide +kernel
theorem dX7_book_62 : decode cX7_book 62 = .ok (.iconst 3, 1) := by decide +kernel
theorem dX7_book_63 : decode cX7_book 63 = .ok (.goto 4, 3) := by decide +kernel
theorem dX7_book_66 : decode cX7_book 66 = .ok (.iload_n 3, 1) := by decide +kernel
theorem dX7_book_67 : decode cX7_book 67 = .ok (.invokevirtual 77, 3) := by decide +kernel
theorem dX7_book_70 : decode cX7_book 70 = .ok (.ifCond .ne 5, 3) := by decide +kernel
theorem dX7_book_73 : decode cX7_book 73 = .ok (.iconst 0, 1) := by decide +kernel
theorem dX7_book_74 : decode cX7_book 74 = .ok (.ireturn, 1) := by decide +kernel
theorem dX7_book_75 : decode cX7_book 75 = .ok (.aload_n 0, 1) := by decide +kernel
theorem dX7_book_76 : decode cX7_book 76 = .ok (.iload_n 1, 1) := by decide +kernel
theorem dX7_book_77 : decode cX7_book 77 = .ok (.iload 4, 2) := by decide +kernel
theorem dX7_book_79 : decode cX7_book 79 = .ok (.invokevirtual 130, 3) := by decide +kernel
theorem dX7_book_82 : decode cX7_book 82 = .ok (.ireturn, 1) := by decide +kernel
theorem dX7_bookWith_0 : decode cX7_bookWith 0 = .ok (.aload_n 0, 1) := by decide +kernel
theorem dX7_bookWith_1 : decode cX7_bookWith 1 = .ok (.iload_n 1, 1) := by decide +kernel
theorem dX7_bookWith_2 : decode cX7_bookWith 2 = .ok (.invokevirtual 84, 3) := by decide +kernel
theorem dX7_bookWith_5 : decode cX7_bookWith 5 = .ok (.ifCond .eq 18, 3) := by decide +kernel
theorem dX7_bookWith_8 : decode cX7_bookWith 8 = .ok (.aload_n 0, 1) := by decide +kernel
theorem dX7_bookWith_9 : decode cX7_bookWith 9 = .ok (.iload_n 2, 1) := by decide +kernel
theorem dX7_bookWith_10 : decode cX7_bookWith 10 = .ok (.invokevirtual 133, 3) := by decide +kernel
theorem dX7_bookWith_13 : decode cX7_bookWith 13 = .ok (.ifCond .eq 10, 3) := by decide +kernel
theorem dX7_bookWith_16 : decode cX7_bookWith 16 = .ok (.iload_n 3, 1) := by decide +kernel
theorem dX7_bookWith_17 : decode cX7_bookWith 17 = .ok (.invokestatic 124, 3) := by decide +kernel
theorem dX7_bookWith_20 : decode cX7_bookWith 20 = .ok (.ifCond .ne 7, 3) := by decide +kernel
theorem dX7_bookWith_23 : decode cX7_bookWith 23 = .ok (.iconst 1, 1) := by decide +kernel
theorem dX7_bookWith_24 : decode cX7_bookWith 24 = .ok (.goto 17, 3) := by decide +kernel
theorem dX7_bookWith_27 : decode cX7_bookWith 27 = .ok (.aload_n 0, 1) := by decide +kernel
theorem dX7_bookWith_28 : decode cX7_bookWith 28 = .ok (.getfield 70, 3) := by decide +kernel
theorem dX7_bookWith_31 : decode cX7_bookWith 31 = .ok (.bipush 30, 2) := by decide +kernel
theorem dX7_bookWith_33 : decode cX7_bookWith 33 = .ok (.if_icmp .ne 7, 3) := by decide +kernel
theorem dX7_bookWith_36 : decode cX7_bookWith 36 = .ok (.iconst 2, 1) := by decide +kernel
theorem dX7_bookWith_37 : decode cX7_bookWith 37 = .ok (.goto 4, 3) := by decide +kernel
theorem dX7_bookWith_40 : decode cX7_bookWith 40 = .ok (.iconst 0, 1) := by decide +kernel
theorem dX7_bookWith_41 : decode cX7_bookWith 41 = .ok (.istore 4, 2) := by decide +kernel
theorem dX7_bookWith_43 : decode cX7_bookWith 43 = .ok (.iload 4, 2) := by decide +kernel
theorem dX7_bookWith_45 : decode cX7_bookWith 45 = .ok (.ifCond .ne 13, 3) := by decide +kernel
theorem dX7_bookWith_48 : decode cX7_bookWith 48 = .ok (.aload_n 0, 1) := by decide +kernel
theorem dX7_bookWith_49 : decode cX7_bookWith 49 = .ok (.iload_n 1, 1) := by decide +kernel
theorem dX7_bookWith_50 : decode cX7_bookWith 50 = .ok (.iload_n 3, 1) := by decide +kernel
theorem dX7_bookWith_51 : decode cX7_bookWith 51 = .ok (.iload_n 2, 1) := by decide +kernel
theorem dX7_bookWith_52 : decode cX7_bookWith 52 = .ok (.invokevirtual 127, 3) := by decide +kernel
theorem dX7_bookWith_55 : decode cX7_bookWith 55 = .ok (.goto 4, 3) := by decide +kernel
theorem dX7_bookWith_58 : decode cX7_bookWith 58 = .ok (.iconst (-1), 1) := by decide +kernel
theorem dX7_bookWith_59 : decode cX7_bookWith 59 = .ok (.istore 5, 2) := by decide +kernel
theorem dX7_bookWith_61 : decode cX7_bookWith 61 = .ok (.aload_n 0, 1) := by decide +kernel
theorem dX7_bookWith_62 : decode cX7_bookWith 62 = .ok (.iload 4, 2) := by decide +kernel
theorem dX7_bookWith_64 : decode cX7_bookWith 64 = .ok (.ifCond .ne 13, 3) := by decide +kernel
theorem dX7_bookWith_67 : decode cX7_bookWith 67 = .ok (.iload 5, 2) := by decide +kernel
theorem dX7_bookWith_69 : decode cX7_bookWith 69 = .ok (.iconst (-1), 1) := by decide +kernel
theorem dX7_bookWith_70 : decode cX7_bookWith 70 = .ok (.if_icmp .ne 7, 3) := by decide +kernel
theorem dX7_bookWith_73 : decode cX7_bookWith 73 = .ok (.iconst 3, 1) := by decide +kernel
theorem dX7_bookWith_74 : decode cX7_bookWith 74 = .ok (.goto 5, 3) := by decide +kernel
theorem dX7_bookWith_77 : decode cX7_bookWith 77 = .ok (.iload 4, 2) := by decide +kernel
theorem dX7_bookWith_79 : decode cX7_bookWith 79 = .ok (.invokevirtual 77, 3) := by decide +kernel
theorem dX7_bookWith_82 : decode cX7_bookWith 82 = .ok (.ifCond .ne 5, 3) := by decide +kernel
theorem dX7_bookWith_85 : decode cX7_bookWith 85 = .ok (.iconst 0, 1) := by decide +kernel
theorem dX7_bookWith_86 : decode cX7_bookWith 86 = .ok (.ireturn, 1) := by decide +kernel
theorem dX7_bookWith_87 : decode cX7_bookWith 87 = .ok (.aload_n 0, 1) := by decide +kernel
theorem dX7_bookWith_88 : decode cX7_bookWith 88 = .ok (.iload_n 1, 1) := by decide +kernel
theorem dX7_bookWith_89 : decode cX7_bookWith 89 = .ok (.iload 5, 2) := by decide +kernel
theorem dX7_bookWith_91 : decode cX7_bookWith 91 = .ok (.invokevirtual 130, 3) := by decide +kernel
theorem dX7_bookWith_94 : decode cX7_bookWith 94 = .ok (.ireturn, 1) := by decide +kernel
theorem dX7_serves_0 : decode cX7_serves 0 = .ok (.iconst 0, 1) := by decide +kernel
theorem dX7_serves_1 : decode cX7_serves 1 = .ok (.istore_n 1, 1) := by decide +kernel
theorem dX7_serves_2 : decode cX7_serves 2 = .ok (.iconst 0, 1) := by decide +kernel
theorem dX7_serves_3 : decode cX7_serves 3 = .ok (.istore_n 2, 1) := by decide +kernel
theorem dX7_serves_4 : decode cX7_serves 4 = .ok (.aload_n 0, 1) := by decide +kernel
theorem dX7_serves_5 : decode cX7_serves 5 = .ok (.getfield 136, 3) := by decide +kernel
theorem dX7_serves_8 : decode cX7_serves 8 = .ok (.istore_n 3, 1) := by decide +kernel
theorem dX7_serves_9 : decode cX7_serves 9 = .ok (.iconst 0, 1) := by decide +kernel
theorem dX7_serves_10 : decode cX7_serves 10 = .ok (.istore 4, 2) := by decide +kernel
theorem dX7_serves_12 : decode cX7_serves 12 = .ok (.iload 4, 2) := by decide +kernel
theorem dX7_serves_14 : decode cX7_serves 14 = .ok (.iload_n 3, 1) := by decide +kernel
theorem dX7_serves_15 : decode cX7_serves 15 = .ok (.if_icmp .ge 104, 3) := by decide +kernel
theorem dX7_serves_18 : decode cX7_serves 18 = .ok (.aload_n 0, 1) := by decide +kernel
theorem dX7_serves_19 : decode cX7_serves 19 = .ok (.getfield 70, 3) := by decide +kernel
theorem dX7_serves_22 : decode cX7_serves 22 = .ok (.bipush 30, 2) := by decide +kernel
theorem dX7_serves_24 : decode cX7_serves 24 = .ok (.if_icmp .ne 7, 3) := by decide +kernel
theorem dX7_serves_27 : decode cX7_serves 27 = .ok (.iconst (-1), 1) := by decide +kernel
theorem dX7_serves_28 : decode cX7_serves 28 = .ok (.goto 16, 3) := by decide +kernel
theorem dX7_serves_31 : decode cX7_serves 31 = .ok (.aload_n 0, 1) := by decide +kernel
theorem dX7_serves_32 : decode cX7_serves 32 = .ok (.aload_n 0, 1) := by decide +kernel
theorem dX7_serves_33 : decode cX7_serves 33 = .ok (.getfield 50, 3) := by decide +kernel
theorem dX7_serves_36 : decode cX7_serves 36 = .ok (.iload 4, 2) := by decide +kernel
theorem dX7_serves_38 : decode cX7_serves 38 = .ok (.iaload, 1) := by decide +kernel
theorem dX7_serves_39 : decode cX7_serves 39 = .ok (.iconst 0, 1) := by decide +kernel
theorem dX7_serves_40 : decode cX7_serves 40 = .ok (.iconst (-1), 1) := by decide +kernel
theorem dX7_serves_41 : decode cX7_serves 41 = .ok (.invokevirtual 127, 3) := by decide +kernel
theorem dX7_serves_44 : decode cX7_serves 44 = .ok (.istore 5, 2) := by decide +kernel
theorem dX7_serves_46 : decode cX7_serves 46 = .ok (.iload 5, 2) := by decide +kernel
theorem dX7_serves_48 : decode cX7_serves 48 = .ok (.iconst (-1), 1) := by decide +kernel
theorem dX7_serves_49 : decode cX7_serves 49 = .ok (.if_icmp .eq 35, 3) := by decide +kernel
theorem dX7_serves_52 : decode cX7_serves 52 = .ok (.iload 5, 2) := by decide +kernel
theorem dX7_serves_54 : decode cX7_serves 54 = .ok (.aload_n 0, 1) := by decide +kernel
theorem dX7_serves_55 : decode cX7_serves 55 = .ok (.getfield 53, 3) := by decide +kernel
theorem dX7_serves_58 : decode cX7_serves 58 = .ok (.iload 4, 2) := by decide +kernel
theorem dX7_serves_60 : decode cX7_serves 60 = .ok (.iaload, 1) := by decide +kernel
theorem dX7_serves_61 : decode cX7_serves 61 = .ok (.if_icmp .gt 23, 3) := by decide +kernel
theorem dX7_serves_64 : decode cX7_serves 64 = .ok (.aload_n 0, 1) := by decide +kernel
theorem dX7_serves_65 : decode cX7_serves 65 = .ok (.aload_n 0, 1) := by decide +kernel
theorem dX7_serves_66 : decode cX7_serves 66 = .ok (.getfield 50, 3) := by decide +kernel
theorem dX7_serves_69 : decode cX7_serves 69 = .ok (.iload 4, 2) := by decide +kernel
theorem dX7_serves_71 : decode cX7_serves 71 = .ok (.iaload, 1) := by decide +kernel
theorem dX7_serves_72 : decode cX7_serves 72 = .ok (.iload 5, 2) := by decide +kernel
theorem dX7_serves_74 : decode cX7_serves 74 = .ok (.invokevirtual 130, 3) := by decide +kernel
theorem dX7_serves_77 : decode cX7_serves 77 = .ok (.pop, 1) := by decide +kernel
theorem dX7_serves_78 : decode cX7_serves 78 = .ok (.iinc 2 1, 3) := by decide +kernel
theorem dX7_serves_81 : decode cX7_serves 81 = .ok (.goto 32, 3) := by decide +kernel
theorem dX7_serves_84 : decode cX7_serves 84 = .ok (.aload_n 0, 1) := by decide +kernel
theorem dX7_serves_85 : decode cX7_serves 85 = .ok (.getfield 50, 3) := by decide +kernel
theorem dX7_serves_88 : decode cX7_serves 88 = .ok (.iload_n 1, 1) := by decide +kernel
theorem dX7_serves_89 : decode cX7_serves 89 = .ok (.aload_n 0, 1) := by decide +kernel
theorem dX7_serves_90 : decode cX7_serves 90 = .ok (.getfield 50, 3) := by decide +kernel
theorem dX7_serves_93 : decode cX7_serves 93 = .ok (.iload 4, 2) := by decide +kernel
theorem dX7_serves_95 : decode cX7_serves 95 = .ok (.iaload, 1) := by decide +kernel
theorem dX7_serves_96 : decode cX7_serves 96 = .ok (.iastore, 1) := by decide +kernel
theorem dX7_serves_97 : decode cX7_serves 97 = .ok (.aload_n 0, 1) := by decide +kernel
theorem dX7_serves_98 : decode cX7_serves 98 = .ok (.getfield 53, 3) := by decide +kernel
theorem dX7_serves_101 : decode cX7_serves 101 = .ok (.iload_n 1, 1) := by decide +kernel
theorem dX7_serves_102 : decode cX7_serves 102 = .ok (.aload_n 0, 1) := by decide +kernel
theorem dX7_serves_103 : decode cX7_serves 103 = .ok (.getfield 53, 3) := by decide +kernel
theorem dX7_serves_106 : decode cX7_serves 106 = .ok (.iload 4, 2) := by decide +kernel
theorem dX7_serves_108 : decode cX7_serves 108 = .ok (.iaload, 1) := by decide +kernel
theorem dX7_serves_109 : decode cX7_serves 109 = .ok (.iastore, 1) := by decide +kernel
theorem dX7_serves_110 : decode cX7_serves 110 = .ok (.iinc 1 1, 3) := by decide +kernel
theorem dX7_serves_113 : decode cX7_serves 113 = .ok (.iinc 4 1, 3) := by decide +kernel
theorem dX7_serves_116 : decode cX7_serves 116 = .ok (.goto (-104), 3) := by decide +kernel
theorem dX7_serves_119 : decode cX7_serves 119 = .ok (.aload_n 0, 1) := by decide +kernel
theorem dX7_serves_120 : decode cX7_serves 120 = .ok (.iload_n 1, 1) := by decide +kernel
theorem dX7_serves_121 : decode cX7_serves 121 = .ok (.putfield 136, 3) := by decide +kernel
theorem dX7_serves_124 : decode cX7_serves 124 = .ok (.iload_n 2, 1) := by decide +kernel
theorem dX7_serves_125 : decode cX7_serves 125 = .ok (.ireturn, 1) := by decide +kernel
theorem dX7_move_0 : decode cX7_move 0 = .ok (.aload_n 0, 1) := by decide +kernel
theorem dX7_move_1 : decode cX7_move 1 = .ok (.aload_n 0, 1) := by decide +kernel
theorem dX7_move_2 : decode cX7_move 2 = .ok (.iload_n 1, 1) := by decide +kernel
theorem dX7_move_3 : decode cX7_move 3 = .ok (.invokevirtual 139, 3) := by decide +kernel
theorem dX7_move_6 : decode cX7_move 6 = .ok (.ifCond .eq 14, 3) := by decide +kernel
theorem dX7_move_9 : decode cX7_move 9 = .ok (.iload_n 2, 1) := by decide +kernel
theorem dX7_move_10 : decode cX7_move 10 = .ok (.invokestatic 124, 3) := by decide +kernel
theorem dX7_move_13 : decode cX7_move 13 = .ok (.ifCond .eq 7, 3) := by decide +kernel
theorem dX7_move_16 : decode cX7_move 16 = .ok (.iconst 0, 1) := by decide +kernel
theorem dX7_move_17 : decode cX7_move 17 = .ok (.goto 4, 3) := by decide +kernel
theorem dX7_move_20 : decode cX7_move 20 = .ok (.iconst 1, 1) := by decide +kernel
theorem dX7_move_21 : decode cX7_move 21 = .ok (.invokevirtual 77, 3) := by decide +kernel
theorem dX7_move_24 : decode cX7_move 24 = .ok (.ifCond .ne 5, 3) := by decide +kernel
theorem dX7_move_27 : decode cX7_move 27 = .ok (.iconst 0, 1) := by decide +kernel
theorem dX7_move_28 : decode cX7_move 28 = .ok (.ireturn, 1) := by decide +kernel
theorem dX7_move_29 : decode cX7_move 29 = .ok (.aload_n 0, 1) := by decide +kernel
theorem dX7_move_30 : decode cX7_move 30 = .ok (.getfield 41, 3) := by decide +kernel
theorem dX7_move_33 : decode cX7_move 33 = .ok (.iload_n 1, 1) := by decide +kernel
theorem dX7_move_34 : decode cX7_move 34 = .ok (.iaload, 1) := by decide +kernel
theorem dX7_move_35 : decode cX7_move 35 = .ok (.istore_n 3, 1) := by decide +kernel
theorem dX7_move_36 : decode cX7_move 36 = .ok (.aload_n 0, 1) := by decide +kernel
theorem dX7_move_37 : decode cX7_move 37 = .ok (.iload_n 1, 1) := by decide +kernel
theorem dX7_move_38 : decode cX7_move 38 = .ok (.iconst (-1), 1) := by decide +kernel
theorem dX7_move_39 : decode cX7_move 39 = .ok (.invokevirtual 117, 3) := by decide +kernel
theorem dX7_move_42 : decode cX7_move 42 = .ok (.aload_n 0, 1) := by decide +kernel
theorem dX7_move_43 : decode cX7_move 43 = .ok (.getfield 41, 3) := by decide +kernel
theorem dX7_move_46 : decode cX7_move 46 = .ok (.iload_n 1, 1) := by decide +kernel
theorem dX7_move_47 : decode cX7_move 47 = .ok (.iconst (-1), 1) := by decide +kernel
theorem dX7_move_48 : decode cX7_move 48 = .ok (.iastore, 1) := by decide +kernel
theorem dX7_move_49 : decode cX7_move 49 = .ok (.aload_n 0, 1) := by decide +kernel
theorem dX7_move_50 : decode cX7_move 50 = .ok (.aload_n 0, 1) := by decide +kernel
theorem dX7_move_51 : decode cX7_move 51 = .ok (.getfield 32, 3) := by decide +kernel
theorem dX7_move_54 : decode cX7_move 54 = .ok (.iload_n 1, 1) := by decide +kernel
theorem dX7_move_55 : decode cX7_move 55 = .ok (.iaload, 1) := by decide +kernel
theorem dX7_move_56 : decode cX7_move 56 = .ok (.iload_n 2, 1) := by decide +kernel
theorem dX7_move_57 : decode cX7_move 57 = .ok (.iconst (-1), 1) := by decide +kernel
theorem dX7_move_58 : decode cX7_move 58 = .ok (.invokevirtual 127, 3) := by decide +kernel
theorem dX7_move_61 : decode cX7_move 61 = .ok (.istore 4, 2) := by decide +kernel
theorem dX7_move_63 : decode cX7_move 63 = .ok (.aload_n 0, 1) := by decide +kernel
theorem dX7_move_64 : decode cX7_move 64 = .ok (.iload 4, 2) := by decide +kernel
theorem dX7_move_66 : decode cX7_move 66 = .ok (.iconst (-1), 1) := by decide +kernel
theorem dX7_move_67 : decode cX7_move 67 = .ok (.if_icmp .ne 7, 3) := by decide +kernel
theorem dX7_move_70 : decode cX7_move 70 = .ok (.iconst 2, 1) := by decide +kernel
theorem dX7_move_71 : decode cX7_move 71 = .ok (.goto 4, 3) := by decide +kernel
theorem dX7_move_74 : decode cX7_move 74 = .ok (.iconst 0, 1) := by decide +kernel
theorem dX7_move_75 : decode cX7_move 75 = .ok (.invokevirtual 77, 3) := by decide +kernel
theorem dX7_move_78 : decode cX7_move 78 = .ok (.ifCond .ne 18, 3) := by decide +kernel
theorem dX7_move_81 : decode cX7_move 81 = .ok (.aload_n 0, 1) := by decide +kernel
theorem dX7_move_82 : decode cX7_move 82 = .ok (.getfield 41, 3) := by decide +kernel
theorem dX7_move_85 : decode cX7_move 85 = .ok (.iload_n 1, 1) := by decide +kernel
theorem dX7_move_86 : decode cX7_move 86 = .ok (.iload_n 3, 1) := by decide +kernel
theorem dX7_move_87 : decode cX7_move 87 = .ok (.iastore, 1) := by decide +kernel
theorem dX7_move_88 : decode cX7_move 88 = .ok (.aload_n 0, 1) := by decide +kernel
theorem dX7_move_89 : decode cX7_move 89 = .ok (.iload_n 1, 1) := by decide +kernel
theorem dX7_move_90 : decode cX7_move 90 = .ok (.iload_n 1, 1) := by decide +kernel
theorem dX7_move_91 : decode cX7_move 91 = .ok (.invokevirtual 117, 3) := by decide +kernel
theorem dX7_move_94 : decode cX7_move 94 = .ok (.iconst 0, 1) := by decide +kernel
theorem dX7_move_95 : decode cX7_move 95 = .ok (.ireturn, 1) := by decide +kernel
theorem dX7_move_96 : decode cX7_move 96 = .ok (.aload_n 0, 1) := by decide +kernel
theorem dX7_move_97 : decode cX7_move 97 = .ok (.iload_n 1, 1) := by decide +kernel
theorem dX7_move_98 : decode cX7_move 98 = .ok (.aload_n 0, 1) := by decide +kernel
theorem dX7_move_99 : decode cX7_move 99 = .ok (.getfield 32, 3) := by decide +kernel
theorem dX7_move_102 : decode cX7_move 102 = .ok (.iload_n 1, 1) := by decide +kernel
theorem dX7_move_103 : decode cX7_move 103 = .ok (.iaload, 1) := by decide +kernel
theorem dX7_move_104 : decode cX7_move 104 = .ok (.iload 4, 2) := by decide +kernel
theorem dX7_move_106 : decode cX7_move 106 = .ok (.invokevirtual 121, 3) := by decide +kernel
theorem dX7_move_109 : decode cX7_move 109 = .ok (.aload_n 0, 1) := by decide +kernel
theorem dX7_move_110 : decode cX7_move 110 = .ok (.invokevirtual 142, 3) := by decide +kernel
theorem dX7_move_113 : decode cX7_move 113 = .ok (.pop, 1) := by decide +kernel
theorem dX7_move_114 : decode cX7_move 114 = .ok (.aload_n 0, 1) := by decide +kernel
theorem dX7_move_115 : decode cX7_move 115 = .ok (.getfield 41, 3) := by decide +kernel
theorem dX7_move_118 : decode cX7_move 118 = .ok (.iload_n 1, 1) := by decide +kernel
theorem dX7_move_119 : decode cX7_move 119 = .ok (.iaload, 1) := by decide +kernel
theorem dX7_move_120 : decode cX7_move 120 = .ok (.ireturn, 1) := by decide +kernel
theorem dX7_drop_0 : decode cX7_drop 0 = .ok (.aload_n 0, 1) := by decide +kernel
theorem dX7_drop_1 : decode cX7_drop 1 = .ok (.aload_n 0, 1) := by decide +kernel
theorem dX7_drop_2 : decode cX7_drop 2 = .ok (.iload_n 1, 1) := by decide +kernel
theorem dX7_drop_3 : decode cX7_drop 3 = .ok (.invokevirtual 139, 3) := by decide +kernel
theorem dX7_drop_6 : decode cX7_drop 6 = .ok (.ifCond .eq 7, 3) := by decide +kernel
theorem dX7_drop_9 : decode cX7_drop 9 = .ok (.iconst 0, 1) := by decide +kernel
theorem dX7_drop_10 : decode cX7_drop 10 = .ok (.goto 4, 3) := by decide +kernel
theorem dX7_drop_13 : decode cX7_drop 13 = .ok (.iconst 1, 1) := by decide +kernel
theorem dX7_drop_14 : decode cX7_drop 14 = .ok (.invokevirtual 77, 3) := by decide +kernel
theorem dX7_drop_17 : decode cX7_drop 17 = .ok (.ifCond .ne 5, 3) := by decide +kernel
theorem dX7_drop_20 : decode cX7_drop 20 = .ok (.iconst 0, 1) := by decide +kernel
theorem dX7_drop_21 : decode cX7_drop 21 = .ok (.ireturn, 1) := by decide +kernel
theorem dX7_drop_22 : decode cX7_drop 22 = .ok (.aload_n 0, 1) := by decide +kernel
theorem dX7_drop_23 : decode cX7_drop 23 = .ok (.iload_n 1, 1) := by decide +kernel
theorem dX7_drop_24 : decode cX7_drop 24 = .ok (.iconst (-1), 1) := by decide +kernel
theorem dX7_drop_25 : decode cX7_drop 25 = .ok (.invokevirtual 117, 3) := by decide +kernel
theorem dX7_drop_28 : decode cX7_drop 28 = .ok (.aload_n 0, 1) := by decide +kernel
theorem dX7_drop_29 : decode cX7_drop 29 = .ok (.getfield 41, 3) := by decide +kernel
theorem dX7_drop_32 : decode cX7_drop 32 = .ok (.iload_n 1, 1) := by decide +kernel
theorem dX7_drop_33 : decode cX7_drop 33 = .ok (.iconst (-1), 1) := by decide +kernel
theorem dX7_drop_34 : decode cX7_drop 34 = .ok (.iastore, 1) := by decide +kernel
theorem dX7_drop_35 : decode cX7_drop 35 = .ok (.aload_n 0, 1) := by decide +kernel
theorem dX7_drop_36 : decode cX7_drop 36 = .ok (.invokevirtual 142, 3) := by decide +kernel
theorem dX7_drop_39 : decode cX7_drop 39 = .ok (.ireturn, 1) := by decide +kernel
theorem dX7_request_0 : decode cX7_request 0 = .ok (.aload_n 0, 1) := by decide +kernel
theorem dX7_request_1 : decode cX7_request 1 = .ok (.aload_n 0, 1) := by decide +kernel
theorem dX7_request_2 : decode cX7_request 2 = .ok (.iload_n 1, 1) := by decide +kernel
theorem dX7_request_3 : decode cX7_request 3 = .ok (.invokevirtual 84, 3) := by decide +kernel
theorem dX7_request_6 : decode cX7_request 6 = .ok (.ifCond .eq 10, 3) := by decide +kernel
theorem dX7_request_9 : decode cX7_request 9 = .ok (.iload_n 2, 1) := by decide +kernel
theorem dX7_request_10 : decode cX7_request 10 = .ok (.invokestatic 124, 3) := by decide +kernel
theorem dX7_request_13 : decode cX7_request 13 = .ok (.ifCond .ne 7, 3) := by decide +kernel
theorem dX7_request_16 : decode cX7_request 16 = .ok (.iconst 1, 1) := by decide +kernel
theorem dX7_request_17 : decode cX7_request 17 = .ok (.goto 17, 3) := by decide +kernel
theorem dX7_request_20 : decode cX7_request 20 = .ok (.aload_n 0, 1) := by decide +kernel
theorem dX7_request_21 : decode cX7_request 21 = .ok (.getfield 136, 3) := by decide +kernel
theorem dX7_request_24 : decode cX7_request 24 = .ok (.bipush 6, 2) := by decide +kernel
theorem dX7_request_26 : decode cX7_request 26 = .ok (.if_icmp .ne 7, 3) := by decide +kernel
theorem dX7_request_29 : decode cX7_request 29 = .ok (.iconst 2, 1) := by decide +kernel
theorem dX7_request_30 : decode cX7_request 30 = .ok (.goto 4, 3) := by decide +kernel
theorem dX7_request_33 : decode cX7_request 33 = .ok (.iconst 0, 1) := by decide +kernel
theorem dX7_request_34 : decode cX7_request 34 = .ok (.invokevirtual 77, 3) := by decide +kernel
theorem dX7_request_37 : decode cX7_request 37 = .ok (.ifCond .ne 5, 3) := by decide +kernel
theorem dX7_request_40 : decode cX7_request 40 = .ok (.iconst 0, 1) := by decide +kernel
theorem dX7_request_41 : decode cX7_request 41 = .ok (.ireturn, 1) := by decide +kernel
theorem dX7_request_42 : decode cX7_request 42 = .ok (.aload_n 0, 1) := by decide +kernel
theorem dX7_request_43 : decode cX7_request 43 = .ok (.getfield 50, 3) := by decide +kernel
theorem dX7_request_46 : decode cX7_request 46 = .ok (.aload_n 0, 1) := by decide +kernel
theorem dX7_request_47 : decode cX7_request 47 = .ok (.getfield 136, 3) := by decide +kernel
theorem dX7_request_50 : decode cX7_request 50 = .ok (.iload_n 1, 1) := by decide +kernel
theorem dX7_request_51 : decode cX7_request 51 = .ok (.iastore, 1) := by decide +kernel
theorem dX7_request_52 : decode cX7_request 52 = .ok (.aload_n 0, 1) := by decide +kernel
theorem dX7_request_53 : decode cX7_request 53 = .ok (.getfield 53, 3) := by decide +kernel
theorem dX7_request_56 : decode cX7_request 56 = .ok (.aload_n 0, 1) := by decide +kernel
theorem dX7_request_57 : decode cX7_request 57 = .ok (.getfield 136, 3) := by decide +kernel
theorem dX7_request_60 : decode cX7_request 60 = .ok (.iload_n 2, 1) := by decide +kernel
theorem dX7_request_61 : decode cX7_request 61 = .ok (.iastore, 1) := by decide +kernel
theorem dX7_request_62 : decode cX7_request 62 = .ok (.aload_n 0, 1) := by decide +kernel
theorem dX7_request_63 : decode cX7_request 63 = .ok (.getfield 28, 3) := by decide +kernel
theorem dX7_request_66 : decode cX7_request 66 = .ok (.iload_n 1, 1) := by decide +kernel
theorem dX7_request_67 : decode cX7_request 67 = .ok (.iconst 1, 1) := by decide +kernel
theorem dX7_request_68 : decode cX7_request 68 = .ok (.bastore, 1) := by decide +kernel
theorem dX7_request_69 : decode cX7_request 69 = .ok (.aload_n 0, 1) := by decide +kernel
theorem dX7_request_70 : decode cX7_request 70 = .ok (.dup, 1) := by decide +kernel
theorem dX7_request_71 : decode cX7_request 71 = .ok (.getfield 136, 3) := by decide +kernel
theorem dX7_request_74 : decode cX7_request 74 = .ok (.iconst 1, 1) := by decide +kernel
theorem dX7_request_75 : decode cX7_request 75 = .ok (.iadd, 1) := by decide +kernel
theorem dX7_request_76 : decode cX7_request 76 = .ok (.putfield 136, 3) := by decide +kernel
theorem dX7_request_79 : decode cX7_request 79 = .ok (.aload_n 0, 1) := by decide +kernel
theorem dX7_request_80 : decode cX7_request 80 = .ok (.getfield 136, 3) := by decide +kernel
theorem dX7_request_83 : decode cX7_request 83 = .ok (.ireturn, 1) := by decide +kernel
theorem dX7_requests_0 : decode cX7_requests 0 = .ok (.aload_n 0, 1) := by decide +kernel
theorem dX7_requests_1 : decode cX7_requests 1 = .ok (.iconst 0, 1) := by decide +kernel
theorem dX7_requests_2 : decode cX7_requests 2 = .ok (.putfield 56, 3) := by decide +kernel
theorem dX7_requests_5 : decode cX7_requests 5 = .ok (.aload_n 0, 1) := by decide +kernel
theorem dX7_requests_6 : decode cX7_requests 6 = .ok (.getfield 136, 3) := by decide +kernel
theorem dX7_requests_9 : decode cX7_requests 9 = .ok (.ireturn, 1) := by decide +kernel
theorem dX7_requestAt_0 : decode cX7_requestAt 0 = .ok (.aload_n 0, 1) := by decide +kernel
theorem dX7_requestAt_1 : decode cX7_requestAt 1 = .ok (.iload_n 1, 1) := by decide +kernel
theorem dX7_requestAt_2 : decode cX7_requestAt 2 = .ok (.iconst 0, 1) := by decide +kernel
theorem dX7_requestAt_3 : decode cX7_requestAt 3 = .ok (.aload_n 0, 1) := by decide +kernel
theorem dX7_requestAt_4 : decode cX7_requestAt 4 = .ok (.getfield 136, 3) := by decide +kernel
theorem dX7_requestAt_7 : decode cX7_requestAt 7 = .ok (.iconst 1, 1) := by decide +kernel
theorem dX7_requestAt_8 : decode cX7_requestAt 8 = .ok (.isub, 1) := by decide +kernel
theorem dX7_requestAt_9 : decode cX7_requestAt 9 = .ok (.invokestatic 63, 3) := by decide +kernel
theorem dX7_requestAt_12 : decode cX7_requestAt 12 = .ok (.ifCond .eq 7, 3) := by decide +kernel
theorem dX7_requestAt_15 : decode cX7_requestAt 15 = .ok (.iconst 0, 1) := by decide +kernel
theorem dX7_requestAt_16 : decode cX7_requestAt 16 = .ok (.goto 4, 3) := by decide +kernel
theorem dX7_requestAt_19 : decode cX7_requestAt 19 = .ok (.iconst 1, 1) := by decide +kernel
theorem dX7_requestAt_20 : decode cX7_requestAt 20 = .ok (.invokevirtual 77, 3) := by decide +kernel
theorem dX7_requestAt_23 : decode cX7_requestAt 23 = .ok (.ifCond .eq 12, 3) := by decide +kernel
theorem dX7_requestAt_26 : decode cX7_requestAt 26 = .ok (.aload_n 0, 1) := by decide +kernel
theorem dX7_requestAt_27 : decode cX7_requestAt 27 = .ok (.getfield 50, 3) := by decide +kernel
theorem dX7_requestAt_30 : decode cX7_requestAt 30 = .ok (.iload_n 1, 1) := by decide +kernel
theorem dX7_requestAt_31 : decode cX7_requestAt 31 = .ok (.iaload, 1) := by decide +kernel
theorem dX7_requestAt_32 : decode cX7_requestAt 32 = .ok (.goto 4, 3) := by decide +kernel
theorem dX7_requestAt_35 : decode cX7_requestAt 35 = .ok (.iconst 0, 1) := by decide +kernel
theorem dX7_requestAt_36 : decode cX7_requestAt 36 = .ok (.ireturn, 1) := by decide +kernel
theorem dX7_lengthOf_0 : decode cX7_lengthOf 0 = .ok (.aload_n 0, 1) := by decide +kernel
theorem dX7_lengthOf_1 : decode cX7_lengthOf 1 = .ok (.aload_n 0, 1) := by decide +kernel
theorem dX7_lengthOf_2 : decode cX7_lengthOf 2 = .ok (.iload_n 1, 1) := by decide +kernel
theorem dX7_lengthOf_3 : decode cX7_lengthOf 3 = .ok (.invokevirtual 84, 3) := by decide +kernel
theorem dX7_lengthOf_6 : decode cX7_lengthOf 6 = .ok (.ifCond .eq 7, 3) := by decide +kernel
theorem dX7_lengthOf_9 : decode cX7_lengthOf 9 = .ok (.iconst 0, 1) := by decide +kernel
theorem dX7_lengthOf_10 : decode cX7_lengthOf 10 = .ok (.goto 4, 3) := by decide +kernel
theorem dX7_lengthOf_13 : decode cX7_lengthOf 13 = .ok (.iconst 1, 1) := by decide +kernel
theorem dX7_lengthOf_14 : decode cX7_lengthOf 14 = .ok (.invokevirtual 77, 3) := by decide +kernel
theorem dX7_lengthOf_17 : decode cX7_lengthOf 17 = .ok (.ifCond .eq 11, 3) := by decide +kernel
theorem dX7_lengthOf_20 : decode cX7_lengthOf 20 = .ok (.aload_n 0, 1) := by decide +kernel
theorem dX7_lengthOf_21 : decode cX7_lengthOf 21 = .ok (.iload_n 1, 1) := by decide +kernel
theorem dX7_lengthOf_22 : decode cX7_lengthOf 22 = .ok (.invokevirtual 87, 3) := by decide +kernel
theorem dX7_lengthOf_25 : decode cX7_lengthOf 25 = .ok (.goto 4, 3) := by decide +kernel
theorem dX7_lengthOf_28 : decode cX7_lengthOf 28 = .ok (.iconst 0, 1) := by decide +kernel
theorem dX7_lengthOf_29 : decode cX7_lengthOf 29 = .ok (.ireturn, 1) := by decide +kernel
theorem dX7_workOf_0 : decode cX7_workOf 0 = .ok (.aload_n 0, 1) := by decide +kernel
theorem dX7_workOf_1 : decode cX7_workOf 1 = .ok (.aload_n 0, 1) := by decide +kernel
theorem dX7_workOf_2 : decode cX7_workOf 2 = .ok (.iload_n 1, 1) := by decide +kernel
theorem dX7_workOf_3 : decode cX7_workOf 3 = .ok (.invokevirtual 84, 3) := by decide +kernel
theorem dX7_workOf_6 : decode cX7_workOf 6 = .ok (.ifCond .eq 7, 3) := by decide +kernel
theorem dX7_workOf_9 : decode cX7_workOf 9 = .ok (.iconst 0, 1) := by decide +kernel
theorem dX7_workOf_10 : decode cX7_workOf 10 = .ok (.goto 4, 3) := by decide +kernel
theorem dX7_workOf_13 : decode cX7_workOf 13 = .ok (.iconst 1, 1) := by decide +kernel
theorem dX7_workOf_14 : decode cX7_workOf 14 = .ok (.invokevirtual 77, 3) := by decide +kernel
theorem dX7_workOf_17 : decode cX7_workOf 17 = .ok (.ifCond .eq 11, 3) := by decide +kernel
theorem dX7_workOf_20 : decode cX7_workOf 20 = .ok (.aload_n 0, 1) := by decide +kernel
theorem dX7_workOf_21 : decode cX7_workOf 21 = .ok (.iload_n 1, 1) := by decide +kernel
theorem dX7_workOf_22 : decode cX7_workOf 22 = .ok (.invokevirtual 94, 3) := by decide +kernel
theorem dX7_workOf_25 : decode cX7_workOf 25 = .ok (.goto 4, 3) := by decide +kernel
theorem dX7_workOf_28 : decode cX7_workOf 28 = .ok (.iconst 0, 1) := by decide +kernel
theorem dX7_workOf_29 : decode cX7_workOf 29 = .ok (.ireturn, 1) := by decide +kernel
theorem dX7_skillsOf_0 : decode cX7_skillsOf 0 = .ok (.aload_n 0, 1) := by decide +kernel
theorem dX7_skillsOf_1 : decode cX7_skillsOf 1 = .ok (.aload_n 0, 1) := by decide +kernel
theorem dX7_skillsOf_2 : decode cX7_skillsOf 2 = .ok (.iload_n 1, 1) := by decide +kernel
theorem dX7_skillsOf_3 : decode cX7_skillsOf 3 = .ok (.invokevirtual 84, 3) := by decide +kernel
theorem dX7_skillsOf_6 : decode cX7_skillsOf 6 = .ok (.ifCond .eq 7, 3) := by decide +kernel
theorem dX7_skillsOf_9 : decode cX7_skillsOf 9 = .ok (.iconst 0, 1) := by decide +kernel
theorem dX7_skillsOf_10 : decode cX7_skillsOf 10 = .ok (.goto 4, 3) := by decide +kernel
theorem dX7_skillsOf_13 : decode cX7_skillsOf 13 = .ok (.iconst 1, 1) := by decide +kernel
theorem dX7_skillsOf_14 : decode cX7_skillsOf 14 = .ok (.invokevirtual 77, 3) := by decide +kernel
theorem dX7_skillsOf_17 : decode cX7_skillsOf 17 = .ok (.ifCond .eq 11, 3) := by decide +kernel
theorem dX7_skillsOf_20 : decode cX7_skillsOf 20 = .ok (.aload_n 0, 1) := by decide +kernel
theorem dX7_skillsOf_21 : decode cX7_skillsOf 21 = .ok (.iload_n 1, 1) := by decide +kernel
theorem dX7_skillsOf_22 : decode cX7_skillsOf 22 = .ok (.invokevirtual 91, 3) := by decide +kernel
theorem dX7_skillsOf_25 : decode cX7_skillsOf 25 = .ok (.goto 4, 3) := by decide +kernel
theorem dX7_skillsOf_28 : decode cX7_skillsOf 28 = .ok (.iconst 0, 1) := by decide +kernel
theorem dX7_skillsOf_29 : decode cX7_skillsOf 29 = .ok (.ireturn, 1) := by decide +kernel
theorem dX7_visits_0 : decode cX7_visits 0 = .ok (.aload_n 0, 1) := by decide +kernel
theorem dX7_visits_1 : decode cX7_visits 1 = .ok (.iconst 0, 1) := by decide +kernel
theorem dX7_visits_2 : decode cX7_visits 2 = .ok (.putfield 56, 3) := by decide +kernel
theorem dX7_visits_5 : decode cX7_visits 5 = .ok (.aload_n 0, 1) := by decide +kernel
theorem dX7_visits_6 : decode cX7_visits 6 = .ok (.getfield 70, 3) := by decide +kernel
theorem dX7_visits_9 : decode cX7_visits 9 = .ok (.ireturn, 1) := by decide +kernel
theorem dX7_startOf_0 : decode cX7_startOf 0 = .ok (.aload_n 0, 1) := by decide +kernel
theorem dX7_startOf_1 : decode cX7_startOf 1 = .ok (.aload_n 0, 1) := by decide +kernel
theorem dX7_startOf_2 : decode cX7_startOf 2 = .ok (.iload_n 1, 1) := by decide +kernel
theorem dX7_startOf_3 : decode cX7_startOf 3 = .ok (.invokevirtual 73, 3) := by decide +kernel
theorem dX7_startOf_6 : decode cX7_startOf 6 = .ok (.ifCond .eq 7, 3) := by decide +kernel
theorem dX7_startOf_9 : decode cX7_startOf 9 = .ok (.iconst 0, 1) := by decide +kernel
theorem dX7_startOf_10 : decode cX7_startOf 10 = .ok (.goto 4, 3) := by decide +kernel
theorem dX7_startOf_13 : decode cX7_startOf 13 = .ok (.iconst 1, 1) := by decide +kernel
theorem dX7_startOf_14 : decode cX7_startOf 14 = .ok (.invokevirtual 77, 3) := by decide +kernel
theorem dX7_startOf_17 : decode cX7_startOf 17 = .ok (.ifCond .eq 12, 3) := by decide +kernel
theorem dX7_startOf_20 : decode cX7_startOf 20 = .ok (.aload_n 0, 1) := by decide +kernel
theorem dX7_startOf_21 : decode cX7_startOf 21 = .ok (.getfield 41, 3) := by decide +kernel
theorem dX7_startOf_24 : decode cX7_startOf 24 = .ok (.iload_n 1, 1) := by decide +kernel
theorem dX7_startOf_25 : decode cX7_startOf 25 = .ok (.iaload, 1) := by decide +kernel
theorem dX7_startOf_26 : decode cX7_startOf 26 = .ok (.goto 4, 3) := by decide +kernel
theorem dX7_startOf_29 : decode cX7_startOf 29 = .ok (.iconst 0, 1) := by decide +kernel
theorem dX7_startOf_30 : decode cX7_startOf 30 = .ok (.ireturn, 1) := by decide +kernel
theorem dX7_staffOf_0 : decode cX7_staffOf 0 = .ok (.aload_n 0, 1) := by decide +kernel
theorem dX7_staffOf_1 : decode cX7_staffOf 1 = .ok (.aload_n 0, 1) := by decide +kernel
theorem dX7_staffOf_2 : decode cX7_staffOf 2 = .ok (.iload_n 1, 1) := by decide +kernel
theorem dX7_staffOf_3 : decode cX7_staffOf 3 = .ok (.invokevirtual 73, 3) := by decide +kernel
theorem dX7_staffOf_6 : decode cX7_staffOf 6 = .ok (.ifCond .eq 7, 3) := by decide +kernel
theorem dX7_staffOf_9 : decode cX7_staffOf 9 = .ok (.iconst 0, 1) := by decide +kernel
theorem dX7_staffOf_10 : decode cX7_staffOf 10 = .ok (.goto 4, 3) := by decide +kernel
theorem dX7_staffOf_13 : decode cX7_staffOf 13 = .ok (.iconst 1, 1) := by decide +kernel
theorem dX7_staffOf_14 : decode cX7_staffOf 14 = .ok (.invokevirtual 77, 3) := by decide +kernel
theorem dX7_staffOf_17 : decode cX7_staffOf 17 = .ok (.ifCond .ne 7, 3) := by decide +kernel
theorem dX7_staffOf_20 : decode cX7_staffOf 20 = .ok (.iconst 0, 1) := by decide +kernel
theorem dX7_staffOf_21 : decode cX7_staffOf 21 = .ok (.goto 23, 3) := by decide +kernel
theorem dX7_staffOf_24 : decode cX7_staffOf 24 = .ok (.aload_n 0, 1) := by decide +kernel
theorem dX7_staffOf_25 : decode cX7_staffOf 25 = .ok (.getfield 41, 3) := by decide +kernel
theorem dX7_staffOf_28 : decode cX7_staffOf 28 = .ok (.iload_n 1, 1) := by decide +kernel
theorem dX7_staffOf_29 : decode cX7_staffOf 29 = .ok (.iaload, 1) := by decide +kernel
theorem dX7_staffOf_30 : decode cX7_staffOf 30 = .ok (.iconst (-1), 1) := by decide +kernel
theorem dX7_staffOf_31 : decode cX7_staffOf 31 = .ok (.if_icmp .ne 7, 3) := by decide +kernel
theorem dX7_staffOf_34 : decode cX7_staffOf 34 = .ok (.iconst (-1), 1) := by decide +kernel
theorem dX7_staffOf_35 : decode cX7_staffOf 35 = .ok (.goto 9, 3) := by decide +kernel
theorem dX7_staffOf_38 : decode cX7_staffOf 38 = .ok (.aload_n 0, 1) := by decide +kernel
theorem dX7_staffOf_39 : decode cX7_staffOf 39 = .ok (.getfield 35, 3) := by decide +kernel
theorem dX7_staffOf_42 : decode cX7_staffOf 42 = .ok (.iload_n 1, 1) := by decide +kernel
theorem dX7_staffOf_43 : decode cX7_staffOf 43 = .ok (.iaload, 1) := by decide +kernel
theorem dX7_staffOf_44 : decode cX7_staffOf 44 = .ok (.ireturn, 1) := by decide +kernel
theorem dX7_chairOf_0 : decode cX7_chairOf 0 = .ok (.aload_n 0, 1) := by decide +kernel
theorem dX7_chairOf_1 : decode cX7_chairOf 1 = .ok (.aload_n 0, 1) := by decide +kernel
theorem dX7_chairOf_2 : decode cX7_chairOf 2 = .ok (.iload_n 1, 1) := by decide +kernel
theorem dX7_chairOf_3 : decode cX7_chairOf 3 = .ok (.invokevirtual 73, 3) := by decide +kernel
theorem dX7_chairOf_6 : decode cX7_chairOf 6 = .ok (.ifCond .eq 7, 3) := by decide +kernel
theorem dX7_chairOf_9 : decode cX7_chairOf 9 = .ok (.iconst 0, 1) := by decide +kernel
theorem dX7_chairOf_10 : decode cX7_chairOf 10 = .ok (.goto 4, 3) := by decide +kernel
theorem dX7_chairOf_13 : decode cX7_chairOf 13 = .ok (.iconst 1, 1) := by decide +kernel
theorem dX7_chairOf_14 : decode cX7_chairOf 14 = .ok (.invokevirtual 77, 3) := by decide +kernel
theorem dX7_chairOf_17 : decode cX7_chairOf 17 = .ok (.ifCond .ne 7, 3) := by decide +kernel
theorem dX7_chairOf_20 : decode cX7_chairOf 20 = .ok (.iconst 0, 1) := by decide +kernel
theorem dX7_chairOf_21 : decode cX7_chairOf 21 = .ok (.goto 23, 3) := by decide +kernel
theorem dX7_chairOf_24 : decode cX7_chairOf 24 = .ok (.aload_n 0, 1) := by decide +kernel
theorem dX7_chairOf_25 : decode cX7_chairOf 25 = .ok (.getfield 41, 3) := by decide +kernel
theorem dX7_chairOf_28 : decode cX7_chairOf 28 = .ok (.iload_n 1, 1) := by decide +kernel
theorem dX7_chairOf_29 : decode cX7_chairOf 29 = .ok (.iaload, 1) := by decide +kernel
theorem dX7_chairOf_30 : decode cX7_chairOf 30 = .ok (.iconst (-1), 1) := by decide +kernel
theorem dX7_chairOf_31 : decode cX7_chairOf 31 = .ok (.if_icmp .ne 7, 3) := by decide +kernel
theorem dX7_chairOf_34 : decode cX7_chairOf 34 = .ok (.iconst (-1), 1) := by decide +kernel
theorem dX7_chairOf_35 : decode cX7_chairOf 35 = .ok (.goto 9, 3) := by decide +kernel
theorem dX7_chairOf_38 : decode cX7_chairOf 38 = .ok (.aload_n 0, 1) := by decide +kernel
theorem dX7_chairOf_39 : decode cX7_chairOf 39 = .ok (.getfield 38, 3) := by decide +kernel
theorem dX7_chairOf_42 : decode cX7_chairOf 42 = .ok (.iload_n 1, 1) := by decide +kernel
theorem dX7_chairOf_43 : decode cX7_chairOf 43 = .ok (.iaload, 1) := by decide +kernel
theorem dX7_chairOf_44 : decode cX7_chairOf 44 = .ok (.ireturn, 1) := by decide +kernel
theorem dX7_serviceOf_0 : decode cX7_serviceOf 0 = .ok (.aload_n 0, 1) := by decide +kernel
theorem dX7_serviceOf_1 : decode cX7_serviceOf 1 = .ok (.aload_n 0, 1) := by decide +kernel
theorem dX7_serviceOf_2 : decode cX7_serviceOf 2 = .ok (.iload_n 1, 1) := by decide +kernel
theorem dX7_serviceOf_3 : decode cX7_serviceOf 3 = .ok (.invokevirtual 73, 3) := by decide +kernel
theorem dX7_serviceOf_6 : decode cX7_serviceOf 6 = .ok (.ifCond .eq 7, 3) := by decide +kernel
theorem dX7_serviceOf_9 : decode cX7_serviceOf 9 = .ok (.iconst 0, 1) := by decide +kernel
theorem dX7_serviceOf_10 : decode cX7_serviceOf 10 = .ok (.goto 4, 3) := by decide +kernel
theorem dX7_serviceOf_13 : decode cX7_serviceOf 13 = .ok (.iconst 1, 1) := by decide +kernel
theorem dX7_serviceOf_14 : decode cX7_serviceOf 14 = .ok (.invokevirtual 77, 3) := by decide +kernel
theorem dX7_serviceOf_17 : decode cX7_serviceOf 17 = .ok (.ifCond .eq 12, 3) := by decide +kernel
theorem dX7_serviceOf_20 : decode cX7_serviceOf 20 = .ok (.aload_n 0, 1) := by decide +kernel
theorem dX7_serviceOf_21 : decode cX7_serviceOf 21 = .ok (.getfield 32, 3) := by decide +kernel
theorem dX7_serviceOf_24 : decode cX7_serviceOf 24 = .ok (.iload_n 1, 1) := by decide +kernel
theorem dX7_serviceOf_25 : decode cX7_serviceOf 25 = .ok (.iaload, 1) := by decide +kernel
theorem dX7_serviceOf_26 : decode cX7_serviceOf 26 = .ok (.goto 4, 3) := by decide +kernel
theorem dX7_serviceOf_29 : decode cX7_serviceOf 29 = .ok (.iconst 0, 1) := by decide +kernel
theorem dX7_serviceOf_30 : decode cX7_serviceOf 30 = .ok (.ireturn, 1) := by decide +kernel
theorem dX7_loadOf_0 : decode cX7_loadOf 0 = .ok (.aload_n 0, 1) := by decide +kernel
theorem dX7_loadOf_1 : decode cX7_loadOf 1 = .ok (.aload_n 0, 1) := by decide +kernel
theorem dX7_loadOf_2 : decode cX7_loadOf 2 = .ok (.iload_n 1, 1) := by decide +kernel
theorem dX7_loadOf_3 : decode cX7_loadOf 3 = .ok (.invokevirtual 133, 3) := by decide +kernel
theorem dX7_loadOf_6 : decode cX7_loadOf 6 = .ok (.ifCond .eq 7, 3) := by decide +kernel
theorem dX7_loadOf_9 : decode cX7_loadOf 9 = .ok (.iconst 0, 1) := by decide +kernel
theorem dX7_loadOf_10 : decode cX7_loadOf 10 = .ok (.goto 4, 3) := by decide +kernel
theorem dX7_loadOf_13 : decode cX7_loadOf 13 = .ok (.iconst 1, 1) := by decide +kernel
theorem dX7_loadOf_14 : decode cX7_loadOf 14 = .ok (.invokevirtual 77, 3) := by decide +kernel
theorem dX7_loadOf_17 : decode cX7_loadOf 17 = .ok (.ifCond .eq 11, 3) := by decide +kernel
theorem dX7_loadOf_20 : decode cX7_loadOf 20 = .ok (.aload_n 0, 1) := by decide +kernel
theorem dX7_loadOf_21 : decode cX7_loadOf 21 = .ok (.iload_n 1, 1) := by decide +kernel
theorem dX7_loadOf_22 : decode cX7_loadOf 22 = .ok (.invokevirtual 100, 3) := by decide +kernel
theorem dX7_loadOf_25 : decode cX7_loadOf 25 = .ok (.goto 4, 3) := by decide +kernel
theorem dX7_loadOf_28 : decode cX7_loadOf 28 = .ok (.iconst 0, 1) := by decide +kernel
theorem dX7_loadOf_29 : decode cX7_loadOf 29 = .ok (.ireturn, 1) := by decide +kernel
theorem dX7_staffAt_0 : decode cX7_staffAt 0 = .ok (.aload_n 0, 1) := by decide +kernel
theorem dX7_staffAt_1 : decode cX7_staffAt 1 = .ok (.aload_n 0, 1) := by decide +kernel
theorem dX7_staffAt_2 : decode cX7_staffAt 2 = .ok (.iload_n 1, 1) := by decide +kernel
theorem dX7_staffAt_3 : decode cX7_staffAt 3 = .ok (.invokevirtual 133, 3) := by decide +kernel
theorem dX7_staffAt_6 : decode cX7_staffAt 6 = .ok (.ifCond .eq 14, 3) := by decide +kernel
theorem dX7_staffAt_9 : decode cX7_staffAt 9 = .ok (.iload_n 2, 1) := by decide +kernel
theorem dX7_staffAt_10 : decode cX7_staffAt 10 = .ok (.invokestatic 124, 3) := by decide +kernel
theorem dX7_staffAt_13 : decode cX7_staffAt 13 = .ok (.ifCond .eq 7, 3) := by decide +kernel
theorem dX7_staffAt_16 : decode cX7_staffAt 16 = .ok (.iconst 0, 1) := by decide +kernel
theorem dX7_staffAt_17 : decode cX7_staffAt 17 = .ok (.goto 4, 3) := by decide +kernel
theorem dX7_staffAt_20 : decode cX7_staffAt 20 = .ok (.iconst 1, 1) := by decide +kernel
theorem dX7_staffAt_21 : decode cX7_staffAt 21 = .ok (.invokevirtual 77, 3) := by decide +kernel
theorem dX7_staffAt_24 : decode cX7_staffAt 24 = .ok (.ifCond .eq 18, 3) := by decide +kernel
theorem dX7_staffAt_27 : decode cX7_staffAt 27 = .ok (.aload_n 0, 1) := by decide +kernel
theorem dX7_staffAt_28 : decode cX7_staffAt 28 = .ok (.getfield 44, 3) := by decide +kernel
theorem dX7_staffAt_31 : decode cX7_staffAt 31 = .ok (.sipush 600, 3) := by decide +kernel
theorem dX7_staffAt_34 : decode cX7_staffAt 34 = .ok (.iload_n 1, 1) := by decide +kernel
theorem dX7_staffAt_35 : decode cX7_staffAt 35 = .ok (.imul, 1) := by decide +kernel
theorem dX7_staffAt_36 : decode cX7_staffAt 36 = .ok (.iload_n 2, 1) := by decide +kernel
theorem dX7_staffAt_37 : decode cX7_staffAt 37 = .ok (.iadd, 1) := by decide +kernel
theorem dX7_staffAt_38 : decode cX7_staffAt 38 = .ok (.iaload, 1) := by decide +kernel
theorem dX7_staffAt_39 : decode cX7_staffAt 39 = .ok (.goto 4, 3) := by decide +kernel
theorem dX7_staffAt_42 : decode cX7_staffAt 42 = .ok (.iconst 0, 1) := by decide +kernel
theorem dX7_staffAt_43 : decode cX7_staffAt 43 = .ok (.ireturn, 1) := by decide +kernel
theorem dX7_chairAt_0 : decode cX7_chairAt 0 = .ok (.aload_n 0, 1) := by decide +kernel
theorem dX7_chairAt_1 : decode cX7_chairAt 1 = .ok (.iload_n 1, 1) := by decide +kernel
theorem dX7_chairAt_2 : decode cX7_chairAt 2 = .ok (.iconst 0, 1) := by decide +kernel
theorem dX7_chairAt_3 : decode cX7_chairAt 3 = .ok (.iconst 3, 1) := by decide +kernel
theorem dX7_chairAt_4 : decode cX7_chairAt 4 = .ok (.invokestatic 63, 3) := by decide +kernel
theorem dX7_chairAt_7 : decode cX7_chairAt 7 = .ok (.ifCond .eq 14, 3) := by decide +kernel
theorem dX7_chairAt_10 : decode cX7_chairAt 10 = .ok (.iload_n 2, 1) := by decide +kernel
theorem dX7_chairAt_11 : decode cX7_chairAt 11 = .ok (.invokestatic 124, 3) := by decide +kernel
theorem dX7_chairAt_14 : decode cX7_chairAt 14 = .ok (.ifCond .eq 7, 3) := by decide +kernel
theorem dX7_chairAt_17 : decode cX7_chairAt 17 = .ok (.iconst 0, 1) := by decide +kernel
theorem dX7_chairAt_18 : decode cX7_chairAt 18 = .ok (.goto 4, 3) := by decide +kernel
theorem dX7_chairAt_21 : decode cX7_chairAt 21 = .ok (.iconst 1, 1) := by decide +kernel
theorem dX7_chairAt_22 : decode cX7_chairAt 22 = .ok (.invokevirtual 77, 3) := by decide +kernel
theorem dX7_chairAt_25 : decode cX7_chairAt 25 = .ok (.ifCond .eq 18, 3) := by decide +kernel
theorem dX7_chairAt_28 : decode cX7_chairAt 28 = .ok (.aload_n 0, 1) := by decide +kernel
theorem dX7_chairAt_29 : decode cX7_chairAt 29 = .ok (.getfield 47, 3) := by decide +kernel
theorem dX7_chairAt_32 : decode cX7_chairAt 32 = .ok (.sipush 600, 3) := by decide +kernel
theorem dX7_chairAt_35 : decode cX7_chairAt 35 = .ok (.iload_n 1, 1) := by decide +kernel
theorem dX7_chairAt_36 : decode cX7_chairAt 36 = .ok (.imul, 1) := by decide +kernel
theorem dX7_chairAt_37 : decode cX7_chairAt 37 = .ok (.iload_n 2, 1) := by decide +kernel
theorem dX7_chairAt_38 : decode cX7_chairAt 38 = .ok (.iadd, 1) := by decide +kernel
theorem dX7_chairAt_39 : decode cX7_chairAt 39 = .ok (.iaload, 1) := by decide +kernel
theorem dX7_chairAt_40 : decode cX7_chairAt 40 = .ok (.goto 4, 3) := by decide +kernel
theorem dX7_chairAt_43 : decode cX7_chairAt 43 = .ok (.iconst 0, 1) := by decide +kernel
theorem dX7_chairAt_44 : decode cX7_chairAt 44 = .ok (.ireturn, 1) := by decide +kernel
theorem dX7_earliest_0 : decode cX7_earliest 0 = .ok (.aload_n 0, 1) := by decide +kernel
theorem dX7_earliest_1 : decode cX7_earliest 1 = .ok (.aload_n 0, 1) := by decide +kernel
theorem dX7_earliest_2 : decode cX7_earliest 2 = .ok (.iload_n 1, 1) := by decide +kernel
theorem dX7_earliest_3 : decode cX7_earliest 3 = .ok (.invokevirtual 84, 3) := by decide +kernel
theorem dX7_earliest_6 : decode cX7_earliest 6 = .ok (.ifCond .eq 14, 3) := by decide +kernel
theorem dX7_earliest_9 : decode cX7_earliest 9 = .ok (.iload_n 2, 1) := by decide +kernel
theorem dX7_earliest_10 : decode cX7_earliest 10 = .ok (.invokestatic 124, 3) := by decide +kernel
theorem dX7_earliest_13 : decode cX7_earliest 13 = .ok (.ifCond .eq 7, 3) := by decide +kernel
theorem dX7_earliest_16 : decode cX7_earliest 16 = .ok (.iconst 0, 1) := by decide +kernel
theorem dX7_earliest_17 : decode cX7_earliest 17 = .ok (.goto 4, 3) := by decide +kernel
theorem dX7_earliest_20 : decode cX7_earliest 20 = .ok (.iconst 1, 1) := by decide +kernel
theorem dX7_earliest_21 : decode cX7_earliest 21 = .ok (.invokevirtual 77, 3) := by decide +kernel
theorem dX7_earliest_24 : decode cX7_earliest 24 = .ok (.ifCond .eq 13, 3) := by decide +kernel
theorem dX7_earliest_27 : decode cX7_earliest 27 = .ok (.aload_n 0, 1) := by decide +kernel
theorem dX7_earliest_28 : decode cX7_earliest 28 = .ok (.iload_n 1, 1) := by decide +kernel
theorem dX7_earliest_29 : decode cX7_earliest 29 = .ok (.iload_n 2, 1) := by decide +kernel
theorem dX7_earliest_30 : decode cX7_earliest 30 = .ok (.iconst (-1), 1) := by decide +kernel
theorem dX7_earliest_31 : decode cX7_earliest 31 = .ok (.invokevirtual 127, 3) := by decide +kernel
theorem dX7_earliest_34 : decode cX7_earliest 34 = .ok (.goto 4, 3) := by decide +kernel
theorem dX7_earliest_37 : decode cX7_earliest 37 = .ok (.iconst 0, 1) := by decide +kernel
theorem dX7_earliest_38 : decode cX7_earliest 38 = .ok (.ireturn, 1) := by decide +kernel
theorem dX7_earliestByScan_0 : decode cX7_earliestByScan 0 = .ok (.aload_n 0, 1) := by decide +kernel
theorem dX7_earliestByScan_1 : decode cX7_earliestByScan 1 = .ok (.iload_n 1, 1) := by decide +kernel
theorem dX7_earliestByScan_2 : decode cX7_earliestByScan 2 = .ok (.iload_n 2, 1) := by decide +kernel
theorem dX7_earliestByScan_3 : decode cX7_earliestByScan 3 = .ok (.invokevirtual 146, 3) := by decide +kernel
theorem dX7_earliestByScan_6 : decode cX7_earliestByScan 6 = .ok (.ireturn, 1) := by decide +kernel
theorem dX7_staffFor_0 : decode cX7_staffFor 0 = .ok (.aload_n 0, 1) := by decide +kernel
theorem dX7_staffFor_1 : decode cX7_staffFor 1 = .ok (.aload_n 0, 1) := by decide +kernel
theorem dX7_staffFor_2 : decode cX7_staffFor 2 = .ok (.iload_n 1, 1) := by decide +kernel
theorem dX7_staffFor_3 : decode cX7_staffFor 3 = .ok (.invokevirtual 84, 3) := by decide +kernel
theorem dX7_staffFor_6 : decode cX7_staffFor 6 = .ok (.ifCond .eq 14, 3) := by decide +kernel
theorem dX7_staffFor_9 : decode cX7_staffFor 9 = .ok (.iload_n 2, 1) := by decide +kernel
theorem dX7_staffFor_10 : decode cX7_staffFor 10 = .ok (.invokestatic 124, 3) := by decide +kernel
theorem dX7_staffFor_13 : decode cX7_staffFor 13 = .ok (.ifCond .eq 7, 3) := by decide +kernel
theorem dX7_staffFor_16 : decode cX7_staffFor 16 = .ok (.iconst 0, 1) := by decide +kernel
theorem dX7_staffFor_17 : decode cX7_staffFor 17 = .ok (.goto 4, 3) := by decide +kernel
theorem dX7_staffFor_20 : decode cX7_staffFor 20 = .ok (.iconst 1, 1) := by decide +kernel
theorem dX7_staffFor_21 : decode cX7_staffFor 21 = .ok (.invokevirtual 77, 3) := by decide +kernel
theorem dX7_staffFor_24 : decode cX7_staffFor 24 = .ok (.ifCond .ne 5, 3) := by decide +kernel
theorem dX7_staffFor_27 : decode cX7_staffFor 27 = .ok (.iconst 0, 1) := by decide +kernel
theorem dX7_staffFor_28 : decode cX7_staffFor 28 = .ok (.ireturn, 1) := by decide +kernel
theorem dX7_staffFor_29 : decode cX7_staffFor 29 = .ok (.aload_n 0, 1) := by decide +kernel
theorem dX7_staffFor_30 : decode cX7_staffFor 30 = .ok (.iload_n 1, 1) := by decide +kernel
theorem dX7_staffFor_31 : decode cX7_staffFor 31 = .ok (.iload_n 2, 1) := by decide +kernel
theorem dX7_staffFor_32 : decode cX7_staffFor 32 = .ok (.iconst (-1), 1) := by decide +kernel
theorem dX7_staffFor_33 : decode cX7_staffFor 33 = .ok (.invokevirtual 127, 3) := by decide +kernel
theorem dX7_staffFor_36 : decode cX7_staffFor 36 = .ok (.iconst (-1), 1) := by decide +kernel
theorem dX7_staffFor_37 : decode cX7_staffFor 37 = .ok (.if_icmp .ne 7, 3) := by decide +kernel
theorem dX7_staffFor_40 : decode cX7_staffFor 40 = .ok (.iconst (-1), 1) := by decide +kernel
theorem dX7_staffFor_41 : decode cX7_staffFor 41 = .ok (.goto 7, 3) := by decide +kernel
theorem dX7_staffFor_44 : decode cX7_staffFor 44 = .ok (.aload_n 0, 1) := by decide +kernel
theorem dX7_staffFor_45 : decode cX7_staffFor 45 = .ok (.getfield 107, 3) := by decide +kernel
theorem dX7_staffFor_48 : decode cX7_staffFor 48 = .ok (.ireturn, 1) := by decide +kernel
theorem dX7_inRest_0 : decode cX7_inRest 0 = .ok (.aload_n 0, 1) := by decide +kernel
theorem dX7_inRest_1 : decode cX7_inRest 1 = .ok (.aload_n 0, 1) := by decide +kernel
theorem dX7_inRest_2 : decode cX7_inRest 2 = .ok (.iload_n 1, 1) := by decide +kernel
theorem dX7_inRest_3 : decode cX7_inRest 3 = .ok (.invokevirtual 139, 3) := by decide +kernel
theorem dX7_inRest_6 : decode cX7_inRest 6 = .ok (.ifCond .eq 15, 3) := by decide +kernel
theorem dX7_inRest_9 : decode cX7_inRest 9 = .ok (.aload_n 0, 1) := by decide +kernel
theorem dX7_inRest_10 : decode cX7_inRest 10 = .ok (.iload_n 2, 1) := by decide +kernel
theorem dX7_inRest_11 : decode cX7_inRest 11 = .ok (.invokevirtual 84, 3) := by decide +kernel
theorem dX7_inRest_14 : decode cX7_inRest 14 = .ok (.ifCond .eq 7, 3) := by decide +kernel
theorem dX7_inRest_17 : decode cX7_inRest 17 = .ok (.iconst 0, 1) := by decide +kernel
theorem dX7_inRest_18 : decode cX7_inRest 18 = .ok (.goto 4, 3) := by decide +kernel
theorem dX7_inRest_21 : decode cX7_inRest 21 = .ok (.iconst 1, 1) := by decide +kernel
theorem dX7_inRest_22 : decode cX7_inRest 22 = .ok (.invokevirtual 77, 3) := by decide +kernel
theorem dX7_inRest_25 : decode cX7_inRest 25 = .ok (.ifCond .ne 5, 3) := by decide +kernel
theorem dX7_inRest_28 : decode cX7_inRest 28 = .ok (.iconst 0, 1) := by decide +kernel
theorem dX7_inRest_29 : decode cX7_inRest 29 = .ok (.ireturn, 1) := by decide +kernel
theorem dX7_inRest_30 : decode cX7_inRest 30 = .ok (.aload_n 0, 1) := by decide +kernel
theorem dX7_inRest_31 : decode cX7_inRest 31 = .ok (.getfield 32, 3) := by decide +kernel
theorem dX7_inRest_34 : decode cX7_inRest 34 = .ok (.iload_n 1, 1) := by decide +kernel
theorem dX7_inRest_35 : decode cX7_inRest 35 = .ok (.iaload, 1) := by decide +kernel
theorem dX7_inRest_36 : decode cX7_inRest 36 = .ok (.istore_n 3, 1) := by decide +kernel
theorem dX7_inRest_37 : decode cX7_inRest 37 = .ok (.aload_n 0, 1) := by decide +kernel
theorem dX7_inRest_38 : decode cX7_inRest 38 = .ok (.getfield 41, 3) := by decide +kernel
theorem dX7_inRest_41 : decode cX7_inRest 41 = .ok (.iload_n 1, 1) := by decide +kernel
theorem dX7_inRest_42 : decode cX7_inRest 42 = .ok (.iaload, 1) := by decide +kernel
theorem dX7_inRest_43 : decode cX7_inRest 43 = .ok (.istore 4, 2) := by decide +kernel
theorem dX7_inRest_45 : decode cX7_inRest 45 = .ok (.iconst 0, 1) := by decide +kernel
theorem dX7_inRest_46 : decode cX7_inRest 46 = .ok (.istore 5, 2) := by decide +kernel
theorem dX7_inRest_48 : decode cX7_inRest 48 = .ok (.iload 5, 2) := by decide +kernel
theorem dX7_inRest_50 : decode cX7_inRest 50 = .ok (.aload_n 0, 1) := by decide +kernel
theorem dX7_inRest_51 : decode cX7_inRest 51 = .ok (.getfield 25, 3) := by decide +kernel
theorem dX7_inRest_54 : decode cX7_inRest 54 = .ok (.iload_n 3, 1) := by decide +kernel
theorem dX7_inRest_55 : decode cX7_inRest 55 = .ok (.iaload, 1) := by decide +kernel
theorem dX7_inRest_56 : decode cX7_inRest 56 = .ok (.if_icmp .ge 97, 3) := by decide +kernel
theorem dX7_inRest_59 : decode cX7_inRest 59 = .ok (.iload 4, 2) := by decide +kernel
theorem dX7_inRest_61 : decode cX7_inRest 61 = .ok (.aload_n 0, 1) := by decide +kernel
theorem dX7_inRest_62 : decode cX7_inRest 62 = .ok (.getfield 22, 3) := by decide +kernel
theorem dX7_inRest_65 : decode cX7_inRest 65 = .ok (.iconst 5, 1) := by decide +kernel
theorem dX7_inRest_66 : decode cX7_inRest 66 = .ok (.iload_n 3, 1) := by decide +kernel
theorem dX7_inRest_67 : decode cX7_inRest 67 = .ok (.imul, 1) := by decide +kernel
theorem dX7_inRest_68 : decode cX7_inRest 68 = .ok (.iload 5, 2) := by decide +kernel
theorem dX7_inRest_70 : decode cX7_inRest 70 = .ok (.iadd, 1) := by decide +kernel
theorem dX7_inRest_71 : decode cX7_inRest 71 = .ok (.iaload, 1) := by decide +kernel
theorem dX7_inRest_72 : decode cX7_inRest 72 = .ok (.iadd, 1) := by decide +kernel
theorem dX7_inRest_73 : decode cX7_inRest 73 = .ok (.istore 6, 2) := by decide +kernel
theorem dX7_inRest_75 : decode cX7_inRest 75 = .ok (.aload_n 0, 1) := by decide +kernel
theorem dX7_inRest_76 : decode cX7_inRest 76 = .ok (.getfield 19, 3) := by decide +kernel
theorem dX7_inRest_79 : decode cX7_inRest 79 = .ok (.iconst 5, 1) := by decide +kernel
theorem dX7_inRest_80 : decode cX7_inRest 80 = .ok (.iload_n 3, 1) := by decide +kernel
theorem dX7_inRest_81 : decode cX7_inRest 81 = .ok (.imul, 1) := by decide +kernel
theorem dX7_inRest_82 : decode cX7_inRest 82 = .ok (.iload 5, 2) := by decide +kernel
theorem dX7_inRest_84 : decode cX7_inRest 84 = .ok (.iadd, 1) := by decide +kernel
theorem dX7_inRest_85 : decode cX7_inRest 85 = .ok (.iaload, 1) := by decide +kernel
theorem dX7_inRest_86 : decode cX7_inRest 86 = .ok (.iconst (-1), 1) := by decide +kernel
theorem dX7_inRest_87 : decode cX7_inRest 87 = .ok (.if_icmp .ne 56, 3) := by decide +kernel
theorem dX7_inRest_90 : decode cX7_inRest 90 = .ok (.iload 4, 2) := by decide +kernel
theorem dX7_inRest_92 : decode cX7_inRest 92 = .ok (.istore 7, 2) := by decide +kernel
theorem dX7_inRest_94 : decode cX7_inRest 94 = .ok (.iload 7, 2) := by decide +kernel
theorem dX7_inRest_96 : decode cX7_inRest 96 = .ok (.aload_n 0, 1) := by decide +kernel
theorem dX7_inRest_97 : decode cX7_inRest 97 = .ok (.iload_n 2, 1) := by decide +kernel
theorem dX7_inRest_98 : decode cX7_inRest 98 = .ok (.invokevirtual 87, 3) := by decide +kernel
theorem dX7_inRest_101 : decode cX7_inRest 101 = .ok (.iadd, 1) := by decide +kernel
theorem dX7_inRest_102 : decode cX7_inRest 102 = .ok (.iload 6, 2) := by decide +kernel
theorem dX7_inRest_104 : decode cX7_inRest 104 = .ok (.if_icmp .gt 39, 3) := by decide +kernel
theorem dX7_inRest_107 : decode cX7_inRest 107 = .ok (.aload_n 0, 1) := by decide +kernel
theorem dX7_inRest_108 : decode cX7_inRest 108 = .ok (.aload_n 0, 1) := by decide +kernel
theorem dX7_inRest_109 : decode cX7_inRest 109 = .ok (.getfield 35, 3) := by decide +kernel
theorem dX7_inRest_112 : decode cX7_inRest 112 = .ok (.iload_n 1, 1) := by decide +kernel
theorem dX7_inRest_113 : decode cX7_inRest 113 = .ok (.iaload, 1) := by decide +kernel
theorem dX7_inRest_114 : decode cX7_inRest 114 = .ok (.iload_n 2, 1) := by decide +kernel
theorem dX7_inRest_115 : decode cX7_inRest 115 = .ok (.iload 7, 2) := by decide +kernel
theorem dX7_inRest_117 : decode cX7_inRest 117 = .ok (.invokevirtual 97, 3) := by decide +kernel
theorem dX7_inRest_120 : decode cX7_inRest 120 = .ok (.ifCond .eq 17, 3) := by decide +kernel
theorem dX7_inRest_123 : decode cX7_inRest 123 = .ok (.aload_n 0, 1) := by decide +kernel
theorem dX7_inRest_124 : decode cX7_inRest 124 = .ok (.iload_n 2, 1) := by decide +kernel
theorem dX7_inRest_125 : decode cX7_inRest 125 = .ok (.iload 7, 2) := by decide +kernel
theorem dX7_inRest_127 : decode cX7_inRest 127 = .ok (.invokevirtual 110, 3) := by decide +kernel
theorem dX7_inRest_130 : decode cX7_inRest 130 = .ok (.iconst (-1), 1) := by decide +kernel
theorem dX7_inRest_131 : decode cX7_inRest 131 = .ok (.if_icmp .eq 6, 3) := by decide +kernel
theorem dX7_inRest_134 : decode cX7_inRest 134 = .ok (.iload 7, 2) := by decide +kernel
theorem dX7_inRest_136 : decode cX7_inRest 136 = .ok (.ireturn, 1) := by decide +kernel
theorem dX7_inRest_137 : decode cX7_inRest 137 = .ok (.iinc 7 1, 3) := by decide +kernel
theorem dX7_inRest_140 : decode cX7_inRest 140 = .ok (.goto (-46), 3) := by decide +kernel
theorem dX7_inRest_143 : decode cX7_inRest 143 = .ok (.iload 6, 2) := by decide +kernel
theorem dX7_inRest_145 : decode cX7_inRest 145 = .ok (.istore 4, 2) := by decide +kernel
theorem dX7_inRest_147 : decode cX7_inRest 147 = .ok (.iinc 5 1, 3) := by decide +kernel
theorem dX7_inRest_150 : decode cX7_inRest 150 = .ok (.goto (-102), 3) := by decide +kernel
theorem dX7_inRest_153 : decode cX7_inRest 153 = .ok (.iconst (-1), 1) := by decide +kernel
theorem dX7_inRest_154 : decode cX7_inRest 154 = .ok (.ireturn, 1) := by decide +kernel
theorem dX7_fill_0 : decode cX7_fill 0 = .ok (.aload_n 0, 1) := by decide +kernel
theorem dX7_fill_1 : decode cX7_fill 1 = .ok (.iload_n 1, 1) := by decide +kernel
theorem dX7_fill_2 : decode cX7_fill 2 = .ok (.iconst 0, 1) := by decide +kernel
theorem dX7_fill_3 : decode cX7_fill 3 = .ok (.sipush 600, 3) := by decide +kernel
theorem dX7_fill_6 : decode cX7_fill 6 = .ok (.invokestatic 63, 3) := by decide +kernel
theorem dX7_fill_9 : decode cX7_fill 9 = .ok (.ifCond .eq 7, 3) := by decide +kernel
theorem dX7_fill_12 : decode cX7_fill 12 = .ok (.iconst 0, 1) := by decide +kernel
theorem dX7_fill_13 : decode cX7_fill 13 = .ok (.goto 4, 3) := by decide +kernel
theorem dX7_fill_16 : decode cX7_fill 16 = .ok (.iconst 1, 1) := by decide +kernel
theorem dX7_fill_17 : decode cX7_fill 17 = .ok (.invokevirtual 77, 3) := by decide +kernel
theorem dX7_fill_20 : decode cX7_fill 20 = .ok (.ifCond .ne 5, 3) := by decide +kernel
theorem dX7_fill_23 : decode cX7_fill 23 = .ok (.iconst 0, 1) := by decide +kernel
theorem dX7_fill_24 : decode cX7_fill 24 = .ok (.ireturn, 1) := by decide +kernel
theorem dX7_fill_25 : decode cX7_fill 25 = .ok (.iconst 0, 1) := by decide +kernel
theorem dX7_fill_26 : decode cX7_fill 26 = .ok (.istore_n 2, 1) := by decide +kernel
theorem dX7_fill_27 : decode cX7_fill 27 = .ok (.iconst 0, 1) := by decide +kernel
theorem dX7_fill_28 : decode cX7_fill 28 = .ok (.istore_n 3, 1) := by decide +kernel
theorem dX7_fill_29 : decode cX7_fill 29 = .ok (.iconst 0, 1) := by decide +kernel
theorem dX7_fill_30 : decode cX7_fill 30 = .ok (.istore 4, 2) := by decide +kernel
theorem dX7_fill_32 : decode cX7_fill 32 = .ok (.iload 4, 2) := by decide +kernel
theorem dX7_fill_34 : decode cX7_fill 34 = .ok (.iconst 1, 1) := by decide +kernel
theorem dX7_fill_35 : decode cX7_fill 35 = .ok (.aload_n 0, 1) := by decide +kernel
theorem dX7_fill_36 : decode cX7_fill 36 = .ok (.getfield 60, 3) := by decide +kernel
theorem dX7_fill_39 : decode cX7_fill 39 = .ok (.ishl, 1) := by decide +kernel
theorem dX7_fill_40 : decode cX7_fill 40 = .ok (.if_icmp .ge 74, 3) := by decide +kernel
theorem dX7_fill_43 : decode cX7_fill 43 = .ok (.iconst 0, 1) := by decide +kernel
theorem dX7_fill_44 : decode cX7_fill 44 = .ok (.istore 5, 2) := by decide +kernel
theorem dX7_fill_46 : decode cX7_fill 46 = .ok (.iconst 0, 1) := by decide +kernel
theorem dX7_fill_47 : decode cX7_fill 47 = .ok (.istore 6, 2) := by decide +kernel
theorem dX7_fill_49 : decode cX7_fill 49 = .ok (.iload 6, 2) := by decide +kernel
theorem dX7_fill_51 : decode cX7_fill 51 = .ok (.aload_n 0, 1) := by decide +kernel
theorem dX7_fill_52 : decode cX7_fill 52 = .ok (.getfield 60, 3) := by decide +kernel
theorem dX7_fill_55 : decode cX7_fill 55 = .ok (.if_icmp .ge 35, 3) := by decide +kernel
theorem dX7_fill_58 : decode cX7_fill 58 = .ok (.iload 5, 2) := by decide +kernel
theorem dX7_fill_60 : decode cX7_fill 60 = .ok (.iload 4, 2) := by decide +kernel
theorem dX7_fill_62 : decode cX7_fill 62 = .ok (.iload 6, 2) := by decide +kernel
theorem dX7_fill_64 : decode cX7_fill 64 = .ok (.ishr, 1) := by decide +kernel
theorem dX7_fill_65 : decode cX7_fill 65 = .ok (.iconst 1, 1) := by decide +kernel
theorem dX7_fill_66 : decode cX7_fill 66 = .ok (.iand, 1) := by decide +kernel
theorem dX7_fill_67 : decode cX7_fill 67 = .ok (.iconst 1, 1) := by decide +kernel
theorem dX7_fill_68 : decode cX7_fill 68 = .ok (.if_icmp .ne 12, 3) := by decide +kernel
theorem dX7_fill_71 : decode cX7_fill 71 = .ok (.aload_n 0, 1) := by decide +kernel
theorem dX7_fill_72 : decode cX7_fill 72 = .ok (.iload 6, 2) := by decide +kernel
theorem dX7_fill_74 : decode cX7_fill 74 = .ok (.invokevirtual 87, 3) := by decide +kernel
theorem dX7_fill_77 : decode cX7_fill 77 = .ok (.goto 4, 3) := by decide +kernel
theorem dX7_fill_80 : decode cX7_fill 80 = .ok (.iconst 0, 1) := by decide +kernel
theorem dX7_fill_81 : decode cX7_fill 81 = .ok (.iadd, 1) := by decide +kernel
theorem dX7_fill_82 : decode cX7_fill 82 = .ok (.istore 5, 2) := by decide +kernel
theorem dX7_fill_84 : decode cX7_fill 84 = .ok (.iinc 6 1, 3) := by decide +kernel
theorem dX7_fill_87 : decode cX7_fill 87 = .ok (.goto (-38), 3) := by decide +kernel
theorem dX7_fill_90 : decode cX7_fill 90 = .ok (.iload 5, 2) := by decide +kernel
theorem dX7_fill_92 : decode cX7_fill 92 = .ok (.iload_n 1, 1) := by decide +kernel
theorem dX7_fill_93 : decode cX7_fill 93 = .ok (.if_icmp .gt 15, 3) := by decide +kernel
theorem dX7_fill_96 : decode cX7_fill 96 = .ok (.iload 5, 2) := by decide +kernel
theorem dX7_fill_98 : decode cX7_fill 98 = .ok (.iload_n 3, 1) := by decide +kernel
theorem dX7_fill_99 : decode cX7_fill 99 = .ok (.if_icmp .le 9, 3) := by decide +kernel
theorem dX7_fill_102 : decode cX7_fill 102 = .ok (.iload 4, 2) := by decide +kernel
theorem dX7_fill_104 : decode cX7_fill 104 = .ok (.istore_n 2, 1) := by decide +kernel
theorem dX7_fill_105 : decode cX7_fill 105 = .ok (.iload 5, 2) := by decide +kernel
theorem dX7_fill_107 : decode cX7_fill 107 = .ok (.istore_n 3, 1) := by decide +kernel
theorem dX7_fill_108 : decode cX7_fill 108 = .ok (.iinc 4 1, 3) := by decide +kernel
theorem dX7_fill_111 : decode cX7_fill 111 = .ok (.goto (-79), 3) := by decide +kernel
theorem dX7_fill_114 : decode cX7_fill 114 = .ok (.iload_n 2, 1) := by decide +kernel
theorem dX7_fill_115 : decode cX7_fill 115 = .ok (.ireturn, 1) := by decide +kernel
theorem dX7_peak_0 : decode cX7_peak 0 = .ok (.aload_n 0, 1) := by decide +kernel
theorem dX7_peak_1 : decode cX7_peak 1 = .ok (.iconst 0, 1) := by decide +kernel
theorem dX7_peak_2 : decode cX7_peak 2 = .ok (.putfield 56, 3) := by decide +kernel
theorem dX7_peak_5 : decode cX7_peak 5 = .ok (.iconst 0, 1) := by decide +kernel
theorem dX7_peak_6 : decode cX7_peak 6 = .ok (.istore_n 1, 1) := by decide +kernel
theorem dX7_peak_7 : decode cX7_peak 7 = .ok (.iconst 0, 1) := by decide +kernel
theorem dX7_peak_8 : decode cX7_peak 8 = .ok (.istore_n 2, 1) := by decide +kernel
theorem dX7_peak_9 : decode cX7_peak 9 = .ok (.iconst 0, 1) := by decide +kernel
theorem dX7_peak_10 : decode cX7_peak 10 = .ok (.istore_n 3, 1) := by decide +kernel
theorem dX7_peak_11 : decode cX7_peak 11 = .ok (.iload_n 3, 1) := by decide +kernel
theorem dX7_peak_12 : decode cX7_peak 12 = .ok (.sipush 600, 3) := by decide +kernel
theorem dX7_peak_15 : decode cX7_peak 15 = .ok (.if_icmp .ge 65, 3) := by decide +kernel
theorem dX7_peak_18 : decode cX7_peak 18 = .ok (.iconst 0, 1) := by decide +kernel
theorem dX7_peak_19 : decode cX7_peak 19 = .ok (.istore 4, 2) := by decide +kernel
theorem dX7_peak_21 : decode cX7_peak 21 = .ok (.iconst 0, 1) := by decide +kernel
theorem dX7_peak_22 : decode cX7_peak 22 = .ok (.istore 5, 2) := by decide +kernel
theorem dX7_peak_24 : decode cX7_peak 24 = .ok (.iload 5, 2) := by decide +kernel
theorem dX7_peak_26 : decode cX7_peak 26 = .ok (.iconst 4, 1) := by decide +kernel
theorem dX7_peak_27 : decode cX7_peak 27 = .ok (.if_icmp .ge 36, 3) := by decide +kernel
theorem dX7_peak_30 : decode cX7_peak 30 = .ok (.iload 4, 2) := by decide +kernel
theorem dX7_peak_32 : decode cX7_peak 32 = .ok (.aload_n 0, 1) := by decide +kernel
theorem dX7_peak_33 : decode cX7_peak 33 = .ok (.getfield 47, 3) := by decide +kernel
theorem dX7_peak_36 : decode cX7_peak 36 = .ok (.sipush 600, 3) := by decide +kernel
theorem dX7_peak_39 : decode cX7_peak 39 = .ok (.iload 5, 2) := by decide +kernel
theorem dX7_peak_41 : decode cX7_peak 41 = .ok (.imul, 1) := by decide +kernel
theorem dX7_peak_42 : decode cX7_peak 42 = .ok (.iload_n 3, 1) := by decide +kernel
theorem dX7_peak_43 : decode cX7_peak 43 = .ok (.iadd, 1) := by decide +kernel
theorem dX7_peak_44 : decode cX7_peak 44 = .ok (.iaload, 1) := by decide +kernel
theorem dX7_peak_45 : decode cX7_peak 45 = .ok (.iconst (-1), 1) := by decide +kernel
theorem dX7_peak_46 : decode cX7_peak 46 = .ok (.if_icmp .ne 7, 3) := by decide +kernel
theorem dX7_peak_49 : decode cX7_peak 49 = .ok (.iconst 0, 1) := by decide +kernel
theorem dX7_peak_50 : decode cX7_peak 50 = .ok (.goto 4, 3) := by decide +kernel
theorem dX7_peak_53 : decode cX7_peak 53 = .ok (.iconst 1, 1) := by decide +kernel
theorem dX7_peak_54 : decode cX7_peak 54 = .ok (.iadd, 1) := by decide +kernel
theorem dX7_peak_55 : decode cX7_peak 55 = .ok (.istore 4, 2) := by decide +kernel
theorem dX7_peak_57 : decode cX7_peak 57 = .ok (.iinc 5 1, 3) := by decide +kernel
theorem dX7_peak_60 : decode cX7_peak 60 = .ok (.goto (-36), 3) := by decide +kernel
theorem dX7_peak_63 : decode cX7_peak 63 = .ok (.iload 4, 2) := by decide +kernel
theorem dX7_peak_65 : decode cX7_peak 65 = .ok (.iload_n 2, 1) := by decide +kernel
theorem dX7_peak_66 : decode cX7_peak 66 = .ok (.if_icmp .le 8, 3) := by decide +kernel
theorem dX7_peak_69 : decode cX7_peak 69 = .ok (.iload_n 3, 1) := by decide +kernel
theorem dX7_peak_70 : decode cX7_peak 70 = .ok (.istore_n 1, 1) := by decide +kernel
theorem dX7_peak_71 : decode cX7_peak 71 = .ok (.iload 4, 2) := by decide +kernel
theorem dX7_peak_73 : decode cX7_peak 73 = .ok (.istore_n 2, 1) := by decide +kernel
theorem dX7_peak_74 : decode cX7_peak 74 = .ok (.iinc 3 1, 3) := by decide +kernel
theorem dX7_peak_77 : decode cX7_peak 77 = .ok (.goto (-66), 3) := by decide +kernel
theorem dX7_peak_80 : decode cX7_peak 80 = .ok (.iload_n 1, 1) := by decide +kernel
theorem dX7_peak_81 : decode cX7_peak 81 = .ok (.ireturn, 1) := by decide +kernel
theorem dJ9_max_7cf53_0 : decode cJ9_max_7cf53 0 = .ok (.iload_n 0, 1) := by decide +kernel
theorem dJ9_max_7cf53_1 : decode cJ9_max_7cf53 1 = .ok (.iload_n 1, 1) := by decide +kernel
theorem dJ9_max_7cf53_2 : decode cJ9_max_7cf53 2 = .ok (.if_icmp .lt 7, 3) := by decide +kernel
theorem dJ9_max_7cf53_5 : decode cJ9_max_7cf53 5 = .ok (.iload_n 0, 1) := by decide +kernel
theorem dJ9_max_7cf53_6 : decode cJ9_max_7cf53 6 = .ok (.goto 4, 3) := by decide +kernel
theorem dJ9_max_7cf53_9 : decode cJ9_max_7cf53 9 = .ok (.iload_n 1, 1) := by decide +kernel
theorem dJ9_max_7cf53_10 : decode cJ9_max_7cf53 10 = .ok (.ireturn, 1) := by decide +kernel
theorem dJ9_min_7cf53_0 : decode cJ9_min_7cf53 0 = .ok (.iload_n 0, 1) := by decide +kernel
theorem dJ9_min_7cf53_1 : decode cJ9_min_7cf53 1 = .ok (.iload_n 1, 1) := by decide +kernel
theorem dJ9_min_7cf53_2 : decode cJ9_min_7cf53 2 = .ok (.if_icmp .gt 7, 3) := by decide +kernel
theorem dJ9_min_7cf53_5 : decode cJ9_min_7cf53 5 = .ok (.iload_n 0, 1) := by decide +kernel
theorem dJ9_min_7cf53_6 : decode cJ9_min_7cf53 6 = .ok (.goto 4, 3) := by decide +kernel
theorem dJ9_min_7cf53_9 : decode cJ9_min_7cf53 9 = .ok (.iload_n 1, 1) := by decide +kernel
theorem dJ9_min_7cf53_10 : decode cJ9_min_7cf53 10 = .ok (.ireturn, 1) := by decide +kernel
theorem dJxa1e45_init_da8c8_0 : decode cJxa1e45_init_da8c8 0 = .ok (.aload_n 0, 1) := by decide +kernel
theorem dJxa1e45_init_da8c8_1 : decode cJxa1e45_init_da8c8 1 = .ok (.invokespecial 1, 3) := by decide +kernel
theorem dJxa1e45_init_da8c8_4 : decode cJxa1e45_init_da8c8 4 = .ok (.return_, 1) := by decide +kernel
theorem dJxc12de_init_da8c8_0 : decode cJxc12de_init_da8c8 0 = .ok (.aload_n 0, 1) := by decide +kernel
theorem dJxc12de_init_da8c8_1 : decode cJxc12de_init_da8c8 1 = .ok (.invokespecial 1, 3) := by decide +kernel
theorem dJxc12de_init_da8c8_4 : decode cJxc12de_init_da8c8 4 = .ok (.aload_n 0, 1) := by decide +kernel
theorem dJxc12de_init_da8c8_5 : decode cJxc12de_init_da8c8 5 = .ok (.iconst 0, 1) := by decide +kernel
theorem dJxc12de_init_da8c8_6 : decode cJxc12de_init_da8c8 6 = .ok (.putfield 7, 3) := by decide +kernel
theorem dJxc12de_init_da8c8_9 : decode cJxc12de_init_da8c8 9 = .ok (.return_, 1) := by decide +kernel
theorem dJx4a65c_init_da8c8_0 : decode cJx4a65c_init_da8c8 0 = .ok (.aload_n 0, 1) := by decide +kernel
theorem dJx4a65c_init_da8c8_1 : decode cJx4a65c_init_da8c8 1 = .ok (.invokespecial 1, 3) := by decide +kernel
theorem dJx4a65c_init_da8c8_4 : decode cJx4a65c_init_da8c8 4 = .ok (.aload_n 0, 1) := by decide +kernel
theorem dJx4a65c_init_da8c8_5 : decode cJx4a65c_init_da8c8 5 = .ok (.getstatic 39, 3) := by decide +kernel
theorem dJx4a65c_init_da8c8_8 : decode cJx4a65c_init_da8c8 8 = .ok (.putfield 9, 3) := by decide +kernel
theorem dJx4a65c_init_da8c8_11 : decode cJx4a65c_init_da8c8 11 = .ok (.return_, 1) := by decide +kernel
theorem dJx4a65c_grow_92f84_0 : decode cJx4a65c_grow_92f84 0 = .ok (.aload_n 0, 1) := by decide +kernel
theorem dJx4a65c_grow_92f84_1 : decode cJx4a65c_grow_92f84 1 = .ok (.getfield 9, 3) := by decide +kernel
theorem dJx4a65c_grow_92f84_4 : decode cJx4a65c_grow_92f84 4 = .ok (.arraylength, 1) := by decide +kernel
theorem dJx4a65c_grow_92f84_5 : decode cJx4a65c_grow_92f84 5 = .ok (.istore_n 2, 1) := by decide +kernel
theorem dJx4a65c_grow_92f84_6 : decode cJx4a65c_grow_92f84 6 = .ok (.iload_n 2, 1) := by decide +kernel
theorem dJx4a65c_grow_92f84_7 : decode cJx4a65c_grow_92f84 7 = .ok (.ifCond .gt 13, 3) := by decide +kernel
theorem dJx4a65c_grow_92f84_10 : decode cJx4a65c_grow_92f84 10 = .ok (.aload_n 0, 1) := by decide +kernel
theorem dJx4a65c_grow_92f84_11 : decode cJx4a65c_grow_92f84 11 = .ok (.getfield 9, 3) := by decide +kernel
theorem dJx4a65c_grow_92f84_14 : decode cJx4a65c_grow_92f84 14 = .ok (.getstatic 39, 3) := by decide +kernel
theorem dJx4a65c_grow_92f84_17 : decode cJx4a65c_grow_92f84 17 = .ok (.if_acmp .eq 28, 3) := by decide +kernel
theorem dJx4a65c_grow_92f84_20 : decode cJx4a65c_grow_92f84 20 = .ok (.iload_n 2, 1) := by decide +kernel
theorem dJx4a65c_grow_92f84_21 : decode cJx4a65c_grow_92f84 21 = .ok (.iload_n 1, 1) := by decide +kernel
theorem dJx4a65c_grow_92f84_22 : decode cJx4a65c_grow_92f84 22 = .ok (.iload_n 2, 1) := by decide +kernel
theorem dJx4a65c_grow_92f84_23 : decode cJx4a65c_grow_92f84 23 = .ok (.isub, 1) := by decide +kernel
theorem dJx4a65c_grow_92f84_24 : decode cJx4a65c_grow_92f84 24 = .ok (.iload_n 2, 1) := by decide +kernel
theorem dJx4a65c_grow_92f84_25 : decode cJx4a65c_grow_92f84 25 = .ok (.iconst 1, 1) := by decide +kernel
theorem dJx4a65c_grow_92f84_26 : decode cJx4a65c_grow_92f84 26 = .ok (.ishr, 1) := by decide +kernel
theorem dJx4a65c_grow_92f84_27 : decode cJx4a65c_grow_92f84 27 = .ok (.invokestatic 73, 3) := by decide +kernel
theorem dJx4a65c_grow_92f84_30 : decode cJx4a65c_grow_92f84 30 = .ok (.istore_n 3, 1) := by decide +kernel
theorem dJx4a65c_grow_92f84_31 : decode cJx4a65c_grow_92f84 31 = .ok (.aload_n 0, 1) := by decide +kernel
theorem dJx4a65c_grow_92f84_32 : decode cJx4a65c_grow_92f84 32 = .ok (.aload_n 0, 1) := by decide +kernel
theorem dJx4a65c_grow_92f84_33 : decode cJx4a65c_grow_92f84 33 = .ok (.getfield 9, 3) := by decide +kernel
theorem dJx4a65c_grow_92f84_36 : decode cJx4a65c_grow_92f84 36 = .ok (.iload_n 3, 1) := by decide +kernel
theorem dJx4a65c_grow_92f84_37 : decode cJx4a65c_grow_92f84 37 = .ok (.invokestatic 66, 3) := by decide +kernel
theorem dJx4a65c_grow_92f84_40 : decode cJx4a65c_grow_92f84 40 = .ok (.dup_x1, 1) := by decide +kernel
theorem dJx4a65c_grow_92f84_41 : decode cJx4a65c_grow_92f84 41 = .ok (.putfield 9, 3) := by decide +kernel
theorem dJx4a65c_grow_92f84_44 : decode cJx4a65c_grow_92f84 44 = .ok (.areturn, 1) := by decide +kernel
theorem dJx4a65c_grow_92f84_45 : decode cJx4a65c_grow_92f84 45 = .ok (.aload_n 0, 1) := by decide +kernel
theorem dJx4a65c_grow_92f84_46 : decode cJx4a65c_grow_92f84 46 = .ok (.bipush 10, 2) := by decide +kernel
theorem dJx4a65c_grow_92f84_48 : decode cJx4a65c_grow_92f84 48 = .ok (.iload_n 1, 1) := by decide +kernel
theorem dJx4a65c_grow_92f84_49 : decode cJx4a65c_grow_92f84 49 = .ok (.invokestatic 79, 3) := by decide +kernel
theorem dJx4a65c_grow_92f84_52 : decode cJx4a65c_grow_92f84 52 = .ok (.anewarray 7, 3) := by decide +kernel
theorem dJx4a65c_grow_92f84_55 : decode cJx4a65c_grow_92f84 55 = .ok (.dup_x1, 1) := by decide +kernel
theorem dJx4a65c_grow_92f84_56 : decode cJx4a65c_grow_92f84 56 = .ok (.putfield 9, 3) := by decide +kernel
theorem dJx4a65c_grow_92f84_59 : decode cJx4a65c_grow_92f84 59 = .ok (.areturn, 1) := by decide +kernel
theorem dJx4a65c_grow_d5877_0 : decode cJx4a65c_grow_d5877 0 = .ok (.aload_n 0, 1) := by decide +kernel
theorem dJx4a65c_grow_d5877_1 : decode cJx4a65c_grow_d5877 1 = .ok (.aload_n 0, 1) := by decide +kernel
theorem dJx4a65c_grow_d5877_2 : decode cJx4a65c_grow_d5877 2 = .ok (.getfield 48, 3) := by decide +kernel
theorem dJx4a65c_grow_d5877_5 : decode cJx4a65c_grow_d5877 5 = .ok (.iconst 1, 1) := by decide +kernel
theorem dJx4a65c_grow_d5877_6 : decode cJx4a65c_grow_d5877 6 = .ok (.iadd, 1) := by decide +kernel
theorem dJx4a65c_grow_d5877_7 : decode cJx4a65c_grow_d5877 7 = .ok (.invokevirtual 69, 3) := by decide +kernel
theorem dJx4a65c_grow_d5877_10 : decode cJx4a65c_grow_d5877 10 = .ok (.areturn, 1) := by decide +kernel
theorem dJx4a65c_size_8abf5_0 : decode cJx4a65c_size_8abf5 0 = .ok (.aload_n 0, 1) := by decide +kernel
theorem dJx4a65c_size_8abf5_1 : decode cJx4a65c_size_8abf5 1 = .ok (.getfield 48, 3) := by decide +kernel
theorem dJx4a65c_size_8abf5_4 : decode cJx4a65c_size_8abf5 4 = .ok (.ireturn, 1) := by decide +kernel
theorem dJx4a65c_elementData_915e3_0 : decode cJx4a65c_elementData_915e3 0 = .ok (.aload_n 0, 1) := by decide +kernel
theorem dJx4a65c_elementData_915e3_1 : decode cJx4a65c_elementData_915e3 1 = .ok (.getfield 9, 3) := by decide +kernel
theorem dJx4a65c_elementData_915e3_4 : decode cJx4a65c_elementData_915e3 4 = .ok (.iload_n 1, 1) := by decide +kernel
theorem dJx4a65c_elementData_915e3_5 : decode cJx4a65c_elementData_915e3 5 = .ok (.aaload, 1) := by decide +kernel
theorem dJx4a65c_elementData_915e3_6 : decode cJx4a65c_elementData_915e3 6 = .ok (.areturn, 1) := by decide +kernel
theorem dJx4a65c_get_915e3_0 : decode cJx4a65c_get_915e3 0 = .ok (.iload_n 1, 1) := by decide +kernel
theorem dJx4a65c_get_915e3_1 : decode cJx4a65c_get_915e3 1 = .ok (.aload_n 0, 1) := by decide +kernel
theorem dJx4a65c_get_915e3_2 : decode cJx4a65c_get_915e3 2 = .ok (.getfield 48, 3) := by decide +kernel
theorem dJx4a65c_get_915e3_5 : decode cJx4a65c_get_915e3 5 = .ok (.invokestatic 118, 3) := by decide +kernel
theorem dJx4a65c_get_915e3_8 : decode cJx4a65c_get_915e3 8 = .ok (.pop, 1) := by decide +kernel
theorem dJx4a65c_get_915e3_9 : decode cJx4a65c_get_915e3 9 = .ok (.aload_n 0, 1) := by decide +kernel
theorem dJx4a65c_get_915e3_10 : decode cJx4a65c_get_915e3 10 = .ok (.iload_n 1, 1) := by decide +kernel
theorem dJx4a65c_get_915e3_11 : decode cJx4a65c_get_915e3 11 = .ok (.invokevirtual 123, 3) := by decide +kernel
theorem dJx4a65c_get_915e3_14 : decode cJx4a65c_get_915e3 14 = .ok (.areturn, 1) := by decide +kernel
theorem dJx4a65c_add_72be8_0 : decode cJx4a65c_add_72be8 0 = .ok (.iload_n 3, 1) := by decide +kernel
theorem dJx4a65c_add_72be8_1 : decode cJx4a65c_add_72be8 1 = .ok (.aload_n 2, 1) := by decide +kernel
theorem dJx4a65c_add_72be8_2 : decode cJx4a65c_add_72be8 2 = .ok (.arraylength, 1) := by decide +kernel
theorem dJx4a65c_add_72be8_3 : decode cJx4a65c_add_72be8 3 = .ok (.if_icmp .ne 8, 3) := by decide +kernel
theorem dJx4a65c_add_72be8_6 : decode cJx4a65c_add_72be8 6 = .ok (.aload_n 0, 1) := by decide +kernel
theorem dJx4a65c_add_72be8_7 : decode cJx4a65c_add_72be8 7 = .ok (.invokevirtual 129, 3) := by decide +kernel
theorem dJx4a65c_add_72be8_10 : decode cJx4a65c_add_72be8 10 = .ok (.astore_n 2, 1) := by decide +kernel
theorem dJx4a65c_add_72be8_11 : decode cJx4a65c_add_72be8 11 = .ok (.aload_n 2, 1) := by decide +kernel
theorem dJx4a65c_add_72be8_12 : decode cJx4a65c_add_72be8 12 = .ok (.iload_n 3, 1) := by decide +kernel
theorem dJx4a65c_add_72be8_13 : decode cJx4a65c_add_72be8 13 = .ok (.aload_n 1, 1) := by decide +kernel
theorem dJx4a65c_add_72be8_14 : decode cJx4a65c_add_72be8 14 = .ok (.aastore, 1) := by decide +kernel
theorem dJx4a65c_add_72be8_15 : decode cJx4a65c_add_72be8 15 = .ok (.aload_n 0, 1) := by decide +kernel
theorem dJx4a65c_add_72be8_16 : decode cJx4a65c_add_72be8 16 = .ok (.iload_n 3, 1) := by decide +kernel
theorem dJx4a65c_add_72be8_17 : decode cJx4a65c_add_72be8 17 = .ok (.iconst 1, 1) := by decide +kernel
theorem dJx4a65c_add_72be8_18 : decode cJx4a65c_add_72be8 18 = .ok (.iadd, 1) := by decide +kernel
theorem dJx4a65c_add_72be8_19 : decode cJx4a65c_add_72be8 19 = .ok (.putfield 48, 3) := by decide +kernel
theorem dJx4a65c_add_72be8_22 : decode cJx4a65c_add_72be8 22 = .ok (.return_, 1) := by decide +kernel
theorem dJx4a65c_add_9ea2d_0 : decode cJx4a65c_add_9ea2d 0 = .ok (.aload_n 0, 1) := by decide +kernel
theorem dJx4a65c_add_9ea2d_1 : decode cJx4a65c_add_9ea2d 1 = .ok (.dup, 1) := by decide +kernel
theorem dJx4a65c_add_9ea2d_2 : decode cJx4a65c_add_9ea2d 2 = .ok (.getfield 63, 3) := by decide +kernel
theorem dJx4a65c_add_9ea2d_5 : decode cJx4a65c_add_9ea2d 5 = .ok (.iconst 1, 1) := by decide +kernel
theorem dJx4a65c_add_9ea2d_6 : decode cJx4a65c_add_9ea2d 6 = .ok (.iadd, 1) := by decide +kernel
theorem dJx4a65c_add_9ea2d_7 : decode cJx4a65c_add_9ea2d 7 = .ok (.putfield 63, 3) := by decide +kernel
theorem dJx4a65c_add_9ea2d_10 : decode cJx4a65c_add_9ea2d 10 = .ok (.aload_n 0, 1) := by decide +kernel
theorem dJx4a65c_add_9ea2d_11 : decode cJx4a65c_add_9ea2d 11 = .ok (.aload_n 1, 1) := by decide +kernel
theorem dJx4a65c_add_9ea2d_12 : decode cJx4a65c_add_9ea2d 12 = .ok (.aload_n 0, 1) := by decide +kernel
theorem dJx4a65c_add_9ea2d_13 : decode cJx4a65c_add_9ea2d 13 = .ok (.getfield 9, 3) := by decide +kernel
theorem dJx4a65c_add_9ea2d_16 : decode cJx4a65c_add_9ea2d 16 = .ok (.aload_n 0, 1) := by decide +kernel
theorem dJx4a65c_add_9ea2d_17 : decode cJx4a65c_add_9ea2d 17 = .ok (.getfield 48, 3) := by decide +kernel
theorem dJx4a65c_add_9ea2d_20 : decode cJx4a65c_add_9ea2d 20 = .ok (.invokevirtual 131, 3) := by decide +kernel
theorem dJx4a65c_add_9ea2d_23 : decode cJx4a65c_add_9ea2d 23 = .ok (.iconst 1, 1) := by decide +kernel
theorem dJx4a65c_add_9ea2d_24 : decode cJx4a65c_add_9ea2d 24 = .ok (.ireturn, 1) := by decide +kernel
theorem dJx4a65c_remove_915e3_0 : decode cJx4a65c_remove_915e3 0 = .ok (.iload_n 1, 1) := by decide +kernel
theorem dJx4a65c_remove_915e3_1 : decode cJx4a65c_remove_915e3 1 = .ok (.aload_n 0, 1) := by decide +kernel
theorem dJx4a65c_remove_915e3_2 : decode cJx4a65c_remove_915e3 2 = .ok (.getfield 48, 3) := by decide +kernel
theorem dJx4a65c_remove_915e3_5 : decode cJx4a65c_remove_915e3 5 = .ok (.invokestatic 118, 3) := by decide +kernel
theorem dJx4a65c_remove_915e3_8 : decode cJx4a65c_remove_915e3 8 = .ok (.pop, 1) := by decide +kernel
theorem dJx4a65c_remove_915e3_9 : decode cJx4a65c_remove_915e3 9 = .ok (.aload_n 0, 1) := by decide +kernel
theorem dJx4a65c_remove_915e3_10 : decode cJx4a65c_remove_915e3 10 = .ok (.getfield 9, 3) := by decide +kernel
theorem dJx4a65c_remove_915e3_13 : decode cJx4a65c_remove_915e3 13 = .ok (.astore_n 2, 1) := by decide +kernel
theorem dJx4a65c_remove_915e3_14 : decode cJx4a65c_remove_915e3 14 = .ok (.aload_n 2, 1) := by decide +kernel
theorem dJx4a65c_remove_915e3_15 : decode cJx4a65c_remove_915e3 15 = .ok (.iload_n 1, 1) := by decide +kernel
theorem dJx4a65c_remove_915e3_16 : decode cJx4a65c_remove_915e3 16 = .ok (.aaload, 1) := by decide +kernel
theorem dJx4a65c_remove_915e3_17 : decode cJx4a65c_remove_915e3 17 = .ok (.astore_n 3, 1) := by decide +kernel
theorem dJx4a65c_remove_915e3_18 : decode cJx4a65c_remove_915e3 18 = .ok (.aload_n 0, 1) := by decide +kernel
theorem dJx4a65c_remove_915e3_19 : decode cJx4a65c_remove_915e3 19 = .ok (.aload_n 2, 1) := by decide +kernel
theorem dJx4a65c_remove_915e3_20 : decode cJx4a65c_remove_915e3 20 = .ok (.iload_n 1, 1) := by decide +kernel
theorem dJx4a65c_remove_915e3_21 : decode cJx4a65c_remove_915e3 21 = .ok (.invokevirtual 144, 3) := by decide +kernel
theorem dJx4a65c_remove_915e3_24 : decode cJx4a65c_remove_915e3 24 = .ok (.aload_n 3, 1) := by decide +kernel
theorem dJx4a65c_remove_915e3_25 : decode cJx4a65c_remove_915e3 25 = .ok (.areturn, 1) := by decide +kernel
theorem dJx4a65c_fastRemove_b59b0_0 : decode cJx4a65c_fastRemove_b59b0 0 = .ok (.aload_n 0, 1) := by decide +kernel
theorem dJx4a65c_fastRemove_b59b0_1 : decode cJx4a65c_fastRemove_b59b0 1 = .ok (.dup, 1) := by decide +kernel
theorem dJx4a65c_fastRemove_b59b0_2 : decode cJx4a65c_fastRemove_b59b0 2 = .ok (.getfield 63, 3) := by decide +kernel
theorem dJx4a65c_fastRemove_b59b0_5 : decode cJx4a65c_fastRemove_b59b0 5 = .ok (.iconst 1, 1) := by decide +kernel
theorem dJx4a65c_fastRemove_b59b0_6 : decode cJx4a65c_fastRemove_b59b0 6 = .ok (.iadd, 1) := by decide +kernel
theorem dJx4a65c_fastRemove_b59b0_7 : decode cJx4a65c_fastRemove_b59b0 7 = .ok (.putfield 63, 3) := by decide +kernel
theorem dJx4a65c_fastRemove_b59b0_10 : decode cJx4a65c_fastRemove_b59b0 10 = .ok (.aload_n 0, 1) := by decide +kernel
theorem dJx4a65c_fastRemove_b59b0_11 : decode cJx4a65c_fastRemove_b59b0 11 = .ok (.getfield 48, 3) := by decide +kernel
theorem dJx4a65c_fastRemove_b59b0_14 : decode cJx4a65c_fastRemove_b59b0 14 = .ok (.iconst 1, 1) := by decide +kernel
theorem dJx4a65c_fastRemove_b59b0_15 : decode cJx4a65c_fastRemove_b59b0 15 = .ok (.isub, 1) := by decide +kernel
theorem dJx4a65c_fastRemove_b59b0_16 : decode cJx4a65c_fastRemove_b59b0 16 = .ok (.dup, 1) := by decide +kernel
theorem dJx4a65c_fastRemove_b59b0_17 : decode cJx4a65c_fastRemove_b59b0 17 = .ok (.istore_n 3, 1) := by decide +kernel
theorem dJx4a65c_fastRemove_b59b0_18 : decode cJx4a65c_fastRemove_b59b0 18 = .ok (.iload_n 2, 1) := by decide +kernel
theorem dJx4a65c_fastRemove_b59b0_19 : decode cJx4a65c_fastRemove_b59b0 19 = .ok (.if_icmp .le 15, 3) := by decide +kernel
theorem dJx4a65c_fastRemove_b59b0_22 : decode cJx4a65c_fastRemove_b59b0 22 = .ok (.aload_n 1, 1) := by decide +kernel
theorem dJx4a65c_fastRemove_b59b0_23 : decode cJx4a65c_fastRemove_b59b0 23 = .ok (.iload_n 2, 1) := by decide +kernel
theorem dJx4a65c_fastRemove_b59b0_24 : decode cJx4a65c_fastRemove_b59b0 24 = .ok (.iconst 1, 1) := by decide +kernel
theorem dJx4a65c_fastRemove_b59b0_25 : decode cJx4a65c_fastRemove_b59b0 25 = .ok (.iadd, 1) := by decide +kernel
theorem dJx4a65c_fastRemove_b59b0_26 : decode cJx4a65c_fastRemove_b59b0 26 = .ok (.aload_n 1, 1) := by decide +kernel
theorem dJx4a65c_fastRemove_b59b0_27 : decode cJx4a65c_fastRemove_b59b0 27 = .ok (.iload_n 2, 1) := by decide +kernel
theorem dJx4a65c_fastRemove_b59b0_28 : decode cJx4a65c_fastRemove_b59b0 28 = .ok (.iload_n 3, 1) := by decide +kernel
theorem dJx4a65c_fastRemove_b59b0_29 : decode cJx4a65c_fastRemove_b59b0 29 = .ok (.iload_n 2, 1) := by decide +kernel
theorem dJx4a65c_fastRemove_b59b0_30 : decode cJx4a65c_fastRemove_b59b0 30 = .ok (.isub, 1) := by decide +kernel
theorem dJx4a65c_fastRemove_b59b0_31 : decode cJx4a65c_fastRemove_b59b0 31 = .ok (.invokestatic 112, 3) := by decide +kernel
theorem dJx4a65c_fastRemove_b59b0_34 : decode cJx4a65c_fastRemove_b59b0 34 = .ok (.aload_n 1, 1) := by decide +kernel
theorem dJx4a65c_fastRemove_b59b0_35 : decode cJx4a65c_fastRemove_b59b0 35 = .ok (.aload_n 0, 1) := by decide +kernel
theorem dJx4a65c_fastRemove_b59b0_36 : decode cJx4a65c_fastRemove_b59b0 36 = .ok (.iload_n 3, 1) := by decide +kernel
theorem dJx4a65c_fastRemove_b59b0_37 : decode cJx4a65c_fastRemove_b59b0 37 = .ok (.dup_x1, 1) := by decide +kernel
theorem dJx4a65c_fastRemove_b59b0_38 : decode cJx4a65c_fastRemove_b59b0 38 = .ok (.putfield 48, 3) := by decide +kernel
theorem dJx4a65c_fastRemove_b59b0_41 : decode cJx4a65c_fastRemove_b59b0 41 = .ok (.aconst_null, 1) := by decide +kernel
theorem dJx4a65c_fastRemove_b59b0_42 : decode cJx4a65c_fastRemove_b59b0 42 = .ok (.aastore, 1) := by decide +kernel
theorem dJx4a65c_fastRemove_b59b0_43 : decode cJx4a65c_fastRemove_b59b0 43 = .ok (.return_, 1) := by decide +kernel
theorem dJ7_copyOf_1904c_0 : decode cJ7_copyOf_1904c 0 = .ok (.aload_n 0, 1) := by decide +kernel
theorem dJ7_copyOf_1904c_1 : decode cJ7_copyOf_1904c 1 = .ok (.iload_n 1, 1) := by decide +kernel
theorem dJ7_copyOf_1904c_2 : decode cJ7_copyOf_1904c 2 = .ok (.aload_n 0, 1) := by decide +kernel
theorem dJ7_copyOf_1904c_3 : decode cJ7_copyOf_1904c 3 = .ok (.invokevirtual 86, 3) := by decide +kernel
theorem dJ7_copyOf_1904c_6 : decode cJ7_copyOf_1904c 6 = .ok (.invokestatic 300, 3) := by decide +kernel
theorem dJ7_copyOf_1904c_9 : decode cJ7_copyOf_1904c 9 = .ok (.areturn, 1) := by decide +kernel
theorem dJ7_copyOf_6403c_0 : decode cJ7_copyOf_6403c 0 = .ok (.aload_n 2, 1) := by decide +kernel
theorem dJ7_copyOf_6403c_1 : decode cJ7_copyOf_6403c 1 = .ok (.ldc 110, 2) := by decide +kernel
theorem dJ7_copyOf_6403c_3 : decode cJ7_copyOf_6403c 3 = .ok (.if_acmp .ne 10, 3) := by decide +kernel
theorem dJ7_copyOf_6403c_6 : decode cJ7_copyOf_6403c 6 = .ok (.iload_n 1, 1) := by decide +kernel
theorem dJ7_copyOf_6403c_7 : decode cJ7_copyOf_6403c 7 = .ok (.anewarray 2, 3) := by decide +kernel
theorem dJ7_copyOf_6403c_10 : decode cJ7_copyOf_6403c 10 = .ok (.goto 14, 3) := by decide +kernel
theorem dJ7_copyOf_6403c_13 : decode cJ7_copyOf_6403c 13 = .ok (.aload_n 2, 1) := by decide +kernel
theorem dJ7_copyOf_6403c_14 : decode cJ7_copyOf_6403c 14 = .ok (.invokevirtual 90, 3) := by decide +kernel
theorem dJ7_copyOf_6403c_17 : decode cJ7_copyOf_6403c 17 = .ok (.iload_n 1, 1) := by decide +kernel
theorem dJ7_copyOf_6403c_18 : decode cJ7_copyOf_6403c 18 = .ok (.invokestatic 95, 3) := by decide +kernel
theorem dJ7_copyOf_6403c_21 : decode cJ7_copyOf_6403c 21 = .ok (.checkcast 110, 3) := by decide +kernel
theorem dJ7_copyOf_6403c_24 : decode cJ7_copyOf_6403c 24 = .ok (.astore_n 3, 1) := by decide +kernel
theorem dJ7_copyOf_6403c_25 : decode cJ7_copyOf_6403c 25 = .ok (.aload_n 0, 1) := by decide +kernel
theorem dJ7_copyOf_6403c_26 : decode cJ7_copyOf_6403c 26 = .ok (.iconst 0, 1) := by decide +kernel
theorem dJ7_copyOf_6403c_27 : decode cJ7_copyOf_6403c 27 = .ok (.aload_n 3, 1) := by decide +kernel
theorem dJ7_copyOf_6403c_28 : decode cJ7_copyOf_6403c 28 = .ok (.iconst 0, 1) := by decide +kernel
theorem dJ7_copyOf_6403c_29 : decode cJ7_copyOf_6403c 29 = .ok (.aload_n 0, 1) := by decide +kernel
theorem dJ7_copyOf_6403c_30 : decode cJ7_copyOf_6403c 30 = .ok (.arraylength, 1) := by decide +kernel
theorem dJ7_copyOf_6403c_31 : decode cJ7_copyOf_6403c 31 = .ok (.iload_n 1, 1) := by decide +kernel
theorem dJ7_copyOf_6403c_32 : decode cJ7_copyOf_6403c 32 = .ok (.invokestatic 304, 3) := by decide +kernel
theorem dJ7_copyOf_6403c_35 : decode cJ7_copyOf_6403c 35 = .ok (.invokestatic 150, 3) := by decide +kernel
theorem dJ7_copyOf_6403c_38 : decode cJ7_copyOf_6403c 38 = .ok (.aload_n 3, 1) := by decide +kernel
theorem dJ7_copyOf_6403c_39 : decode cJ7_copyOf_6403c 39 = .ok (.areturn, 1) := by decide +kernel
theorem dJ15_checkIndex_7cf53_0 : decode cJ15_checkIndex_7cf53 0 = .ok (.iload_n 0, 1) := by decide +kernel
theorem dJ15_checkIndex_7cf53_1 : decode cJ15_checkIndex_7cf53 1 = .ok (.iload_n 1, 1) := by decide +kernel
theorem dJ15_checkIndex_7cf53_2 : decode cJ15_checkIndex_7cf53 2 = .ok (.aconst_null, 1) := by decide +kernel
theorem dJ15_checkIndex_7cf53_3 : decode cJ15_checkIndex_7cf53 3 = .ok (.invokestatic 105, 3) := by decide +kernel
theorem dJ15_checkIndex_7cf53_6 : decode cJ15_checkIndex_7cf53 6 = .ok (.ireturn, 1) := by decide +kernel
theorem dJ8_newLength_cabcc_0 : decode cJ8_newLength_cabcc 0 = .ok (.iload_n 0, 1) := by decide +kernel
theorem dJ8_newLength_cabcc_1 : decode cJ8_newLength_cabcc 1 = .ok (.iload_n 1, 1) := by decide +kernel
theorem dJ8_newLength_cabcc_2 : decode cJ8_newLength_cabcc 2 = .ok (.iload_n 2, 1) := by decide +kernel
theorem dJ8_newLength_cabcc_3 : decode cJ8_newLength_cabcc 3 = .ok (.invokestatic 194, 3) := by decide +kernel
theorem dJ8_newLength_cabcc_6 : decode cJ8_newLength_cabcc 6 = .ok (.iadd, 1) := by decide +kernel
theorem dJ8_newLength_cabcc_7 : decode cJ8_newLength_cabcc 7 = .ok (.istore_n 3, 1) := by decide +kernel
theorem dJ8_newLength_cabcc_8 : decode cJ8_newLength_cabcc 8 = .ok (.iconst 0, 1) := by decide +kernel
theorem dJ8_newLength_cabcc_9 : decode cJ8_newLength_cabcc 9 = .ok (.iload_n 3, 1) := by decide +kernel
theorem dJ8_newLength_cabcc_10 : decode cJ8_newLength_cabcc 10 = .ok (.if_icmp .ge 11, 3) := by decide +kernel
theorem dJ8_newLength_cabcc_13 : decode cJ8_newLength_cabcc 13 = .ok (.iload_n 3, 1) := by decide +kernel
theorem dJ8_newLength_cabcc_14 : decode cJ8_newLength_cabcc 14 = .ok (.ldc 200, 2) := by decide +kernel
theorem dJ8_newLength_cabcc_16 : decode cJ8_newLength_cabcc 16 = .ok (.if_icmp .gt 5, 3) := by decide +kernel
theorem dJ8_newLength_cabcc_19 : decode cJ8_newLength_cabcc 19 = .ok (.iload_n 3, 1) := by decide +kernel
theorem dJ8_newLength_cabcc_20 : decode cJ8_newLength_cabcc 20 = .ok (.ireturn, 1) := by decide +kernel
theorem dJ8_newLength_cabcc_21 : decode cJ8_newLength_cabcc 21 = .ok (.iload_n 0, 1) := by decide +kernel
theorem dJ8_newLength_cabcc_22 : decode cJ8_newLength_cabcc 22 = .ok (.iload_n 1, 1) := by decide +kernel
theorem dJ8_newLength_cabcc_23 : decode cJ8_newLength_cabcc 23 = .ok (.invokestatic 201, 3) := by decide +kernel
theorem dJ8_newLength_cabcc_26 : decode cJ8_newLength_cabcc 26 = .ok (.ireturn, 1) := by decide +kernel
theorem dJ8_hugeLength_7cf53_0 : decode cJ8_hugeLength_7cf53 0 = .ok (.iload_n 0, 1) := by decide +kernel
theorem dJ8_hugeLength_7cf53_1 : decode cJ8_hugeLength_7cf53 1 = .ok (.iload_n 1, 1) := by decide +kernel
theorem dJ8_hugeLength_7cf53_2 : decode cJ8_hugeLength_7cf53 2 = .ok (.iadd, 1) := by decide +kernel
theorem dJ8_hugeLength_7cf53_3 : decode cJ8_hugeLength_7cf53 3 = .ok (.istore_n 2, 1) := by decide +kernel
theorem dJ8_hugeLength_7cf53_4 : decode cJ8_hugeLength_7cf53 4 = .ok (.iload_n 2, 1) := by decide +kernel
theorem dJ8_hugeLength_7cf53_5 : decode cJ8_hugeLength_7cf53 5 = .ok (.ifCond .ge 44, 3) := by decide +kernel
theorem dJ8_hugeLength_7cf53_8 : decode cJ8_hugeLength_7cf53 8 = .ok (.new 204, 3) := by decide +kernel
theorem dJ8_hugeLength_7cf53_11 : decode cJ8_hugeLength_7cf53 11 = .ok (.dup, 1) := by decide +kernel
theorem dJ8_hugeLength_7cf53_12 : decode cJ8_hugeLength_7cf53 12 = .ok (.new 89, 3) := by decide +kernel
theorem dJ8_hugeLength_7cf53_15 : decode cJ8_hugeLength_7cf53 15 = .ok (.dup, 1) := by decide +kernel
theorem dJ8_hugeLength_7cf53_16 : decode cJ8_hugeLength_7cf53 16 = .ok (.invokespecial 91, 3) := by decide +kernel
theorem dJ8_hugeLength_7cf53_19 : decode cJ8_hugeLength_7cf53 19 = .ok (.ldc 206, 2) := by decide +kernel
theorem dJ8_hugeLength_7cf53_21 : decode cJ8_hugeLength_7cf53 21 = .ok (.invokevirtual 94, 3) := by decide +kernel
theorem dJ8_hugeLength_7cf53_24 : decode cJ8_hugeLength_7cf53 24 = .ok (.iload_n 0, 1) := by decide +kernel
theorem dJ8_hugeLength_7cf53_25 : decode cJ8_hugeLength_7cf53 25 = .ok (.invokevirtual 98, 3) := by decide +kernel
theorem dJ8_hugeLength_7cf53_28 : decode cJ8_hugeLength_7cf53 28 = .ok (.ldc 208, 2) := by decide +kernel
theorem dJ8_hugeLength_7cf53_30 : decode cJ8_hugeLength_7cf53 30 = .ok (.invokevirtual 94, 3) := by decide +kernel
theorem dJ8_hugeLength_7cf53_33 : decode cJ8_hugeLength_7cf53 33 = .ok (.iload_n 1, 1) := by decide +kernel
theorem dJ8_hugeLength_7cf53_34 : decode cJ8_hugeLength_7cf53 34 = .ok (.invokevirtual 98, 3) := by decide +kernel
theorem dJ8_hugeLength_7cf53_37 : decode cJ8_hugeLength_7cf53 37 = .ok (.ldc 210, 2) := by decide +kernel
theorem dJ8_hugeLength_7cf53_39 : decode cJ8_hugeLength_7cf53 39 = .ok (.invokevirtual 94, 3) := by decide +kernel
theorem dJ8_hugeLength_7cf53_42 : decode cJ8_hugeLength_7cf53 42 = .ok (.invokevirtual 101, 3) := by decide +kernel
theorem dJ8_hugeLength_7cf53_45 : decode cJ8_hugeLength_7cf53 45 = .ok (.invokespecial 212, 3) := by decide +kernel
theorem dJ8_hugeLength_7cf53_48 : decode cJ8_hugeLength_7cf53 48 = .ok (.athrow, 1) := by decide +kernel
theorem dJ8_hugeLength_7cf53_49 : decode cJ8_hugeLength_7cf53 49 = .ok (.iload_n 2, 1) := by decide +kernel
theorem dJ8_hugeLength_7cf53_50 : decode cJ8_hugeLength_7cf53 50 = .ok (.ldc 200, 2) := by decide +kernel
theorem dJ8_hugeLength_7cf53_52 : decode cJ8_hugeLength_7cf53 52 = .ok (.if_icmp .gt 6, 3) := by decide +kernel
theorem dJ8_hugeLength_7cf53_55 : decode cJ8_hugeLength_7cf53 55 = .ok (.ldc 200, 2) := by decide +kernel
theorem dJ8_hugeLength_7cf53_57 : decode cJ8_hugeLength_7cf53 57 = .ok (.ireturn, 1) := by decide +kernel
theorem dJ8_hugeLength_7cf53_58 : decode cJ8_hugeLength_7cf53 58 = .ok (.iload_n 2, 1) := by decide +kernel
theorem dJ8_hugeLength_7cf53_59 : decode cJ8_hugeLength_7cf53 59 = .ok (.ireturn, 1) := by decide +kernel
theorem dJ3_checkIndex_8e157_0 : decode cJ3_checkIndex_8e157 0 = .ok (.iload_n 0, 1) := by decide +kernel
theorem dJ3_checkIndex_8e157_1 : decode cJ3_checkIndex_8e157 1 = .ok (.ifCond .lt 8, 3) := by decide +kernel
theorem dJ3_checkIndex_8e157_4 : decode cJ3_checkIndex_8e157 4 = .ok (.iload_n 0, 1) := by decide +kernel
theorem dJ3_checkIndex_8e157_5 : decode cJ3_checkIndex_8e157 5 = .ok (.iload_n 1, 1) := by decide +kernel
theorem dJ3_checkIndex_8e157_6 : decode cJ3_checkIndex_8e157 6 = .ok (.if_icmp .lt 10, 3) := by decide +kernel
theorem dJ3_checkIndex_8e157_9 : decode cJ3_checkIndex_8e157 9 = .ok (.aload_n 2, 1) := by decide +kernel
theorem dJ3_checkIndex_8e157_10 : decode cJ3_checkIndex_8e157 10 = .ok (.iload_n 0, 1) := by decide +kernel
theorem dJ3_checkIndex_8e157_11 : decode cJ3_checkIndex_8e157 11 = .ok (.iload_n 1, 1) := by decide +kernel
theorem dJ3_checkIndex_8e157_12 : decode cJ3_checkIndex_8e157 12 = .ok (.invokestatic 95, 3) := by decide +kernel
theorem dJ3_checkIndex_8e157_15 : decode cJ3_checkIndex_8e157 15 = .ok (.athrow, 1) := by decide +kernel
theorem dJ3_checkIndex_8e157_16 : decode cJ3_checkIndex_8e157 16 = .ok (.iload_n 0, 1) := by decide +kernel
theorem dJ3_checkIndex_8e157_17 : decode cJ3_checkIndex_8e157 17 = .ok (.ireturn, 1) := by decide +kernel
theorem dL_hire_0 : decode cL_hire 0 = .ok (.aload 4, 2) := by decide +kernel
theorem dL_hire_2 : decode cL_hire 2 = .ok (.iconst 0, 1) := by decide +kernel
theorem dL_hire_3 : decode cL_hire 3 = .ok (.aload_n 0, 1) := by decide +kernel
theorem dL_hire_4 : decode cL_hire 4 = .ok (.iload_n 1, 1) := by decide +kernel
theorem dL_hire_5 : decode cL_hire 5 = .ok (.iload_n 2, 1) := by decide +kernel
theorem dL_hire_6 : decode cL_hire 6 = .ok (.iload_n 3, 1) := by decide +kernel
theorem dL_hire_7 : decode cL_hire 7 = .ok (.invokevirtual 7, 3) := by decide +kernel
theorem dL_hire_10 : decode cL_hire 10 = .ok (.i2l, 1) := by decide +kernel
theorem dL_hire_11 : decode cL_hire 11 = .ok (.lastore, 1) := by decide +kernel
theorem dL_hire_12 : decode cL_hire 12 = .ok (.goto 11, 3) := by decide +kernel
theorem dL_hire_15 : decode cL_hire 15 = .ok (.astore 5, 2) := by decide +kernel
theorem dL_hire_17 : decode cL_hire 17 = .ok (.iconst 1, 1) := by decide +kernel
theorem dL_hire_18 : decode cL_hire 18 = .ok (.ireturn, 1) := by decide +kernel
theorem dL_hire_19 : decode cL_hire 19 = .ok (.astore 5, 2) := by decide +kernel
theorem dL_hire_21 : decode cL_hire 21 = .ok (.iconst 2, 1) := by decide +kernel
theorem dL_hire_22 : decode cL_hire 22 = .ok (.ireturn, 1) := by decide +kernel
theorem dL_hire_23 : decode cL_hire 23 = .ok (.iconst 0, 1) := by decide +kernel
theorem dL_hire_24 : decode cL_hire 24 = .ok (.ireturn, 1) := by decide +kernel
theorem dL_addService_0 : decode cL_addService 0 = .ok (.aload_n 3, 1) := by decide +kernel
theorem dL_addService_1 : decode cL_addService 1 = .ok (.iconst 0, 1) := by decide +kernel
theorem dL_addService_2 : decode cL_addService 2 = .ok (.aload_n 0, 1) := by decide +kernel
theorem dL_addService_3 : decode cL_addService 3 = .ok (.iload_n 1, 1) := by decide +kernel
theorem dL_addService_4 : decode cL_addService 4 = .ok (.iload_n 2, 1) := by decide +kernel
theorem dL_addService_5 : decode cL_addService 5 = .ok (.invokevirtual 17, 3) := by decide +kernel
theorem dL_addService_8 : decode cL_addService 8 = .ok (.i2l, 1) := by decide +kernel
theorem dL_addService_9 : decode cL_addService 9 = .ok (.lastore, 1) := by decide +kernel
theorem dL_addService_10 : decode cL_addService 10 = .ok (.goto 11, 3) := by decide +kernel
theorem dL_addService_13 : decode cL_addService 13 = .ok (.astore 4, 2) := by decide +kernel
theorem dL_addService_15 : decode cL_addService 15 = .ok (.iconst 1, 1) := by decide +kernel
theorem dL_addService_16 : decode cL_addService 16 = .ok (.ireturn, 1) := by decide +kernel
theorem dL_addService_17 : decode cL_addService 17 = .ok (.astore 4, 2) := by decide +kernel
theorem dL_addService_19 : decode cL_addService 19 = .ok (.iconst 2, 1) := by decide +kernel
theorem dL_addService_20 : decode cL_addService 20 = .ok (.ireturn, 1) := by decide +kernel
theorem dL_addService_21 : decode cL_addService 21 = .ok (.iconst 0, 1) := by decide +kernel
theorem dL_addService_22 : decode cL_addService 22 = .ok (.ireturn, 1) := by decide +kernel
theorem dL_addStep_0 : decode cL_addStep 0 = .ok (.aload 4, 2) := by decide +kernel
theorem dL_addStep_2 : decode cL_addStep 2 = .ok (.iconst 0, 1) := by decide +kernel
theorem dL_addStep_3 : decode cL_addStep 3 = .ok (.aload_n 0, 1) := by decide +kernel
theorem dL_addStep_4 : decode cL_addStep 4 = .ok (.iload_n 1, 1) := by decide +kernel
theorem dL_addStep_5 : decode cL_addStep 5 = .ok (.iload_n 2, 1) := by decide +kernel
theorem dL_addStep_6 : decode cL_addStep 6 = .ok (.iload_n 3, 1) := by decide +kernel
theorem dL_addStep_7 : decode cL_addStep 7 = .ok (.invokevirtual 21, 3) := by decide +kernel
theorem dL_addStep_10 : decode cL_addStep 10 = .ok (.i2l, 1) := by decide +kernel
theorem dL_addStep_11 : decode cL_addStep 11 = .ok (.lastore, 1) := by decide +kernel
theorem dL_addStep_12 : decode cL_addStep 12 = .ok (.goto 15, 3) := by decide +kernel
theorem dL_addStep_15 : decode cL_addStep 15 = .ok (.astore 5, 2) := by decide +kernel
theorem dL_addStep_17 : decode cL_addStep 17 = .ok (.iconst 1, 1) := by decide +kernel
theorem dL_addStep_18 : decode cL_addStep 18 = .ok (.ireturn, 1) := by decide +kernel
theorem dL_addStep_19 : decode cL_addStep 19 = .ok (.astore 5, 2) := by decide +kernel
theorem dL_addStep_21 : decode cL_addStep 21 = .ok (.iconst 2, 1) := by decide +kernel
theorem dL_addStep_22 : decode cL_addStep 22 = .ok (.ireturn, 1) := by decide +kernel
theorem dL_addStep_23 : decode cL_addStep 23 = .ok (.astore 5, 2) := by decide +kernel
theorem dL_addStep_25 : decode cL_addStep 25 = .ok (.iconst 3, 1) := by decide +kernel
theorem dL_addStep_26 : decode cL_addStep 26 = .ok (.ireturn, 1) := by decide +kernel
theorem dL_addStep_27 : decode cL_addStep 27 = .ok (.iconst 0, 1) := by decide +kernel
theorem dL_addStep_28 : decode cL_addStep 28 = .ok (.ireturn, 1) := by decide +kernel
theorem dL_addUsual_0 : decode cL_addUsual 0 = .ok (.aload_n 2, 1) := by decide +kernel
theorem dL_addUsual_1 : decode cL_addUsual 1 = .ok (.iconst 0, 1) := by decide +kernel
theorem dL_addUsual_2 : decode cL_addUsual 2 = .ok (.aload_n 0, 1) := by decide +kernel
theorem dL_addUsual_3 : decode cL_addUsual 3 = .ok (.iload_n 1, 1) := by decide +kernel
theorem dL_addUsual_4 : decode cL_addUsual 4 = .ok (.invokevirtual 26, 3) := by decide +kernel
theorem dL_addUsual_7 : decode cL_addUsual 7 = .ok (.i2l, 1) := by decide +kernel
theorem dL_addUsual_8 : decode cL_addUsual 8 = .ok (.lastore, 1) := by decide +kernel
theorem dL_addUsual_9 : decode cL_addUsual 9 = .ok (.goto 9, 3) := by decide +kernel
theorem dL_addUsual_12 : decode cL_addUsual 12 = .ok (.astore_n 3, 1) := by decide +kernel
theorem dL_addUsual_13 : decode cL_addUsual 13 = .ok (.iconst 1, 1) := by decide +kernel
theorem dL_addUsual_14 : decode cL_addUsual 14 = .ok (.ireturn, 1) := by decide +kernel
theorem dL_addUsual_15 : decode cL_addUsual 15 = .ok (.astore_n 3, 1) := by decide +kernel
theorem dL_addUsual_16 : decode cL_addUsual 16 = .ok (.iconst 2, 1) := by decide +kernel
theorem dL_addUsual_17 : decode cL_addUsual 17 = .ok (.ireturn, 1) := by decide +kernel
theorem dL_addUsual_18 : decode cL_addUsual 18 = .ok (.iconst 0, 1) := by decide +kernel
theorem dL_addUsual_19 : decode cL_addUsual 19 = .ok (.ireturn, 1) := by decide +kernel
theorem dL_book_0 : decode cL_book 0 = .ok (.aload_n 3, 1) := by decide +kernel
theorem dL_book_1 : decode cL_book 1 = .ok (.iconst 0, 1) := by decide +kernel
theorem dL_book_2 : decode cL_book 2 = .ok (.aload_n 0, 1) := by decide +kernel
theorem dL_book_3 : decode cL_book 3 = .ok (.iload_n 1, 1) := by decide +kernel
theorem dL_book_4 : decode cL_book 4 = .ok (.iload_n 2, 1) := by decide +kernel
theorem dL_book_5 : decode cL_book 5 = .ok (.invokevirtual 30, 3) := by decide +kernel
theorem dL_book_8 : decode cL_book 8 = .ok (.i2l, 1) := by decide +kernel
theorem dL_book_9 : decode cL_book 9 = .ok (.lastore, 1) := by decide +kernel
theorem dL_book_10 : decode cL_book 10 = .ok (.goto 15, 3) := by decide +kernel
theorem dL_book_13 : decode cL_book 13 = .ok (.astore 4, 2) := by decide +kernel
theorem dL_book_15 : decode cL_book 15 = .ok (.iconst 1, 1) := by decide +kernel
theorem dL_book_16 : decode cL_book 16 = .ok (.ireturn, 1) := by decide +kernel
theorem dL_book_17 : decode cL_book 17 = .ok (.astore 4, 2) := by decide +kernel
theorem dL_book_19 : decode cL_book 19 = .ok (.iconst 2, 1) := by decide +kernel
theorem dL_book_20 : decode cL_book 20 = .ok (.ireturn, 1) := by decide +kernel
theorem dL_book_21 : decode cL_book 21 = .ok (.astore 4, 2) := by decide +kernel
theorem dL_book_23 : decode cL_book 23 = .ok (.iconst 3, 1) := by decide +kernel
theorem dL_book_24 : decode cL_book 24 = .ok (.ireturn, 1) := by decide +kernel
theorem dL_book_25 : decode cL_book 25 = .ok (.iconst 0, 1) := by decide +kernel
theorem dL_book_26 : decode cL_book 26 = .ok (.ireturn, 1) := by decide +kernel
theorem dL_bookWith_0 : decode cL_bookWith 0 = .ok (.aload 4, 2) := by decide +kernel
theorem dL_bookWith_2 : decode cL_bookWith 2 = .ok (.iconst 0, 1) := by decide +kernel
theorem dL_bookWith_3 : decode cL_bookWith 3 = .ok (.aload_n 0, 1) := by decide +kernel
theorem dL_bookWith_4 : decode cL_bookWith 4 = .ok (.iload_n 1, 1) := by decide +kernel
theorem dL_bookWith_5 : decode cL_bookWith 5 = .ok (.iload_n 2, 1) := by decide +kernel
theorem dL_bookWith_6 : decode cL_bookWith 6 = .ok (.iload_n 3, 1) := by decide +kernel
theorem dL_bookWith_7 : decode cL_bookWith 7 = .ok (.invokevirtual 35, 3) := by decide +kernel
theorem dL_bookWith_10 : decode cL_bookWith 10 = .ok (.i2l, 1) := by decide +kernel
theorem dL_bookWith_11 : decode cL_bookWith 11 = .ok (.lastore, 1) := by decide +kernel
theorem dL_bookWith_12 : decode cL_bookWith 12 = .ok (.goto 15, 3) := by decide +kernel
theorem dL_bookWith_15 : decode cL_bookWith 15 = .ok (.astore 5, 2) := by decide +kernel
theorem dL_bookWith_17 : decode cL_bookWith 17 = .ok (.iconst 1, 1) := by decide +kernel
theorem dL_bookWith_18 : decode cL_bookWith 18 = .ok (.ireturn, 1) := by decide +kernel
theorem dL_bookWith_19 : decode cL_bookWith 19 = .ok (.astore 5, 2) := by decide +kernel
theorem dL_bookWith_21 : decode cL_bookWith 21 = .ok (.iconst 2, 1) := by decide +kernel
theorem dL_bookWith_22 : decode cL_bookWith 22 = .ok (.ireturn, 1) := by decide +kernel
theorem dL_bookWith_23 : decode cL_bookWith 23 = .ok (.astore 5, 2) := by decide +kernel
theorem dL_bookWith_25 : decode cL_bookWith 25 = .ok (.iconst 3, 1) := by decide +kernel
theorem dL_bookWith_26 : decode cL_bookWith 26 = .ok (.ireturn, 1) := by decide +kernel
theorem dL_bookWith_27 : decode cL_bookWith 27 = .ok (.iconst 0, 1) := by decide +kernel
theorem dL_bookWith_28 : decode cL_bookWith 28 = .ok (.ireturn, 1) := by decide +kernel
theorem dL_move_0 : decode cL_move 0 = .ok (.aload_n 3, 1) := by decide +kernel
theorem dL_move_1 : decode cL_move 1 = .ok (.iconst 0, 1) := by decide +kernel
theorem dL_move_2 : decode cL_move 2 = .ok (.aload_n 0, 1) := by decide +kernel
theorem dL_move_3 : decode cL_move 3 = .ok (.iload_n 1, 1) := by decide +kernel
theorem dL_move_4 : decode cL_move 4 = .ok (.iload_n 2, 1) := by decide +kernel
theorem dL_move_5 : decode cL_move 5 = .ok (.invokevirtual 38, 3) := by decide +kernel
theorem dL_move_8 : decode cL_move 8 = .ok (.i2l, 1) := by decide +kernel
theorem dL_move_9 : decode cL_move 9 = .ok (.lastore, 1) := by decide +kernel
theorem dL_move_10 : decode cL_move 10 = .ok (.goto 11, 3) := by decide +kernel
theorem dL_move_13 : decode cL_move 13 = .ok (.astore 4, 2) := by decide +kernel
theorem dL_move_15 : decode cL_move 15 = .ok (.iconst 1, 1) := by decide +kernel
theorem dL_move_16 : decode cL_move 16 = .ok (.ireturn, 1) := by decide +kernel
theorem dL_move_17 : decode cL_move 17 = .ok (.astore 4, 2) := by decide +kernel
theorem dL_move_19 : decode cL_move 19 = .ok (.iconst 2, 1) := by decide +kernel
theorem dL_move_20 : decode cL_move 20 = .ok (.ireturn, 1) := by decide +kernel
theorem dL_move_21 : decode cL_move 21 = .ok (.iconst 0, 1) := by decide +kernel
theorem dL_move_22 : decode cL_move 22 = .ok (.ireturn, 1) := by decide +kernel
theorem dL_drop_0 : decode cL_drop 0 = .ok (.aload_n 2, 1) := by decide +kernel
theorem dL_drop_1 : decode cL_drop 1 = .ok (.iconst 0, 1) := by decide +kernel
theorem dL_drop_2 : decode cL_drop 2 = .ok (.aload_n 0, 1) := by decide +kernel
theorem dL_drop_3 : decode cL_drop 3 = .ok (.iload_n 1, 1) := by decide +kernel
theorem dL_drop_4 : decode cL_drop 4 = .ok (.invokevirtual 41, 3) := by decide +kernel
theorem dL_drop_7 : decode cL_drop 7 = .ok (.i2l, 1) := by decide +kernel
theorem dL_drop_8 : decode cL_drop 8 = .ok (.lastore, 1) := by decide +kernel
theorem dL_drop_9 : decode cL_drop 9 = .ok (.goto 6, 3) := by decide +kernel
theorem dL_drop_12 : decode cL_drop 12 = .ok (.astore_n 3, 1) := by decide +kernel
theorem dL_drop_13 : decode cL_drop 13 = .ok (.iconst 1, 1) := by decide +kernel
theorem dL_drop_14 : decode cL_drop 14 = .ok (.ireturn, 1) := by decide +kernel
theorem dL_drop_15 : decode cL_drop 15 = .ok (.iconst 0, 1) := by decide +kernel
theorem dL_drop_16 : decode cL_drop 16 = .ok (.ireturn, 1) := by decide +kernel
theorem dL_request_0 : decode cL_request 0 = .ok (.aload_n 3, 1) := by decide +kernel
theorem dL_request_1 : decode cL_request 1 = .ok (.iconst 0, 1) := by decide +kernel
theorem dL_request_2 : decode cL_request 2 = .ok (.aload_n 0, 1) := by decide +kernel
theorem dL_request_3 : decode cL_request 3 = .ok (.iload_n 1, 1) := by decide +kernel
theorem dL_request_4 : decode cL_request 4 = .ok (.iload_n 2, 1) := by decide +kernel
theorem dL_request_5 : decode cL_request 5 = .ok (.invokevirtual 44, 3) := by decide +kernel
theorem dL_request_8 : decode cL_request 8 = .ok (.i2l, 1) := by decide +kernel
theorem dL_request_9 : decode cL_request 9 = .ok (.lastore, 1) := by decide +kernel
theorem dL_request_10 : decode cL_request 10 = .ok (.goto 11, 3) := by decide +kernel
theorem dL_request_13 : decode cL_request 13 = .ok (.astore 4, 2) := by decide +kernel
theorem dL_request_15 : decode cL_request 15 = .ok (.iconst 1, 1) := by decide +kernel
theorem dL_request_16 : decode cL_request 16 = .ok (.ireturn, 1) := by decide +kernel
theorem dL_request_17 : decode cL_request 17 = .ok (.astore 4, 2) := by decide +kernel
theorem dL_request_19 : decode cL_request 19 = .ok (.iconst 2, 1) := by decide +kernel
theorem dL_request_20 : decode cL_request 20 = .ok (.ireturn, 1) := by decide +kernel
theorem dL_request_21 : decode cL_request 21 = .ok (.iconst 0, 1) := by decide +kernel
theorem dL_request_22 : decode cL_request 22 = .ok (.ireturn, 1) := by decide +kernel
theorem dL_requestAt_0 : decode cL_requestAt 0 = .ok (.aload_n 2, 1) := by decide +kernel
theorem dL_requestAt_1 : decode cL_requestAt 1 = .ok (.iconst 0, 1) := by decide +kernel
theorem dL_requestAt_2 : decode cL_requestAt 2 = .ok (.aload_n 0, 1) := by decide +kernel
theorem dL_requestAt_3 : decode cL_requestAt 3 = .ok (.iload_n 1, 1) := by decide +kernel
theorem dL_requestAt_4 : decode cL_requestAt 4 = .ok (.invokevirtual 47, 3) := by decide +kernel
theorem dL_requestAt_7 : decode cL_requestAt 7 = .ok (.i2l, 1) := by decide +kernel
theorem dL_requestAt_8 : decode cL_requestAt 8 = .ok (.lastore, 1) := by decide +kernel
theorem dL_requestAt_9 : decode cL_requestAt 9 = .ok (.goto 6, 3) := by decide +kernel
theorem dL_requestAt_12 : decode cL_requestAt 12 = .ok (.astore_n 3, 1) := by decide +kernel
theorem dL_requestAt_13 : decode cL_requestAt 13 = .ok (.iconst 1, 1) := by decide +kernel
theorem dL_requestAt_14 : decode cL_requestAt 14 = .ok (.ireturn, 1) := by decide +kernel
theorem dL_requestAt_15 : decode cL_requestAt 15 = .ok (.iconst 0, 1) := by decide +kernel
theorem dL_requestAt_16 : decode cL_requestAt 16 = .ok (.ireturn, 1) := by decide +kernel
theorem dL_lengthOf_0 : decode cL_lengthOf 0 = .ok (.aload_n 2, 1) := by decide +kernel
theorem dL_lengthOf_1 : decode cL_lengthOf 1 = .ok (.iconst 0, 1) := by decide +kernel
theorem dL_lengthOf_2 : decode cL_lengthOf 2 = .ok (.aload_n 0, 1) := by decide +kernel
theorem dL_lengthOf_3 : decode cL_lengthOf 3 = .ok (.iload_n 1, 1) := by decide +kernel
theorem dL_lengthOf_4 : decode cL_lengthOf 4 = .ok (.invokevirtual 50, 3) := by decide +kernel
theorem dL_lengthOf_7 : decode cL_lengthOf 7 = .ok (.i2l, 1) := by decide +kernel
theorem dL_lengthOf_8 : decode cL_lengthOf 8 = .ok (.lastore, 1) := by decide +kernel
theorem dL_lengthOf_9 : decode cL_lengthOf 9 = .ok (.goto 6, 3) := by decide +kernel
theorem dL_lengthOf_12 : decode cL_lengthOf 12 = .ok (.astore_n 3, 1) := by decide +kernel
theorem dL_lengthOf_13 : decode cL_lengthOf 13 = .ok (.iconst 1, 1) := by decide +kernel
theorem dL_lengthOf_14 : decode cL_lengthOf 14 = .ok (.ireturn, 1) := by decide +kernel
theorem dL_lengthOf_15 : decode cL_lengthOf 15 = .ok (.iconst 0, 1) := by decide +kernel
theorem dL_lengthOf_16 : decode cL_lengthOf 16 = .ok (.ireturn, 1) := by decide +kernel
theorem dL_workOf_0 : decode cL_workOf 0 = .ok (.aload_n 2, 1) := by decide +kernel
theorem dL_workOf_1 : decode cL_workOf 1 = .ok (.iconst 0, 1) := by decide +kernel
theorem dL_workOf_2 : decode cL_workOf 2 = .ok (.aload_n 0, 1) := by decide +kernel
theorem dL_workOf_3 : decode cL_workOf 3 = .ok (.iload_n 1, 1) := by decide +kernel
theorem dL_workOf_4 : decode cL_workOf 4 = .ok (.invokevirtual 53, 3) := by decide +kernel
theorem dL_workOf_7 : decode cL_workOf 7 = .ok (.i2l, 1) := by decide +kernel
theorem dL_workOf_8 : decode cL_workOf 8 = .ok (.lastore, 1) := by decide +kernel
theorem dL_workOf_9 : decode cL_workOf 9 = .ok (.goto 6, 3) := by decide +kernel
theorem dL_workOf_12 : decode cL_workOf 12 = .ok (.astore_n 3, 1) := by decide +kernel
theorem dL_workOf_13 : decode cL_workOf 13 = .ok (.iconst 1, 1) := by decide +kernel
theorem dL_workOf_14 : decode cL_workOf 14 = .ok (.ireturn, 1) := by decide +kernel
theorem dL_workOf_15 : decode cL_workOf 15 = .ok (.iconst 0, 1) := by decide +kernel
theorem dL_workOf_16 : decode cL_workOf 16 = .ok (.ireturn, 1) := by decide +kernel
theorem dL_skillsOf_0 : decode cL_skillsOf 0 = .ok (.aload_n 2, 1) := by decide +kernel
theorem dL_skillsOf_1 : decode cL_skillsOf 1 = .ok (.iconst 0, 1) := by decide +kernel
theorem dL_skillsOf_2 : decode cL_skillsOf 2 = .ok (.aload_n 0, 1) := by decide +kernel
theorem dL_skillsOf_3 : decode cL_skillsOf 3 = .ok (.iload_n 1, 1) := by decide +kernel
theorem dL_skillsOf_4 : decode cL_skillsOf 4 = .ok (.invokevirtual 56, 3) := by decide +kernel
theorem dL_skillsOf_7 : decode cL_skillsOf 7 = .ok (.i2l, 1) := by decide +kernel
theorem dL_skillsOf_8 : decode cL_skillsOf 8 = .ok (.lastore, 1) := by decide +kernel
theorem dL_skillsOf_9 : decode cL_skillsOf 9 = .ok (.goto 6, 3) := by decide +kernel
theorem dL_skillsOf_12 : decode cL_skillsOf 12 = .ok (.astore_n 3, 1) := by decide +kernel
theorem dL_skillsOf_13 : decode cL_skillsOf 13 = .ok (.iconst 1, 1) := by decide +kernel
theorem dL_skillsOf_14 : decode cL_skillsOf 14 = .ok (.ireturn, 1) := by decide +kernel
theorem dL_skillsOf_15 : decode cL_skillsOf 15 = .ok (.iconst 0, 1) := by decide +kernel
theorem dL_skillsOf_16 : decode cL_skillsOf 16 = .ok (.ireturn, 1) := by decide +kernel
theorem dL_startOf_0 : decode cL_startOf 0 = .ok (.aload_n 2, 1) := by decide +kernel
theorem dL_startOf_1 : decode cL_startOf 1 = .ok (.iconst 0, 1) := by decide +kernel
theorem dL_startOf_2 : decode cL_startOf 2 = .ok (.aload_n 0, 1) := by decide +kernel
theorem dL_startOf_3 : decode cL_startOf 3 = .ok (.iload_n 1, 1) := by decide +kernel
theorem dL_startOf_4 : decode cL_startOf 4 = .ok (.invokevirtual 59, 3) := by decide +kernel
theorem dL_startOf_7 : decode cL_startOf 7 = .ok (.i2l, 1) := by decide +kernel
theorem dL_startOf_8 : decode cL_startOf 8 = .ok (.lastore, 1) := by decide +kernel
theorem dL_startOf_9 : decode cL_startOf 9 = .ok (.goto 6, 3) := by decide +kernel
theorem dL_startOf_12 : decode cL_startOf 12 = .ok (.astore_n 3, 1) := by decide +kernel
theorem dL_startOf_13 : decode cL_startOf 13 = .ok (.iconst 1, 1) := by decide +kernel
theorem dL_startOf_14 : decode cL_startOf 14 = .ok (.ireturn, 1) := by decide +kernel
theorem dL_startOf_15 : decode cL_startOf 15 = .ok (.iconst 0, 1) := by decide +kernel
theorem dL_startOf_16 : decode cL_startOf 16 = .ok (.ireturn, 1) := by decide +kernel
theorem dL_staffOf_0 : decode cL_staffOf 0 = .ok (.aload_n 2, 1) := by decide +kernel
theorem dL_staffOf_1 : decode cL_staffOf 1 = .ok (.iconst 0, 1) := by decide +kernel
theorem dL_staffOf_2 : decode cL_staffOf 2 = .ok (.aload_n 0, 1) := by decide +kernel
theorem dL_staffOf_3 : decode cL_staffOf 3 = .ok (.iload_n 1, 1) := by decide +kernel
theorem dL_staffOf_4 : decode cL_staffOf 4 = .ok (.invokevirtual 62, 3) := by decide +kernel
theorem dL_staffOf_7 : decode cL_staffOf 7 = .ok (.i2l, 1) := by decide +kernel
theorem dL_staffOf_8 : decode cL_staffOf 8 = .ok (.lastore, 1) := by decide +kernel
theorem dL_staffOf_9 : decode cL_staffOf 9 = .ok (.goto 6, 3) := by decide +kernel
theorem dL_staffOf_12 : decode cL_staffOf 12 = .ok (.astore_n 3, 1) := by decide +kernel
theorem dL_staffOf_13 : decode cL_staffOf 13 = .ok (.iconst 1, 1) := by decide +kernel
theorem dL_staffOf_14 : decode cL_staffOf 14 = .ok (.ireturn, 1) := by decide +kernel
theorem dL_staffOf_15 : decode cL_staffOf 15 = .ok (.iconst 0, 1) := by decide +kernel
theorem dL_staffOf_16 : decode cL_staffOf 16 = .ok (.ireturn, 1) := by decide +kernel
theorem dL_chairOf_0 : decode cL_chairOf 0 = .ok (.aload_n 2, 1) := by decide +kernel
theorem dL_chairOf_1 : decode cL_chairOf 1 = .ok (.iconst 0, 1) := by decide +kernel
theorem dL_chairOf_2 : decode cL_chairOf 2 = .ok (.aload_n 0, 1) := by decide +kernel
theorem dL_chairOf_3 : decode cL_chairOf 3 = .ok (.iload_n 1, 1) := by decide +kernel
theorem dL_chairOf_4 : decode cL_chairOf 4 = .ok (.invokevirtual 65, 3) := by decide +kernel
theorem dL_chairOf_7 : decode cL_chairOf 7 = .ok (.i2l, 1) := by decide +kernel
theorem dL_chairOf_8 : decode cL_chairOf 8 = .ok (.lastore, 1) := by decide +kernel
theorem dL_chairOf_9 : decode cL_chairOf 9 = .ok (.goto 6, 3) := by decide +kernel
theorem dL_chairOf_12 : decode cL_chairOf 12 = .ok (.astore_n 3, 1) := by decide +kernel
theorem dL_chairOf_13 : decode cL_chairOf 13 = .ok (.iconst 1, 1) := by decide +kernel
theorem dL_chairOf_14 : decode cL_chairOf 14 = .ok (.ireturn, 1) := by decide +kernel
theorem dL_chairOf_15 : decode cL_chairOf 15 = .ok (.iconst 0, 1) := by decide +kernel
theorem dL_chairOf_16 : decode cL_chairOf 16 = .ok (.ireturn, 1) := by decide +kernel
theorem dL_serviceOf_0 : decode cL_serviceOf 0 = .ok (.aload_n 2, 1) := by decide +kernel
theorem dL_serviceOf_1 : decode cL_serviceOf 1 = .ok (.iconst 0, 1) := by decide +kernel
theorem dL_serviceOf_2 : decode cL_serviceOf 2 = .ok (.aload_n 0, 1) := by decide +kernel
theorem dL_serviceOf_3 : decode cL_serviceOf 3 = .ok (.iload_n 1, 1) := by decide +kernel
theorem dL_serviceOf_4 : decode cL_serviceOf 4 = .ok (.invokevirtual 68, 3) := by decide +kernel
theorem dL_serviceOf_7 : decode cL_serviceOf 7 = .ok (.i2l, 1) := by decide +kernel
theorem dL_serviceOf_8 : decode cL_serviceOf 8 = .ok (.lastore, 1) := by decide +kernel
theorem dL_serviceOf_9 : decode cL_serviceOf 9 = .ok (.goto 6, 3) := by decide +kernel
theorem dL_serviceOf_12 : decode cL_serviceOf 12 = .ok (.astore_n 3, 1) := by decide +kernel
theorem dL_serviceOf_13 : decode cL_serviceOf 13 = .ok (.iconst 1, 1) := by decide +kernel
theorem dL_serviceOf_14 : decode cL_serviceOf 14 = .ok (.ireturn, 1) := by decide +kernel
theorem dL_serviceOf_15 : decode cL_serviceOf 15 = .ok (.iconst 0, 1) := by decide +kernel
theorem dL_serviceOf_16 : decode cL_serviceOf 16 = .ok (.ireturn, 1) := by decide +kernel
theorem dL_loadOf_0 : decode cL_loadOf 0 = .ok (.aload_n 2, 1) := by decide +kernel
theorem dL_loadOf_1 : decode cL_loadOf 1 = .ok (.iconst 0, 1) := by decide +kernel
theorem dL_loadOf_2 : decode cL_loadOf 2 = .ok (.aload_n 0, 1) := by decide +kernel
theorem dL_loadOf_3 : decode cL_loadOf 3 = .ok (.iload_n 1, 1) := by decide +kernel
theorem dL_loadOf_4 : decode cL_loadOf 4 = .ok (.invokevirtual 71, 3) := by decide +kernel
theorem dL_loadOf_7 : decode cL_loadOf 7 = .ok (.i2l, 1) := by decide +kernel
theorem dL_loadOf_8 : decode cL_loadOf 8 = .ok (.lastore, 1) := by decide +kernel
theorem dL_loadOf_9 : decode cL_loadOf 9 = .ok (.goto 6, 3) := by decide +kernel
theorem dL_loadOf_12 : decode cL_loadOf 12 = .ok (.astore_n 3, 1) := by decide +kernel
theorem dL_loadOf_13 : decode cL_loadOf 13 = .ok (.iconst 1, 1) := by decide +kernel
theorem dL_loadOf_14 : decode cL_loadOf 14 = .ok (.ireturn, 1) := by decide +kernel
theorem dL_loadOf_15 : decode cL_loadOf 15 = .ok (.iconst 0, 1) := by decide +kernel
theorem dL_loadOf_16 : decode cL_loadOf 16 = .ok (.ireturn, 1) := by decide +kernel
theorem dL_staffAt_0 : decode cL_staffAt 0 = .ok (.aload_n 3, 1) := by decide +kernel
theorem dL_staffAt_1 : decode cL_staffAt 1 = .ok (.iconst 0, 1) := by decide +kernel
theorem dL_staffAt_2 : decode cL_staffAt 2 = .ok (.aload_n 0, 1) := by decide +kernel
theorem dL_staffAt_3 : decode cL_staffAt 3 = .ok (.iload_n 1, 1) := by decide +kernel
theorem dL_staffAt_4 : decode cL_staffAt 4 = .ok (.iload_n 2, 1) := by decide +kernel
theorem dL_staffAt_5 : decode cL_staffAt 5 = .ok (.invokevirtual 74, 3) := by decide +kernel
theorem dL_staffAt_8 : decode cL_staffAt 8 = .ok (.i2l, 1) := by decide +kernel
theorem dL_staffAt_9 : decode cL_staffAt 9 = .ok (.lastore, 1) := by decide +kernel
theorem dL_staffAt_10 : decode cL_staffAt 10 = .ok (.goto 7, 3) := by decide +kernel
theorem dL_staffAt_13 : decode cL_staffAt 13 = .ok (.astore 4, 2) := by decide +kernel
theorem dL_staffAt_15 : decode cL_staffAt 15 = .ok (.iconst 1, 1) := by decide +kernel
theorem dL_staffAt_16 : decode cL_staffAt 16 = .ok (.ireturn, 1) := by decide +kernel
theorem dL_staffAt_17 : decode cL_staffAt 17 = .ok (.iconst 0, 1) := by decide +kernel
theorem dL_staffAt_18 : decode cL_staffAt 18 = .ok (.ireturn, 1) := by decide +kernel
theorem dL_chairAt_0 : decode cL_chairAt 0 = .ok (.aload_n 3, 1) := by decide +kernel
theorem dL_chairAt_1 : decode cL_chairAt 1 = .ok (.iconst 0, 1) := by decide +kernel
theorem dL_chairAt_2 : decode cL_chairAt 2 = .ok (.aload_n 0, 1) := by decide +kernel
theorem dL_chairAt_3 : decode cL_chairAt 3 = .ok (.iload_n 1, 1) := by decide +kernel
theorem dL_chairAt_4 : decode cL_chairAt 4 = .ok (.iload_n 2, 1) := by decide +kernel
theorem dL_chairAt_5 : decode cL_chairAt 5 = .ok (.invokevirtual 77, 3) := by decide +kernel
theorem dL_chairAt_8 : decode cL_chairAt 8 = .ok (.i2l, 1) := by decide +kernel
theorem dL_chairAt_9 : decode cL_chairAt 9 = .ok (.lastore, 1) := by decide +kernel
theorem dL_chairAt_10 : decode cL_chairAt 10 = .ok (.goto 7, 3) := by decide +kernel
theorem dL_chairAt_13 : decode cL_chairAt 13 = .ok (.astore 4, 2) := by decide +kernel
theorem dL_chairAt_15 : decode cL_chairAt 15 = .ok (.iconst 1, 1) := by decide +kernel
theorem dL_chairAt_16 : decode cL_chairAt 16 = .ok (.ireturn, 1) := by decide +kernel
theorem dL_chairAt_17 : decode cL_chairAt 17 = .ok (.iconst 0, 1) := by decide +kernel
theorem dL_chairAt_18 : decode cL_chairAt 18 = .ok (.ireturn, 1) := by decide +kernel
theorem dL_earliest_0 : decode cL_earliest 0 = .ok (.aload_n 3, 1) := by decide +kernel
theorem dL_earliest_1 : decode cL_earliest 1 = .ok (.iconst 0, 1) := by decide +kernel
theorem dL_earliest_2 : decode cL_earliest 2 = .ok (.aload_n 0, 1) := by decide +kernel
theorem dL_earliest_3 : decode cL_earliest 3 = .ok (.iload_n 1, 1) := by decide +kernel
theorem dL_earliest_4 : decode cL_earliest 4 = .ok (.iload_n 2, 1) := by decide +kernel
theorem dL_earliest_5 : decode cL_earliest 5 = .ok (.invokevirtual 80, 3) := by decide +kernel
theorem dL_earliest_8 : decode cL_earliest 8 = .ok (.i2l, 1) := by decide +kernel
theorem dL_earliest_9 : decode cL_earliest 9 = .ok (.lastore, 1) := by decide +kernel
theorem dL_earliest_10 : decode cL_earliest 10 = .ok (.goto 7, 3) := by decide +kernel
theorem dL_earliest_13 : decode cL_earliest 13 = .ok (.astore 4, 2) := by decide +kernel
theorem dL_earliest_15 : decode cL_earliest 15 = .ok (.iconst 1, 1) := by decide +kernel
theorem dL_earliest_16 : decode cL_earliest 16 = .ok (.ireturn, 1) := by decide +kernel
theorem dL_earliest_17 : decode cL_earliest 17 = .ok (.iconst 0, 1) := by decide +kernel
theorem dL_earliest_18 : decode cL_earliest 18 = .ok (.ireturn, 1) := by decide +kernel
theorem dL_earliestByScan_0 : decode cL_earliestByScan 0 = .ok (.aload_n 3, 1) := by decide +kernel
theorem dL_earliestByScan_1 : decode cL_earliestByScan 1 = .ok (.iconst 0, 1) := by decide +kernel
theorem dL_earliestByScan_2 : decode cL_earliestByScan 2 = .ok (.aload_n 0, 1) := by decide +kernel
theorem dL_earliestByScan_3 : decode cL_earliestByScan 3 = .ok (.iload_n 1, 1) := by decide +kernel
theorem dL_earliestByScan_4 : decode cL_earliestByScan 4 = .ok (.iload_n 2, 1) := by decide +kernel
theorem dL_earliestByScan_5 : decode cL_earliestByScan 5 = .ok (.invokevirtual 83, 3) := by decide +kernel
theorem dL_earliestByScan_8 : decode cL_earliestByScan 8 = .ok (.i2l, 1) := by decide +kernel
theorem dL_earliestByScan_9 : decode cL_earliestByScan 9 = .ok (.lastore, 1) := by decide +kernel
theorem dL_earliestByScan_10 : decode cL_earliestByScan 10 = .ok (.goto 7, 3) := by decide +kernel
theorem dL_earliestByScan_13 : decode cL_earliestByScan 13 = .ok (.astore 4, 2) := by decide +kernel
theorem dL_earliestByScan_15 : decode cL_earliestByScan 15 = .ok (.iconst 1, 1) := by decide +kernel
theorem dL_earliestByScan_16 : decode cL_earliestByScan 16 = .ok (.ireturn, 1) := by decide +kernel
theorem dL_earliestByScan_17 : decode cL_earliestByScan 17 = .ok (.iconst 0, 1) := by decide +kernel
theorem dL_earliestByScan_18 : decode cL_earliestByScan 18 = .ok (.ireturn, 1) := by decide +kernel
theorem dL_staffFor_0 : decode cL_staffFor 0 = .ok (.aload_n 3, 1) := by decide +kernel
theorem dL_staffFor_1 : decode cL_staffFor 1 = .ok (.iconst 0, 1) := by decide +kernel
theorem dL_staffFor_2 : decode cL_staffFor 2 = .ok (.aload_n 0, 1) := by decide +kernel
theorem dL_staffFor_3 : decode cL_staffFor 3 = .ok (.iload_n 1, 1) := by decide +kernel
theorem dL_staffFor_4 : decode cL_staffFor 4 = .ok (.iload_n 2, 1) := by decide +kernel
theorem dL_staffFor_5 : decode cL_staffFor 5 = .ok (.invokevirtual 86, 3) := by decide +kernel
theorem dL_staffFor_8 : decode cL_staffFor 8 = .ok (.i2l, 1) := by decide +kernel
theorem dL_staffFor_9 : decode cL_staffFor 9 = .ok (.lastore, 1) := by decide +kernel
theorem dL_staffFor_10 : decode cL_staffFor 10 = .ok (.goto 7, 3) := by decide +kernel
theorem dL_staffFor_13 : decode cL_staffFor 13 = .ok (.astore 4, 2) := by decide +kernel
theorem dL_staffFor_15 : decode cL_staffFor 15 = .ok (.iconst 1, 1) := by decide +kernel
theorem dL_staffFor_16 : decode cL_staffFor 16 = .ok (.ireturn, 1) := by decide +kernel
theorem dL_staffFor_17 : decode cL_staffFor 17 = .ok (.iconst 0, 1) := by decide +kernel
theorem dL_staffFor_18 : decode cL_staffFor 18 = .ok (.ireturn, 1) := by decide +kernel
theorem dL_inRest_0 : decode cL_inRest 0 = .ok (.aload_n 3, 1) := by decide +kernel
theorem dL_inRest_1 : decode cL_inRest 1 = .ok (.iconst 0, 1) := by decide +kernel
theorem dL_inRest_2 : decode cL_inRest 2 = .ok (.aload_n 0, 1) := by decide +kernel
theorem dL_inRest_3 : decode cL_inRest 3 = .ok (.iload_n 1, 1) := by decide +kernel
theorem dL_inRest_4 : decode cL_inRest 4 = .ok (.iload_n 2, 1) := by decide +kernel
theorem dL_inRest_5 : decode cL_inRest 5 = .ok (.invokevirtual 89, 3) := by decide +kernel
theorem dL_inRest_8 : decode cL_inRest 8 = .ok (.i2l, 1) := by decide +kernel
theorem dL_inRest_9 : decode cL_inRest 9 = .ok (.lastore, 1) := by decide +kernel
theorem dL_inRest_10 : decode cL_inRest 10 = .ok (.goto 7, 3) := by decide +kernel
theorem dL_inRest_13 : decode cL_inRest 13 = .ok (.astore 4, 2) := by decide +kernel
theorem dL_inRest_15 : decode cL_inRest 15 = .ok (.iconst 1, 1) := by decide +kernel
theorem dL_inRest_16 : decode cL_inRest 16 = .ok (.ireturn, 1) := by decide +kernel
theorem dL_inRest_17 : decode cL_inRest 17 = .ok (.iconst 0, 1) := by decide +kernel
theorem dL_inRest_18 : decode cL_inRest 18 = .ok (.ireturn, 1) := by decide +kernel
theorem dL_fill_0 : decode cL_fill 0 = .ok (.aload_n 2, 1) := by decide +kernel
theorem dL_fill_1 : decode cL_fill 1 = .ok (.iconst 0, 1) := by decide +kernel
theorem dL_fill_2 : decode cL_fill 2 = .ok (.aload_n 0, 1) := by decide +kernel
theorem dL_fill_3 : decode cL_fill 3 = .ok (.iload_n 1, 1) := by decide +kernel
theorem dL_fill_4 : decode cL_fill 4 = .ok (.invokevirtual 92, 3) := by decide +kernel
theorem dL_fill_7 : decode cL_fill 7 = .ok (.i2l, 1) := by decide +kernel
theorem dL_fill_8 : decode cL_fill 8 = .ok (.lastore, 1) := by decide +kernel
theorem dL_fill_9 : decode cL_fill 9 = .ok (.goto 6, 3) := by decide +kernel
theorem dL_fill_12 : decode cL_fill 12 = .ok (.astore_n 3, 1) := by decide +kernel
theorem dL_fill_13 : decode cL_fill 13 = .ok (.iconst 1, 1) := by decide +kernel
theorem dL_fill_14 : decode cL_fill 14 = .ok (.ireturn, 1) := by decide +kernel
theorem dL_fill_15 : decode cL_fill 15 = .ok (.iconst 0, 1) := by decide +kernel
theorem dL_fill_16 : decode cL_fill 16 = .ok (.ireturn, 1) := by decide +kernel
