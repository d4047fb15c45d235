theorem dX7_ourBook_5 : decode cX7_ourBook 5 = .ok (.iload 4, 2) := by decide +kernel
theorem dX7_ourBook_7 : decode cX7_ourBook 7 = .ok (.aload_n 0, 1) := by decide +kernel
theorem dX7_ourBook_8 : decode cX7_ourBook 8 = .ok (.getfield 41, 3) := by decide +kernel
theorem dX7_ourBook_11 : decode cX7_ourBook 11 = .ok (.iload_n 1, 1) := by decide +kernel
theorem dX7_ourBook_12 : decode cX7_ourBook 12 = .ok (.iaload, 1) := by decide +kernel
theorem dX7_ourBook_13 : decode cX7_ourBook 13 = .ok (.if_icmp .ge 25, 3) := by decide +kernel
theorem dX7_ourBook_16 : decode cX7_ourBook 16 = .ok (.lload_n 2, 1) := by decide +kernel
theorem dX7_ourBook_17 : decode cX7_ourBook 17 = .ok (.aload_n 0, 1) := by decide +kernel
theorem dX7_ourBook_18 : decode cX7_ourBook 18 = .ok (.getfield 44, 3) := by decide +kernel
theorem dX7_ourBook_21 : decode cX7_ourBook 21 = .ok (.bipush 40, 2) := by decide +kernel
theorem dX7_ourBook_23 : decode cX7_ourBook 23 = .ok (.iload_n 1, 1) := by decide +kernel
theorem dX7_ourBook_24 : decode cX7_ourBook 24 = .ok (.imul, 1) := by decide +kernel
theorem dX7_ourBook_25 : decode cX7_ourBook 25 = .ok (.iload 4, 2) := by decide +kernel
theorem dX7_ourBook_27 : decode cX7_ourBook 27 = .ok (.iadd, 1) := by decide +kernel
theorem dX7_ourBook_28 : decode cX7_ourBook 28 = .ok (.iaload, 1) := by decide +kernel
theorem dX7_ourBook_29 : decode cX7_ourBook 29 = .ok (.i2l, 1) := by decide +kernel
theorem dX7_ourBook_30 : decode cX7_ourBook 30 = .ok (.ladd, 1) := by decide +kernel
theorem dX7_ourBook_31 : decode cX7_ourBook 31 = .ok (.lstore_n 2, 1) := by decide +kernel
theorem dX7_ourBook_32 : decode cX7_ourBook 32 = .ok (.iinc 4 1, 3) := by decide +kernel
theorem dX7_ourBook_35 : decode cX7_ourBook 35 = .ok (.goto (-30), 3) := by decide +kernel
theorem dX7_ourBook_38 : decode cX7_ourBook 38 = .ok (.lload_n 2, 1) := by decide +kernel
theorem dX7_ourBook_39 : decode cX7_ourBook 39 = .ok (.lreturn, 1) := by decide +kernel
theorem dX7_great_0 : decode cX7_great 0 = .ok (.lload_n 0, 1) := by decide +kernel
theorem dX7_great_1 : decode cX7_great 1 = .ok (.ldc2_w 212, 3) := by decide +kernel
theorem dX7_great_4 : decode cX7_great 4 = .ok (.lcmp, 1) := by decide +kernel
theorem dX7_great_5 : decode cX7_great 5 = .ok (.ifCond .le 8, 3) := by decide +kernel
theorem dX7_great_8 : decode cX7_great 8 = .ok (.ldc 79, 2) := by decide +kernel
theorem dX7_great_10 : decode cX7_great 10 = .ok (.goto 5, 3) := by decide +kernel
theorem dX7_great_13 : decode cX7_great 13 = .ok (.lload_n 0, 1) := by decide +kernel
theorem dX7_great_14 : decode cX7_great 14 = .ok (.l2i, 1) := by decide +kernel
theorem dX7_great_15 : decode cX7_great 15 = .ok (.ireturn, 1) := by decide +kernel
theorem dX7_book_0 : decode cX7_book 0 = .ok (.aload_n 0, 1) := by decide +kernel
theorem dX7_book_1 : decode cX7_book 1 = .ok (.iload_n 1, 1) := by decide +kernel
theorem dX7_book_2 : decode cX7_book 2 = .ok (.invokevirtual 214, 3) := by decide +kernel
theorem dX7_book_5 : decode cX7_book 5 = .ok (.istore 4, 2) := by decide +kernel
theorem dX7_book_7 : decode cX7_book 7 = .ok (.iload 4, 2) := by decide +kernel
theorem dX7_book_9 : decode cX7_book 9 = .ok (.ifCond .eq 7, 3) := by decide +kernel
theorem dX7_book_12 : decode cX7_book 12 = .ok (.iload 4, 2) := by decide +kernel
theorem dX7_book_14 : decode cX7_book 14 = .ok (.i2l, 1) := by decide +kernel
theorem dX7_book_15 : decode cX7_book 15 = .ok (.lreturn, 1) := by decide +kernel
theorem dX7_book_16 : decode cX7_book 16 = .ok (.aload_n 0, 1) := by decide +kernel
theorem dX7_book_17 : decode cX7_book 17 = .ok (.iload_n 2, 1) := by decide +kernel
theorem dX7_book_18 : decode cX7_book 18 = .ok (.invokevirtual 159, 3) := by decide +kernel
theorem dX7_book_21 : decode cX7_book 21 = .ok (.ifCond .ne 7, 3) := by decide +kernel
theorem dX7_book_24 : decode cX7_book 24 = .ok (.ldc2_w 190, 3) := by decide +kernel
theorem dX7_book_27 : decode cX7_book 27 = .ok (.lreturn, 1) := by decide +kernel
theorem dX7_book_28 : decode cX7_book 28 = .ok (.aload_n 0, 1) := by decide +kernel
theorem dX7_book_29 : decode cX7_book 29 = .ok (.iload_n 1, 1) := by decide +kernel
theorem dX7_book_30 : decode cX7_book 30 = .ok (.iload_n 2, 1) := by decide +kernel
theorem dX7_book_31 : decode cX7_book 31 = .ok (.invokevirtual 217, 3) := by decide +kernel
theorem dX7_book_34 : decode cX7_book 34 = .ok (.lstore 5, 2) := by decide +kernel
theorem dX7_book_36 : decode cX7_book 36 = .ok (.aload_n 0, 1) := by decide +kernel
theorem dX7_book_37 : decode cX7_book 37 = .ok (.iload_n 1, 1) := by decide +kernel
theorem dX7_book_38 : decode cX7_book 38 = .ok (.invokevirtual 220, 3) := by decide +kernel
theorem dX7_book_41 : decode cX7_book 41 = .ok (.lstore 7, 2) := by decide +kernel
theorem dX7_book_43 : decode cX7_book 43 = .ok (.iload_n 3, 1) := by decide +kernel
theorem dX7_book_44 : decode cX7_book 44 = .ok (.tableswitch 69 0 3 #[32, 35, 38, 46], 32) := by decide +kernel
theorem dX7_book_76 : decode cX7_book 76 = .ok (.lload 5, 2) := by decide +kernel
theorem dX7_book_78 : decode cX7_book 78 = .ok (.lreturn, 1) := by decide +kernel
theorem dX7_book_79 : decode cX7_book 79 = .ok (.lload 7, 2) := by decide +kernel
theorem dX7_book_81 : decode cX7_book 81 = .ok (.lreturn, 1) := by decide +kernel
theorem dX7_book_82 : decode cX7_book 82 = .ok (.lload 5, 2) := by decide +kernel
theorem dX7_book_84 : decode cX7_book 84 = .ok (.lload 7, 2) := by decide +kernel
theorem dX7_book_86 : decode cX7_book 86 = .ok (.invokestatic 208, 3) := by decide +kernel
theorem dX7_book_89 : decode cX7_book 89 = .ok (.lreturn, 1) := by decide +kernel
theorem dX7_book_90 : decode cX7_book 90 = .ok (.aload_n 0, 1) := by decide +kernel
theorem dX7_book_91 : decode cX7_book 91 = .ok (.iconst 2, 1) := by decide +kernel
theorem dX7_book_92 : decode cX7_book 92 = .ok (.iload_n 2, 1) := by decide +kernel
theorem dX7_book_93 : decode cX7_book 93 = .ok (.lload 7, 2) := by decide +kernel
theorem dX7_book_95 : decode cX7_book 95 = .ok (.invokestatic 224, 3) := by decide +kernel
theorem dX7_book_98 : decode cX7_book 98 = .ok (.lload 5, 2) := by decide +kernel
theorem dX7_book_100 : decode cX7_book 100 = .ok (.lload 7, 2) := by decide +kernel
theorem dX7_book_102 : decode cX7_book 102 = .ok (.invokestatic 208, 3) := by decide +kernel
theorem dX7_book_105 : decode cX7_book 105 = .ok (.invokestatic 224, 3) := by decide +kernel
theorem dX7_book_108 : decode cX7_book 108 = .ok (.invokevirtual 165, 3) := by decide +kernel
theorem dX7_book_111 : decode cX7_book 111 = .ok (.i2l, 1) := by decide +kernel
theorem dX7_book_112 : decode cX7_book 112 = .ok (.lreturn, 1) := by decide +kernel
theorem dX7_book_113 : decode cX7_book 113 = .ok (.ldc2_w 192, 3) := by decide +kernel
theorem dX7_book_116 : decode cX7_book 116 = .ok (.lreturn, 1) := by decide +kernel
theorem dX7_who_0 : decode cX7_who 0 = .ok (.aload_n 0, 1) := by decide +kernel
theorem dX7_who_1 : decode cX7_who 1 = .ok (.iload_n 1, 1) := by decide +kernel
theorem dX7_who_2 : decode cX7_who 2 = .ok (.invokevirtual 214, 3) := by decide +kernel
theorem dX7_who_5 : decode cX7_who 5 = .ok (.istore_n 3, 1) := by decide +kernel
theorem dX7_who_6 : decode cX7_who 6 = .ok (.iload_n 3, 1) := by decide +kernel
theorem dX7_who_7 : decode cX7_who 7 = .ok (.ifCond .eq 6, 3) := by decide +kernel
theorem dX7_who_10 : decode cX7_who 10 = .ok (.iload_n 3, 1) := by decide +kernel
theorem dX7_who_11 : decode cX7_who 11 = .ok (.i2l, 1) := by decide +kernel
theorem dX7_who_12 : decode cX7_who 12 = .ok (.lreturn, 1) := by decide +kernel
theorem dX7_who_13 : decode cX7_who 13 = .ok (.iload_n 2, 1) := by decide +kernel
theorem dX7_who_14 : decode cX7_who 14 = .ok (.iconst 0, 1) := by decide +kernel
theorem dX7_who_15 : decode cX7_who 15 = .ok (.iconst 1, 1) := by decide +kernel
theorem dX7_who_16 : decode cX7_who 16 = .ok (.invokestatic 75, 3) := by decide +kernel
theorem dX7_who_19 : decode cX7_who 19 = .ok (.ifCond .ne 7, 3) := by decide +kernel
theorem dX7_who_22 : decode cX7_who 22 = .ok (.ldc2_w 192, 3) := by decide +kernel
theorem dX7_who_25 : decode cX7_who 25 = .ok (.lreturn, 1) := by decide +kernel
theorem dX7_who_26 : decode cX7_who 26 = .ok (.iconst (-1), 1) := by decide +kernel
theorem dX7_who_27 : decode cX7_who 27 = .ok (.istore 4, 2) := by decide +kernel
theorem dX7_who_29 : decode cX7_who 29 = .ok (.ldc2_w 228, 3) := by decide +kernel
theorem dX7_who_32 : decode cX7_who 32 = .ok (.lstore 5, 2) := by decide +kernel
theorem dX7_who_34 : decode cX7_who 34 = .ok (.iconst 0, 1) := by decide +kernel
theorem dX7_who_35 : decode cX7_who 35 = .ok (.istore 7, 2) := by decide +kernel
theorem dX7_who_37 : decode cX7_who 37 = .ok (.iload 7, 2) := by decide +kernel
theorem dX7_who_39 : decode cX7_who 39 = .ok (.aload_n 0, 1) := by decide +kernel
theorem dX7_who_40 : decode cX7_who 40 = .ok (.getfield 72, 3) := by decide +kernel
theorem dX7_who_43 : decode cX7_who 43 = .ok (.if_icmp .ge 75, 3) := by decide +kernel
theorem dX7_who_46 : decode cX7_who 46 = .ok (.aload_n 0, 1) := by decide +kernel
theorem dX7_who_47 : decode cX7_who 47 = .ok (.iload_n 1, 1) := by decide +kernel
theorem dX7_who_48 : decode cX7_who 48 = .ok (.iload 7, 2) := by decide +kernel
theorem dX7_who_50 : decode cX7_who 50 = .ok (.invokevirtual 217, 3) := by decide +kernel
theorem dX7_who_53 : decode cX7_who 53 = .ok (.aload_n 0, 1) := by decide +kernel
theorem dX7_who_54 : decode cX7_who 54 = .ok (.iload_n 1, 1) := by decide +kernel
theorem dX7_who_55 : decode cX7_who 55 = .ok (.invokevirtual 220, 3) := by decide +kernel
theorem dX7_who_58 : decode cX7_who 58 = .ok (.invokestatic 208, 3) := by decide +kernel
theorem dX7_who_61 : decode cX7_who 61 = .ok (.lstore 8, 2) := by decide +kernel
theorem dX7_who_63 : decode cX7_who 63 = .ok (.iload 4, 2) := by decide +kernel
theorem dX7_who_65 : decode cX7_who 65 = .ok (.iconst (-1), 1) := by decide +kernel
theorem dX7_who_66 : decode cX7_who 66 = .ok (.if_icmp .eq 11, 3) := by decide +kernel
theorem dX7_who_69 : decode cX7_who 69 = .ok (.lload 8, 2) := by decide +kernel
theorem dX7_who_71 : decode cX7_who 71 = .ok (.lload 5, 2) := by decide +kernel
theorem dX7_who_73 : decode cX7_who 73 = .ok (.lcmp, 1) := by decide +kernel
theorem dX7_who_74 : decode cX7_who 74 = .ok (.ifCond .ge 7, 3) := by decide +kernel
theorem dX7_who_77 : decode cX7_who 77 = .ok (.iconst 1, 1) := by decide +kernel
theorem dX7_who_78 : decode cX7_who 78 = .ok (.goto 4, 3) := by decide +kernel
theorem dX7_who_81 : decode cX7_who 81 = .ok (.iconst 0, 1) := by decide +kernel
theorem dX7_who_82 : decode cX7_who 82 = .ok (.istore 10, 2) := by decide +kernel
theorem dX7_who_84 : decode cX7_who 84 = .ok (.iload 10, 2) := by decide +kernel
theorem dX7_who_86 : decode cX7_who 86 = .ok (.ifCond .eq 8, 3) := by decide +kernel
theorem dX7_who_89 : decode cX7_who 89 = .ok (.iload 7, 2) := by decide +kernel
theorem dX7_who_91 : decode cX7_who 91 = .ok (.goto 5, 3) := by decide +kernel
theorem dX7_who_94 : decode cX7_who 94 = .ok (.iload 4, 2) := by decide +kernel
theorem dX7_who_96 : decode cX7_who 96 = .ok (.istore 4, 2) := by decide +kernel
theorem dX7_who_98 : decode cX7_who 98 = .ok (.iload 10, 2) := by decide +kernel
theorem dX7_who_100 : decode cX7_who 100 = .ok (.ifCond .eq 8, 3) := by decide +kernel
theorem dX7_who_103 : decode cX7_who 103 = .ok (.lload 8, 2) := by decide +kernel
theorem dX7_who_105 : decode cX7_who 105 = .ok (.goto 5, 3) := by decide +kernel
theorem dX7_who_108 : decode cX7_who 108 = .ok (.lload 5, 2) := by decide +kernel
theorem dX7_who_110 : decode cX7_who 110 = .ok (.lstore 5, 2) := by decide +kernel
theorem dX7_who_112 : decode cX7_who 112 = .ok (.iinc 7 1, 3) := by decide +kernel
theorem dX7_who_115 : decode cX7_who 115 = .ok (.goto (-78), 3) := by decide +kernel
theorem dX7_who_118 : decode cX7_who 118 = .ok (.iload_n 2, 1) := by decide +kernel
theorem dX7_who_119 : decode cX7_who 119 = .ok (.ifCond .ne 9, 3) := by decide +kernel
theorem dX7_who_122 : decode cX7_who 122 = .ok (.iload 4, 2) := by decide +kernel
theorem dX7_who_124 : decode cX7_who 124 = .ok (.i2l, 1) := by decide +kernel
theorem dX7_who_125 : decode cX7_who 125 = .ok (.goto 5, 3) := by decide +kernel
theorem dX7_who_128 : decode cX7_who 128 = .ok (.lload 5, 2) := by decide +kernel
theorem dX7_who_130 : decode cX7_who 130 = .ok (.lreturn, 1) := by decide +kernel
theorem dX7_smuggled_0 : decode cX7_smuggled 0 = .ok (.aload_n 0, 1) := by decide +kernel
theorem dX7_smuggled_1 : decode cX7_smuggled 1 = .ok (.iload_n 1, 1) := by decide +kernel
theorem dX7_smuggled_2 : decode cX7_smuggled 2 = .ok (.invokevirtual 214, 3) := by decide +kernel
theorem dX7_smuggled_5 : decode cX7_smuggled 5 = .ok (.istore 4, 2) := by decide +kernel
theorem dX7_smuggled_7 : decode cX7_smuggled 7 = .ok (.iload 4, 2) := by decide +kernel
theorem dX7_smuggled_9 : decode cX7_smuggled 9 = .ok (.ifCond .eq 7, 3) := by decide +kernel
theorem dX7_smuggled_12 : decode cX7_smuggled 12 = .ok (.iload 4, 2) := by decide +kernel
theorem dX7_smuggled_14 : decode cX7_smuggled 14 = .ok (.i2l, 1) := by decide +kernel
theorem dX7_smuggled_15 : decode cX7_smuggled 15 = .ok (.lreturn, 1) := by decide +kernel
theorem dX7_smuggled_16 : decode cX7_smuggled 16 = .ok (.aload_n 0, 1) := by decide +kernel
theorem dX7_smuggled_17 : decode cX7_smuggled 17 = .ok (.iload_n 2, 1) := by decide +kernel
theorem dX7_smuggled_18 : decode cX7_smuggled 18 = .ok (.invokevirtual 159, 3) := by decide +kernel
theorem dX7_smuggled_21 : decode cX7_smuggled 21 = .ok (.ifCond .ne 7, 3) := by decide +kernel
theorem dX7_smuggled_24 : decode cX7_smuggled 24 = .ok (.ldc2_w 190, 3) := by decide +kernel
theorem dX7_smuggled_27 : decode cX7_smuggled 27 = .ok (.lreturn, 1) := by decide +kernel
theorem dX7_smuggled_28 : decode cX7_smuggled 28 = .ok (.iload_n 3, 1) := by decide +kernel
theorem dX7_smuggled_29 : decode cX7_smuggled 29 = .ok (.iconst 0, 1) := by decide +kernel
theorem dX7_smuggled_30 : decode cX7_smuggled 30 = .ok (.iconst 1, 1) := by decide +kernel
theorem dX7_smuggled_31 : decode cX7_smuggled 31 = .ok (.invokestatic 75, 3) := by decide +kernel
theorem dX7_smuggled_34 : decode cX7_smuggled 34 = .ok (.ifCond .ne 7, 3) := by decide +kernel
theorem dX7_smuggled_37 : decode cX7_smuggled 37 = .ok (.ldc2_w 192, 3) := by decide +kernel
theorem dX7_smuggled_40 : decode cX7_smuggled 40 = .ok (.lreturn, 1) := by decide +kernel
theorem dX7_smuggled_41 : decode cX7_smuggled 41 = .ok (.iconst (-1), 1) := by decide +kernel
theorem dX7_smuggled_42 : decode cX7_smuggled 42 = .ok (.istore 5, 2) := by decide +kernel
theorem dX7_smuggled_44 : decode cX7_smuggled 44 = .ok (.ldc2_w 228, 3) := by decide +kernel
theorem dX7_smuggled_47 : decode cX7_smuggled 47 = .ok (.lstore 6, 2) := by decide +kernel
theorem dX7_smuggled_49 : decode cX7_smuggled 49 = .ok (.aload_n 0, 1) := by decide +kernel
theorem dX7_smuggled_50 : decode cX7_smuggled 50 = .ok (.iload_n 1, 1) := by decide +kernel
theorem dX7_smuggled_51 : decode cX7_smuggled 51 = .ok (.iload_n 2, 1) := by decide +kernel
theorem dX7_smuggled_52 : decode cX7_smuggled 52 = .ok (.invokevirtual 217, 3) := by decide +kernel
theorem dX7_smuggled_55 : decode cX7_smuggled 55 = .ok (.lstore 8, 2) := by decide +kernel
theorem dX7_smuggled_57 : decode cX7_smuggled 57 = .ok (.iconst 0, 1) := by decide +kernel
theorem dX7_smuggled_58 : decode cX7_smuggled 58 = .ok (.istore 10, 2) := by decide +kernel
theorem dX7_smuggled_60 : decode cX7_smuggled 60 = .ok (.iload 10, 2) := by decide +kernel
theorem dX7_smuggled_62 : decode cX7_smuggled 62 = .ok (.aload_n 0, 1) := by decide +kernel
theorem dX7_smuggled_63 : decode cX7_smuggled 63 = .ok (.getfield 41, 3) := by decide +kernel
theorem dX7_smuggled_66 : decode cX7_smuggled 66 = .ok (.iload_n 1, 1) := by decide +kernel
theorem dX7_smuggled_67 : decode cX7_smuggled 67 = .ok (.iaload, 1) := by decide +kernel
theorem dX7_smuggled_68 : decode cX7_smuggled 68 = .ok (.if_icmp .ge 97, 3) := by decide +kernel
theorem dX7_smuggled_71 : decode cX7_smuggled 71 = .ok (.lload 8, 2) := by decide +kernel
theorem dX7_smuggled_73 : decode cX7_smuggled 73 = .ok (.aload_n 0, 1) := by decide +kernel
theorem dX7_smuggled_74 : decode cX7_smuggled 74 = .ok (.iload_n 2, 1) := by decide +kernel
theorem dX7_smuggled_75 : decode cX7_smuggled 75 = .ok (.aload_n 0, 1) := by decide +kernel
theorem dX7_smuggled_76 : decode cX7_smuggled 76 = .ok (.getfield 44, 3) := by decide +kernel
theorem dX7_smuggled_79 : decode cX7_smuggled 79 = .ok (.bipush 40, 2) := by decide +kernel
theorem dX7_smuggled_81 : decode cX7_smuggled 81 = .ok (.iload_n 1, 1) := by decide +kernel
theorem dX7_smuggled_82 : decode cX7_smuggled 82 = .ok (.imul, 1) := by decide +kernel
theorem dX7_smuggled_83 : decode cX7_smuggled 83 = .ok (.iload 10, 2) := by decide +kernel
theorem dX7_smuggled_85 : decode cX7_smuggled 85 = .ok (.iadd, 1) := by decide +kernel
theorem dX7_smuggled_86 : decode cX7_smuggled 86 = .ok (.iaload, 1) := by decide +kernel
theorem dX7_smuggled_87 : decode cX7_smuggled 87 = .ok (.invokevirtual 178, 3) := by decide +kernel
theorem dX7_smuggled_90 : decode cX7_smuggled 90 = .ok (.i2l, 1) := by decide +kernel
theorem dX7_smuggled_91 : decode cX7_smuggled 91 = .ok (.lsub, 1) := by decide +kernel
theorem dX7_smuggled_92 : decode cX7_smuggled 92 = .ok (.aload_n 0, 1) := by decide +kernel
theorem dX7_smuggled_93 : decode cX7_smuggled 93 = .ok (.iload_n 2, 1) := by decide +kernel
theorem dX7_smuggled_94 : decode cX7_smuggled 94 = .ok (.iconst 0, 1) := by decide +kernel
theorem dX7_smuggled_95 : decode cX7_smuggled 95 = .ok (.invokevirtual 178, 3) := by decide +kernel
theorem dX7_smuggled_98 : decode cX7_smuggled 98 = .ok (.i2l, 1) := by decide +kernel
theorem dX7_smuggled_99 : decode cX7_smuggled 99 = .ok (.ladd, 1) := by decide +kernel
theorem dX7_smuggled_100 : decode cX7_smuggled 100 = .ok (.aload_n 0, 1) := by decide +kernel
theorem dX7_smuggled_101 : decode cX7_smuggled 101 = .ok (.iload_n 1, 1) := by decide +kernel
theorem dX7_smuggled_102 : decode cX7_smuggled 102 = .ok (.invokevirtual 220, 3) := by decide +kernel
theorem dX7_smuggled_105 : decode cX7_smuggled 105 = .ok (.invokestatic 208, 3) := by decide +kernel
theorem dX7_smuggled_108 : decode cX7_smuggled 108 = .ok (.lstore 11, 2) := by decide +kernel
theorem dX7_smuggled_110 : decode cX7_smuggled 110 = .ok (.iload 5, 2) := by decide +kernel
theorem dX7_smuggled_112 : decode cX7_smuggled 112 = .ok (.iconst (-1), 1) := by decide +kernel
theorem dX7_smuggled_113 : decode cX7_smuggled 113 = .ok (.if_icmp .eq 11, 3) := by decide +kernel
theorem dX7_smuggled_116 : decode cX7_smuggled 116 = .ok (.lload 11, 2) := by decide +kernel
theorem dX7_smuggled_118 : decode cX7_smuggled 118 = .ok (.lload 6, 2) := by decide +kernel
theorem dX7_smuggled_120 : decode cX7_smuggled 120 = .ok (.lcmp, 1) := by decide +kernel
theorem dX7_smuggled_121 : decode cX7_smuggled 121 = .ok (.ifCond .ge 7, 3) := by decide +kernel
theorem dX7_smuggled_124 : decode cX7_smuggled 124 = .ok (.iconst 1, 1) := by decide +kernel
theorem dX7_smuggled_125 : decode cX7_smuggled 125 = .ok (.goto 4, 3) := by decide +kernel
theorem dX7_smuggled_128 : decode cX7_smuggled 128 = .ok (.iconst 0, 1) := by decide +kernel
theorem dX7_smuggled_129 : decode cX7_smuggled 129 = .ok (.istore 13, 2) := by decide +kernel
theorem dX7_smuggled_131 : decode cX7_smuggled 131 = .ok (.iload 13, 2) := by decide +kernel
theorem dX7_smuggled_133 : decode cX7_smuggled 133 = .ok (.ifCond .eq 8, 3) := by decide +kernel
theorem dX7_smuggled_136 : decode cX7_smuggled 136 = .ok (.iload 10, 2) := by decide +kernel
theorem dX7_smuggled_138 : decode cX7_smuggled 138 = .ok (.goto 5, 3) := by decide +kernel
theorem dX7_smuggled_141 : decode cX7_smuggled 141 = .ok (.iload 5, 2) := by decide +kernel
theorem dX7_smuggled_143 : decode cX7_smuggled 143 = .ok (.istore 5, 2) := by decide +kernel
theorem dX7_smuggled_145 : decode cX7_smuggled 145 = .ok (.iload 13, 2) := by decide +kernel
theorem dX7_smuggled_147 : decode cX7_smuggled 147 = .ok (.ifCond .eq 8, 3) := by decide +kernel
theorem dX7_smuggled_150 : decode cX7_smuggled 150 = .ok (.lload 11, 2) := by decide +kernel
theorem dX7_smuggled_152 : decode cX7_smuggled 152 = .ok (.goto 5, 3) := by decide +kernel
theorem dX7_smuggled_155 : decode cX7_smuggled 155 = .ok (.lload 6, 2) := by decide +kernel
theorem dX7_smuggled_157 : decode cX7_smuggled 157 = .ok (.lstore 6, 2) := by decide +kernel
theorem dX7_smuggled_159 : decode cX7_smuggled 159 = .ok (.iinc 10 1, 3) := by decide +kernel
theorem dX7_smuggled_162 : decode cX7_smuggled 162 = .ok (.goto (-102), 3) := by decide +kernel
theorem dX7_smuggled_165 : decode cX7_smuggled 165 = .ok (.iload_n 3, 1) := by decide +kernel
theorem dX7_smuggled_166 : decode cX7_smuggled 166 = .ok (.ifCond .ne 9, 3) := by decide +kernel
theorem dX7_smuggled_169 : decode cX7_smuggled 169 = .ok (.iload 5, 2) := by decide +kernel
theorem dX7_smuggled_171 : decode cX7_smuggled 171 = .ok (.i2l, 1) := by decide +kernel
theorem dX7_smuggled_172 : decode cX7_smuggled 172 = .ok (.goto 5, 3) := by decide +kernel
theorem dX7_smuggled_175 : decode cX7_smuggled 175 = .ok (.lload 6, 2) := by decide +kernel
theorem dX7_smuggled_177 : decode cX7_smuggled 177 = .ok (.lreturn, 1) := by decide +kernel
theorem dX7_slipped_0 : decode cX7_slipped 0 = .ok (.iload_n 2, 1) := by decide +kernel
theorem dX7_slipped_1 : decode cX7_slipped 1 = .ok (.aload_n 0, 1) := by decide +kernel
theorem dX7_slipped_2 : decode cX7_slipped 2 = .ok (.iload_n 1, 1) := by decide +kernel
theorem dX7_slipped_3 : decode cX7_slipped 3 = .ok (.invokevirtual 169, 3) := by decide +kernel
theorem dX7_slipped_6 : decode cX7_slipped 6 = .ok (.if_icmp .ne 9, 3) := by decide +kernel
theorem dX7_slipped_9 : decode cX7_slipped 9 = .ok (.iload_n 2, 1) := by decide +kernel
theorem dX7_slipped_10 : decode cX7_slipped 10 = .ok (.iconst 1, 1) := by decide +kernel
theorem dX7_slipped_11 : decode cX7_slipped 11 = .ok (.isub, 1) := by decide +kernel
theorem dX7_slipped_12 : decode cX7_slipped 12 = .ok (.goto 6, 3) := by decide +kernel
theorem dX7_slipped_15 : decode cX7_slipped 15 = .ok (.iload_n 2, 1) := by decide +kernel
theorem dX7_slipped_16 : decode cX7_slipped 16 = .ok (.iconst 1, 1) := by decide +kernel
theorem dX7_slipped_17 : decode cX7_slipped 17 = .ok (.iadd, 1) := by decide +kernel
theorem dX7_slipped_18 : decode cX7_slipped 18 = .ok (.ireturn, 1) := by decide +kernel
theorem dX7_slip_0 : decode cX7_slip 0 = .ok (.aload_n 0, 1) := by decide +kernel
theorem dX7_slip_1 : decode cX7_slip 1 = .ok (.iload_n 1, 1) := by decide +kernel
theorem dX7_slip_2 : decode cX7_slip 2 = .ok (.invokevirtual 159, 3) := by decide +kernel
theorem dX7_slip_5 : decode cX7_slip 5 = .ok (.ifCond .ne 7, 3) := by decide +kernel
theorem dX7_slip_8 : decode cX7_slip 8 = .ok (.ldc2_w 190, 3) := by decide +kernel
theorem dX7_slip_11 : decode cX7_slip 11 = .ok (.lreturn, 1) := by decide +kernel
theorem dX7_slip_12 : decode cX7_slip 12 = .ok (.iload_n 2, 1) := by decide +kernel
theorem dX7_slip_13 : decode cX7_slip 13 = .ok (.invokestatic 162, 3) := by decide +kernel
theorem dX7_slip_16 : decode cX7_slip 16 = .ok (.ifCond .eq 12, 3) := by decide +kernel
theorem dX7_slip_19 : decode cX7_slip 19 = .ok (.iload_n 3, 1) := by decide +kernel
theorem dX7_slip_20 : decode cX7_slip 20 = .ok (.iconst 0, 1) := by decide +kernel
theorem dX7_slip_21 : decode cX7_slip 21 = .ok (.iconst 1, 1) := by decide +kernel
theorem dX7_slip_22 : decode cX7_slip 22 = .ok (.invokestatic 75, 3) := by decide +kernel
theorem dX7_slip_25 : decode cX7_slip 25 = .ok (.ifCond .ne 7, 3) := by decide +kernel
theorem dX7_slip_28 : decode cX7_slip 28 = .ok (.ldc2_w 192, 3) := by decide +kernel
theorem dX7_slip_31 : decode cX7_slip 31 = .ok (.lreturn, 1) := by decide +kernel
theorem dX7_slip_32 : decode cX7_slip 32 = .ok (.aload_n 0, 1) := by decide +kernel
theorem dX7_slip_33 : decode cX7_slip 33 = .ok (.iload_n 1, 1) := by decide +kernel
theorem dX7_slip_34 : decode cX7_slip 34 = .ok (.iload_n 2, 1) := by decide +kernel
theorem dX7_slip_35 : decode cX7_slip 35 = .ok (.invokevirtual 186, 3) := by decide +kernel
theorem dX7_slip_38 : decode cX7_slip 38 = .ok (.aload_n 0, 1) := by decide +kernel
theorem dX7_slip_39 : decode cX7_slip 39 = .ok (.aload_n 0, 1) := by decide +kernel
theorem dX7_slip_40 : decode cX7_slip 40 = .ok (.iload_n 1, 1) := by decide +kernel
theorem dX7_slip_41 : decode cX7_slip 41 = .ok (.invokevirtual 169, 3) := by decide +kernel
theorem dX7_slip_44 : decode cX7_slip 44 = .ok (.aload_n 0, 1) := by decide +kernel
theorem dX7_slip_45 : decode cX7_slip 45 = .ok (.iload_n 1, 1) := by decide +kernel
theorem dX7_slip_46 : decode cX7_slip 46 = .ok (.invokevirtual 172, 3) := by decide +kernel
theorem dX7_slip_49 : decode cX7_slip 49 = .ok (.invokevirtual 194, 3) := by decide +kernel
theorem dX7_slip_52 : decode cX7_slip 52 = .ok (.lstore 4, 2) := by decide +kernel
theorem dX7_slip_54 : decode cX7_slip 54 = .ok (.iconst (-1), 1) := by decide +kernel
theorem dX7_slip_55 : decode cX7_slip 55 = .ok (.istore 6, 2) := by decide +kernel
theorem dX7_slip_57 : decode cX7_slip 57 = .ok (.lconst 0, 1) := by decide +kernel
theorem dX7_slip_58 : decode cX7_slip 58 = .ok (.lstore 7, 2) := by decide +kernel
theorem dX7_slip_60 : decode cX7_slip 60 = .ok (.iconst 0, 1) := by decide +kernel
theorem dX7_slip_61 : decode cX7_slip 61 = .ok (.istore 9, 2) := by decide +kernel
theorem dX7_slip_63 : decode cX7_slip 63 = .ok (.iload 9, 2) := by decide +kernel
theorem dX7_slip_65 : decode cX7_slip 65 = .ok (.aload_n 0, 1) := by decide +kernel
theorem dX7_slip_66 : decode cX7_slip 66 = .ok (.getfield 175, 3) := by decide +kernel
theorem dX7_slip_69 : decode cX7_slip 69 = .ok (.if_icmp .ge 111, 3) := by decide +kernel
theorem dX7_slip_72 : decode cX7_slip 72 = .ok (.aload_n 0, 1) := by decide +kernel
theorem dX7_slip_73 : decode cX7_slip 73 = .ok (.getfield 62, 3) := by decide +kernel
theorem dX7_slip_76 : decode cX7_slip 76 = .ok (.iload 9, 2) := by decide +kernel
theorem dX7_slip_78 : decode cX7_slip 78 = .ok (.iaload, 1) := by decide +kernel
theorem dX7_slip_79 : decode cX7_slip 79 = .ok (.istore 10, 2) := by decide +kernel
theorem dX7_slip_81 : decode cX7_slip 81 = .ok (.aload_n 0, 1) := by decide +kernel
theorem dX7_slip_82 : decode cX7_slip 82 = .ok (.getfield 62, 3) := by decide +kernel
theorem dX7_slip_85 : decode cX7_slip 85 = .ok (.iload 9, 2) := by decide +kernel
theorem dX7_slip_87 : decode cX7_slip 87 = .ok (.aload_n 0, 1) := by decide +kernel
theorem dX7_slip_88 : decode cX7_slip 88 = .ok (.iload_n 1, 1) := by decide +kernel
theorem dX7_slip_89 : decode cX7_slip 89 = .ok (.iload 10, 2) := by decide +kernel
theorem dX7_slip_91 : decode cX7_slip 91 = .ok (.invokevirtual 230, 3) := by decide +kernel
theorem dX7_slip_94 : decode cX7_slip 94 = .ok (.iastore, 1) := by decide +kernel
theorem dX7_slip_95 : decode cX7_slip 95 = .ok (.aload_n 0, 1) := by decide +kernel
theorem dX7_slip_96 : decode cX7_slip 96 = .ok (.aload_n 0, 1) := by decide +kernel
theorem dX7_slip_97 : decode cX7_slip 97 = .ok (.iload_n 1, 1) := by decide +kernel
theorem dX7_slip_98 : decode cX7_slip 98 = .ok (.invokevirtual 169, 3) := by decide +kernel
theorem dX7_slip_101 : decode cX7_slip 101 = .ok (.aload_n 0, 1) := by decide +kernel
theorem dX7_slip_102 : decode cX7_slip 102 = .ok (.iload_n 1, 1) := by decide +kernel
theorem dX7_slip_103 : decode cX7_slip 103 = .ok (.invokevirtual 172, 3) := by decide +kernel
theorem dX7_slip_106 : decode cX7_slip 106 = .ok (.invokevirtual 194, 3) := by decide +kernel
theorem dX7_slip_109 : decode cX7_slip 109 = .ok (.lload 4, 2) := by decide +kernel
theorem dX7_slip_111 : decode cX7_slip 111 = .ok (.invokestatic 208, 3) := by decide +kernel
theorem dX7_slip_114 : decode cX7_slip 114 = .ok (.lstore 11, 2) := by decide +kernel
theorem dX7_slip_116 : decode cX7_slip 116 = .ok (.aload_n 0, 1) := by decide +kernel
theorem dX7_slip_117 : decode cX7_slip 117 = .ok (.getfield 62, 3) := by decide +kernel
theorem dX7_slip_120 : decode cX7_slip 120 = .ok (.iload 9, 2) := by decide +kernel
theorem dX7_slip_122 : decode cX7_slip 122 = .ok (.iload 10, 2) := by decide +kernel
theorem dX7_slip_124 : decode cX7_slip 124 = .ok (.iastore, 1) := by decide +kernel
theorem dX7_slip_125 : decode cX7_slip 125 = .ok (.iload 6, 2) := by decide +kernel
theorem dX7_slip_127 : decode cX7_slip 127 = .ok (.iconst (-1), 1) := by decide +kernel
theorem dX7_slip_128 : decode cX7_slip 128 = .ok (.if_icmp .eq 11, 3) := by decide +kernel
theorem dX7_slip_131 : decode cX7_slip 131 = .ok (.lload 11, 2) := by decide +kernel
theorem dX7_slip_133 : decode cX7_slip 133 = .ok (.lload 7, 2) := by decide +kernel
theorem dX7_slip_135 : decode cX7_slip 135 = .ok (.lcmp, 1) := by decide +kernel
theorem dX7_slip_136 : decode cX7_slip 136 = .ok (.ifCond .le 7, 3) := by decide +kernel
theorem dX7_slip_139 : decode cX7_slip 139 = .ok (.iconst 1, 1) := by decide +kernel
theorem dX7_slip_140 : decode cX7_slip 140 = .ok (.goto 4, 3) := by decide +kernel
theorem dX7_slip_143 : decode cX7_slip 143 = .ok (.iconst 0, 1) := by decide +kernel
theorem dX7_slip_144 : decode cX7_slip 144 = .ok (.istore 13, 2) := by decide +kernel
theorem dX7_slip_146 : decode cX7_slip 146 = .ok (.iload 13, 2) := by decide +kernel
theorem dX7_slip_148 : decode cX7_slip 148 = .ok (.ifCond .eq 8, 3) := by decide +kernel
theorem dX7_slip_151 : decode cX7_slip 151 = .ok (.iload 9, 2) := by decide +kernel
theorem dX7_slip_153 : decode cX7_slip 153 = .ok (.goto 5, 3) := by decide +kernel
theorem dX7_slip_156 : decode cX7_slip 156 = .ok (.iload 6, 2) := by decide +kernel
theorem dX7_slip_158 : decode cX7_slip 158 = .ok (.istore 6, 2) := by decide +kernel
theorem dX7_slip_160 : decode cX7_slip 160 = .ok (.iload 13, 2) := by decide +kernel
theorem dX7_slip_162 : decode cX7_slip 162 = .ok (.ifCond .eq 8, 3) := by decide +kernel
theorem dX7_slip_165 : decode cX7_slip 165 = .ok (.lload 11, 2) := by decide +kernel
theorem dX7_slip_167 : decode cX7_slip 167 = .ok (.goto 5, 3) := by decide +kernel
theorem dX7_slip_170 : decode cX7_slip 170 = .ok (.lload 7, 2) := by decide +kernel
theorem dX7_slip_172 : decode cX7_slip 172 = .ok (.lstore 7, 2) := by decide +kernel
theorem dX7_slip_174 : decode cX7_slip 174 = .ok (.iinc 9 1, 3) := by decide +kernel
theorem dX7_slip_177 : decode cX7_slip 177 = .ok (.goto (-114), 3) := by decide +kernel
theorem dX7_slip_180 : decode cX7_slip 180 = .ok (.iload_n 3, 1) := by decide +kernel
theorem dX7_slip_181 : decode cX7_slip 181 = .ok (.ifCond .ne 9, 3) := by decide +kernel
theorem dX7_slip_184 : decode cX7_slip 184 = .ok (.iload 6, 2) := by decide +kernel
theorem dX7_slip_186 : decode cX7_slip 186 = .ok (.i2l, 1) := by decide +kernel
theorem dX7_slip_187 : decode cX7_slip 187 = .ok (.goto 5, 3) := by decide +kernel
theorem dX7_slip_190 : decode cX7_slip 190 = .ok (.lload 7, 2) := by decide +kernel
theorem dX7_slip_192 : decode cX7_slip 192 = .ok (.lreturn, 1) := by decide +kernel
theorem dX7_sure_0 : decode cX7_sure 0 = .ok (.aload_n 0, 1) := by decide +kernel
theorem dX7_sure_1 : decode cX7_sure 1 = .ok (.iload_n 1, 1) := by decide +kernel
theorem dX7_sure_2 : decode cX7_sure 2 = .ok (.invokevirtual 159, 3) := by decide +kernel
theorem dX7_sure_5 : decode cX7_sure 5 = .ok (.ifCond .ne 7, 3) := by decide +kernel
theorem dX7_sure_8 : decode cX7_sure 8 = .ok (.ldc2_w 190, 3) := by decide +kernel
theorem dX7_sure_11 : decode cX7_sure 11 = .ok (.lreturn, 1) := by decide +kernel
theorem dX7_sure_12 : decode cX7_sure 12 = .ok (.iload_n 2, 1) := by decide +kernel
theorem dX7_sure_13 : decode cX7_sure 13 = .ok (.invokestatic 162, 3) := by decide +kernel
theorem dX7_sure_16 : decode cX7_sure 16 = .ok (.ifCond .ne 7, 3) := by decide +kernel
theorem dX7_sure_19 : decode cX7_sure 19 = .ok (.ldc2_w 192, 3) := by decide +kernel
theorem dX7_sure_22 : decode cX7_sure 22 = .ok (.lreturn, 1) := by decide +kernel
theorem dX7_sure_23 : decode cX7_sure 23 = .ok (.aload_n 0, 1) := by decide +kernel
theorem dX7_sure_24 : decode cX7_sure 24 = .ok (.iload_n 1, 1) := by decide +kernel
theorem dX7_sure_25 : decode cX7_sure 25 = .ok (.iload_n 2, 1) := by decide +kernel
theorem dX7_sure_26 : decode cX7_sure 26 = .ok (.invokevirtual 186, 3) := by decide +kernel
theorem dX7_sure_29 : decode cX7_sure 29 = .ok (.ldc2_w 233, 3) := by decide +kernel
theorem dX7_sure_32 : decode cX7_sure 32 = .ok (.lstore_n 3, 1) := by decide +kernel
theorem dX7_sure_33 : decode cX7_sure 33 = .ok (.iconst 0, 1) := by decide +kernel
theorem dX7_sure_34 : decode cX7_sure 34 = .ok (.istore 5, 2) := by decide +kernel
theorem dX7_sure_36 : decode cX7_sure 36 = .ok (.iload 5, 2) := by decide +kernel
theorem dX7_sure_38 : decode cX7_sure 38 = .ok (.aload_n 0, 1) := by decide +kernel
theorem dX7_sure_39 : decode cX7_sure 39 = .ok (.getfield 175, 3) := by decide +kernel
theorem dX7_sure_42 : decode cX7_sure 42 = .ok (.if_icmp .ge 28, 3) := by decide +kernel
theorem dX7_sure_45 : decode cX7_sure 45 = .ok (.lload_n 3, 1) := by decide +kernel
theorem dX7_sure_46 : decode cX7_sure 46 = .ok (.bipush 100, 2) := by decide +kernel
theorem dX7_sure_48 : decode cX7_sure 48 = .ok (.aload_n 0, 1) := by decide +kernel
theorem dX7_sure_49 : decode cX7_sure 49 = .ok (.iconst 1, 1) := by decide +kernel
theorem dX7_sure_50 : decode cX7_sure 50 = .ok (.iload_n 1, 1) := by decide +kernel
theorem dX7_sure_51 : decode cX7_sure 51 = .ok (.iload_n 2, 1) := by decide +kernel
theorem dX7_sure_52 : decode cX7_sure 52 = .ok (.iconst 0, 1) := by decide +kernel
theorem dX7_sure_53 : decode cX7_sure 53 = .ok (.invokevirtual 165, 3) := by decide +kernel
theorem dX7_sure_56 : decode cX7_sure 56 = .ok (.isub, 1) := by decide +kernel
theorem dX7_sure_57 : decode cX7_sure 57 = .ok (.i2l, 1) := by decide +kernel
theorem dX7_sure_58 : decode cX7_sure 58 = .ok (.lmul, 1) := by decide +kernel
theorem dX7_sure_59 : decode cX7_sure 59 = .ok (.ldc2_w 235, 3) := by decide +kernel
theorem dX7_sure_62 : decode cX7_sure 62 = .ok (.ldiv, 1) := by decide +kernel
theorem dX7_sure_63 : decode cX7_sure 63 = .ok (.lstore_n 3, 1) := by decide +kernel
theorem dX7_sure_64 : decode cX7_sure 64 = .ok (.iinc 5 1, 3) := by decide +kernel
theorem dX7_sure_67 : decode cX7_sure 67 = .ok (.goto (-31), 3) := by decide +kernel
theorem dX7_sure_70 : decode cX7_sure 70 = .ok (.lload_n 3, 1) := by decide +kernel
theorem dX7_sure_71 : decode cX7_sure 71 = .ok (.lreturn, 1) := by decide +kernel
theorem dX7_figuresAll_0 : decode cX7_figuresAll 0 = .ok (.iconst 0, 1) := by decide +kernel
theorem dX7_figuresAll_1 : decode cX7_figuresAll 1 = .ok (.istore_n 3, 1) := by decide +kernel
theorem dX7_figuresAll_2 : decode cX7_figuresAll 2 = .ok (.iconst 0, 1) := by decide +kernel
theorem dX7_figuresAll_3 : decode cX7_figuresAll 3 = .ok (.istore 4, 2) := by decide +kernel
theorem dX7_figuresAll_5 : decode cX7_figuresAll 5 = .ok (.iload 4, 2) := by decide +kernel
theorem dX7_figuresAll_7 : decode cX7_figuresAll 7 = .ok (.aload_n 0, 1) := by decide +kernel
theorem dX7_figuresAll_8 : decode cX7_figuresAll 8 = .ok (.getfield 41, 3) := by decide +kernel
theorem dX7_figuresAll_11 : decode cX7_figuresAll 11 = .ok (.iload_n 1, 1) := by decide +kernel
theorem dX7_figuresAll_12 : decode cX7_figuresAll 12 = .ok (.iaload, 1) := by decide +kernel
theorem dX7_figuresAll_13 : decode cX7_figuresAll 13 = .ok (.if_icmp .ge 33, 3) := by decide +kernel
theorem dX7_figuresAll_16 : decode cX7_figuresAll 16 = .ok (.aload_n 0, 1) := by decide +kernel
theorem dX7_figuresAll_17 : decode cX7_figuresAll 17 = .ok (.iload_n 2, 1) := by decide +kernel
theorem dX7_figuresAll_18 : decode cX7_figuresAll 18 = .ok (.aload_n 0, 1) := by decide +kernel
theorem dX7_figuresAll_19 : decode cX7_figuresAll 19 = .ok (.getfield 44, 3) := by decide +kernel
theorem dX7_figuresAll_22 : decode cX7_figuresAll 22 = .ok (.bipush 40, 2) := by decide +kernel
theorem dX7_figuresAll_24 : decode cX7_figuresAll 24 = .ok (.iload_n 1, 1) := by decide +kernel
theorem dX7_figuresAll_25 : decode cX7_figuresAll 25 = .ok (.imul, 1) := by decide +kernel
theorem dX7_figuresAll_26 : decode cX7_figuresAll 26 = .ok (.iload 4, 2) := by decide +kernel
theorem dX7_figuresAll_28 : decode cX7_figuresAll 28 = .ok (.iadd, 1) := by decide +kernel
theorem dX7_figuresAll_29 : decode cX7_figuresAll 29 = .ok (.iaload, 1) := by decide +kernel
theorem dX7_figuresAll_30 : decode cX7_figuresAll 30 = .ok (.invokevirtual 186, 3) := by decide +kernel
theorem dX7_figuresAll_33 : decode cX7_figuresAll 33 = .ok (.iload_n 3, 1) := by decide +kernel
theorem dX7_figuresAll_34 : decode cX7_figuresAll 34 = .ok (.aload_n 0, 1) := by decide +kernel
theorem dX7_figuresAll_35 : decode cX7_figuresAll 35 = .ok (.getfield 175, 3) := by decide +kernel
theorem dX7_figuresAll_38 : decode cX7_figuresAll 38 = .ok (.iadd, 1) := by decide +kernel
theorem dX7_figuresAll_39 : decode cX7_figuresAll 39 = .ok (.istore_n 3, 1) := by decide +kernel
theorem dX7_figuresAll_40 : decode cX7_figuresAll 40 = .ok (.iinc 4 1, 3) := by decide +kernel
theorem dX7_figuresAll_43 : decode cX7_figuresAll 43 = .ok (.goto (-38), 3) := by decide +kernel
theorem dX7_figuresAll_46 : decode cX7_figuresAll 46 = .ok (.iload_n 3, 1) := by decide +kernel
theorem dX7_figuresAll_47 : decode cX7_figuresAll 47 = .ok (.ireturn, 1) := by decide +kernel
theorem dX7_shortest_0 : decode cX7_shortest 0 = .ok (.aload_n 0, 1) := by decide +kernel
theorem dX7_shortest_1 : decode cX7_shortest 1 = .ok (.iload_n 1, 1) := by decide +kernel
theorem dX7_shortest_2 : decode cX7_shortest 2 = .ok (.invokevirtual 214, 3) := by decide +kernel
theorem dX7_shortest_5 : decode cX7_shortest 5 = .ok (.istore 4, 2) := by decide +kernel
theorem dX7_shortest_7 : decode cX7_shortest 7 = .ok (.iload 4, 2) := by decide +kernel
theorem dX7_shortest_9 : decode cX7_shortest 9 = .ok (.ifCond .eq 6, 3) := by decide +kernel
theorem dX7_shortest_12 : decode cX7_shortest 12 = .ok (.iload 4, 2) := by decide +kernel
theorem dX7_shortest_14 : decode cX7_shortest 14 = .ok (.ireturn, 1) := by decide +kernel
theorem dX7_shortest_15 : decode cX7_shortest 15 = .ok (.aload_n 0, 1) := by decide +kernel
theorem dX7_shortest_16 : decode cX7_shortest 16 = .ok (.iload_n 2, 1) := by decide +kernel
theorem dX7_shortest_17 : decode cX7_shortest 17 = .ok (.invokevirtual 159, 3) := by decide +kernel
theorem dX7_shortest_20 : decode cX7_shortest 20 = .ok (.ifCond .ne 6, 3) := by decide +kernel
theorem dX7_shortest_23 : decode cX7_shortest 23 = .ok (.bipush (-5), 2) := by decide +kernel
theorem dX7_shortest_25 : decode cX7_shortest 25 = .ok (.ireturn, 1) := by decide +kernel
theorem dX7_shortest_26 : decode cX7_shortest 26 = .ok (.iload_n 3, 1) := by decide +kernel
theorem dX7_shortest_27 : decode cX7_shortest 27 = .ok (.iconst 0, 1) := by decide +kernel
theorem dX7_shortest_28 : decode cX7_shortest 28 = .ok (.iconst 1, 1) := by decide +kernel
theorem dX7_shortest_29 : decode cX7_shortest 29 = .ok (.invokestatic 75, 3) := by decide +kernel
theorem dX7_shortest_32 : decode cX7_shortest 32 = .ok (.ifCond .ne 6, 3) := by decide +kernel
theorem dX7_shortest_35 : decode cX7_shortest 35 = .ok (.bipush (-7), 2) := by decide +kernel
theorem dX7_shortest_37 : decode cX7_shortest 37 = .ok (.ireturn, 1) := by decide +kernel
theorem dX7_shortest_38 : decode cX7_shortest 38 = .ok (.aload_n 0, 1) := by decide +kernel
theorem dX7_shortest_39 : decode cX7_shortest 39 = .ok (.getfield 7, 3) := by decide +kernel
theorem dX7_shortest_42 : decode cX7_shortest 42 = .ok (.istore 5, 2) := by decide +kernel
theorem dX7_shortest_44 : decode cX7_shortest 44 = .ok (.iconst (-1), 1) := by decide +kernel
theorem dX7_shortest_45 : decode cX7_shortest 45 = .ok (.istore 6, 2) := by decide +kernel
theorem dX7_shortest_47 : decode cX7_shortest 47 = .ok (.iconst 0, 1) := by decide +kernel
theorem dX7_shortest_48 : decode cX7_shortest 48 = .ok (.istore 7, 2) := by decide +kernel
theorem dX7_shortest_50 : decode cX7_shortest 50 = .ok (.iconst 2, 1) := by decide +kernel
theorem dX7_shortest_51 : decode cX7_shortest 51 = .ok (.istore 8, 2) := by decide +kernel
theorem dX7_shortest_53 : decode cX7_shortest 53 = .ok (.iload 8, 2) := by decide +kernel
theorem dX7_shortest_55 : decode cX7_shortest 55 = .ok (.bipush 12, 2) := by decide +kernel
theorem dX7_shortest_57 : decode cX7_shortest 57 = .ok (.if_icmp .gt 71, 3) := by decide +kernel
theorem dX7_shortest_60 : decode cX7_shortest 60 = .ok (.aload_n 0, 1) := by decide +kernel
theorem dX7_shortest_61 : decode cX7_shortest 61 = .ok (.iload 8, 2) := by decide +kernel
theorem dX7_shortest_63 : decode cX7_shortest 63 = .ok (.putfield 7, 3) := by decide +kernel
theorem dX7_shortest_66 : decode cX7_shortest 66 = .ok (.aload_n 0, 1) := by decide +kernel
theorem dX7_shortest_67 : decode cX7_shortest 67 = .ok (.iload_n 1, 1) := by decide +kernel
theorem dX7_shortest_68 : decode cX7_shortest 68 = .ok (.iload_n 2, 1) := by decide +kernel
theorem dX7_shortest_69 : decode cX7_shortest 69 = .ok (.invokevirtual 237, 3) := by decide +kernel
theorem dX7_shortest_72 : decode cX7_shortest 72 = .ok (.istore 9, 2) := by decide +kernel
theorem dX7_shortest_74 : decode cX7_shortest 74 = .ok (.iload 6, 2) := by decide +kernel
theorem dX7_shortest_76 : decode cX7_shortest 76 = .ok (.iconst (-1), 1) := by decide +kernel
theorem dX7_shortest_77 : decode cX7_shortest 77 = .ok (.if_icmp .eq 10, 3) := by decide +kernel
theorem dX7_shortest_80 : decode cX7_shortest 80 = .ok (.iload 9, 2) := by decide +kernel
theorem dX7_shortest_82 : decode cX7_shortest 82 = .ok (.iload 7, 2) := by decide +kernel
theorem dX7_shortest_84 : decode cX7_shortest 84 = .ok (.if_icmp .ge 7, 3) := by decide +kernel
theorem dX7_shortest_87 : decode cX7_shortest 87 = .ok (.iconst 1, 1) := by decide +kernel
theorem dX7_shortest_88 : decode cX7_shortest 88 = .ok (.goto 4, 3) := by decide +kernel
theorem dX7_shortest_91 : decode cX7_shortest 91 = .ok (.iconst 0, 1) := by decide +kernel
theorem dX7_shortest_92 : decode cX7_shortest 92 = .ok (.istore 10, 2) := by decide +kernel
theorem dX7_shortest_94 : decode cX7_shortest 94 = .ok (.iload 10, 2) := by decide +kernel
theorem dX7_shortest_96 : decode cX7_shortest 96 = .ok (.ifCond .eq 8, 3) := by decide +kernel
theorem dX7_shortest_99 : decode cX7_shortest 99 = .ok (.iload 8, 2) := by decide +kernel
theorem dX7_shortest_101 : decode cX7_shortest 101 = .ok (.goto 5, 3) := by decide +kernel
theorem dX7_shortest_104 : decode cX7_shortest 104 = .ok (.iload 6, 2) := by decide +kernel
theorem dX7_shortest_106 : decode cX7_shortest 106 = .ok (.istore 6, 2) := by decide +kernel
theorem dX7_shortest_108 : decode cX7_shortest 108 = .ok (.iload 10, 2) := by decide +kernel
theorem dX7_shortest_110 : decode cX7_shortest 110 = .ok (.ifCond .eq 8, 3) := by decide +kernel
theorem dX7_shortest_113 : decode cX7_shortest 113 = .ok (.iload 9, 2) := by decide +kernel
theorem dX7_shortest_115 : decode cX7_shortest 115 = .ok (.goto 5, 3) := by decide +kernel
theorem dX7_shortest_118 : decode cX7_shortest 118 = .ok (.iload 7, 2) := by decide +kernel
theorem dX7_shortest_120 : decode cX7_shortest 120 = .ok (.istore 7, 2) := by decide +kernel
theorem dX7_shortest_122 : decode cX7_shortest 122 = .ok (.iinc 8 1, 3) := by decide +kernel
theorem dX7_shortest_125 : decode cX7_shortest 125 = .ok (.goto (-72), 3) := by decide +kernel
theorem dX7_shortest_128 : decode cX7_shortest 128 = .ok (.aload_n 0, 1) := by decide +kernel
theorem dX7_shortest_129 : decode cX7_shortest 129 = .ok (.iload 5, 2) := by decide +kernel
theorem dX7_shortest_131 : decode cX7_shortest 131 = .ok (.putfield 7, 3) := by decide +kernel
theorem dX7_shortest_134 : decode cX7_shortest 134 = .ok (.iload_n 3, 1) := by decide +kernel
theorem dX7_shortest_135 : decode cX7_shortest 135 = .ok (.ifCond .ne 8, 3) := by decide +kernel
theorem dX7_shortest_138 : decode cX7_shortest 138 = .ok (.iload 6, 2) := by decide +kernel
theorem dX7_shortest_140 : decode cX7_shortest 140 = .ok (.goto 5, 3) := by decide +kernel
theorem dX7_shortest_143 : decode cX7_shortest 143 = .ok (.iload 7, 2) := by decide +kernel
theorem dX7_shortest_145 : decode cX7_shortest 145 = .ok (.ireturn, 1) := by decide +kernel
theorem dX7_areFolk_0 : decode cX7_areFolk 0 = .ok (.iload_n 0, 1) := by decide +kernel
theorem dX7_areFolk_1 : decode cX7_areFolk 1 = .ok (.iconst 0, 1) := by decide +kernel
theorem dX7_areFolk_2 : decode cX7_areFolk 2 = .ok (.iconst 5, 1) := by decide +kernel
theorem dX7_areFolk_3 : decode cX7_areFolk 3 = .ok (.invokestatic 75, 3) := by decide +kernel
theorem dX7_areFolk_6 : decode cX7_areFolk 6 = .ok (.ifCond .eq 21, 3) := by decide +kernel
theorem dX7_areFolk_9 : decode cX7_areFolk 9 = .ok (.iload_n 1, 1) := by decide +kernel
theorem dX7_areFolk_10 : decode cX7_areFolk 10 = .ok (.iconst 0, 1) := by decide +kernel
theorem dX7_areFolk_11 : decode cX7_areFolk 11 = .ok (.iconst 5, 1) := by decide +kernel
theorem dX7_areFolk_12 : decode cX7_areFolk 12 = .ok (.invokestatic 75, 3) := by decide +kernel
theorem dX7_areFolk_15 : decode cX7_areFolk 15 = .ok (.ifCond .eq 12, 3) := by decide +kernel
theorem dX7_areFolk_18 : decode cX7_areFolk 18 = .ok (.iload_n 0, 1) := by decide +kernel
theorem dX7_areFolk_19 : decode cX7_areFolk 19 = .ok (.iload_n 1, 1) := by decide +kernel
theorem dX7_areFolk_20 : decode cX7_areFolk 20 = .ok (.if_icmp .eq 7, 3) := by decide +kernel
theorem dX7_areFolk_23 : decode cX7_areFolk 23 = .ok (.iconst 1, 1) := by decide +kernel
theorem dX7_areFolk_24 : decode cX7_areFolk 24 = .ok (.goto 4, 3) := by decide +kernel
theorem dX7_areFolk_27 : decode cX7_areFolk 27 = .ok (.iconst 0, 1) := by decide +kernel
theorem dX7_areFolk_28 : decode cX7_areFolk 28 = .ok (.ireturn, 1) := by decide +kernel
theorem dX7_lend_0 : decode cX7_lend 0 = .ok (.iload_n 1, 1) := by decide +kernel
theorem dX7_lend_1 : decode cX7_lend 1 = .ok (.iload_n 2, 1) := by decide +kernel
theorem dX7_lend_2 : decode cX7_lend 2 = .ok (.invokestatic 240, 3) := by decide +kernel
theorem dX7_lend_5 : decode cX7_lend 5 = .ok (.ifCond .ne 6, 3) := by decide +kernel
theorem dX7_lend_8 : decode cX7_lend 8 = .ok (.bipush (-5), 2) := by decide +kernel
theorem dX7_lend_10 : decode cX7_lend 10 = .ok (.ireturn, 1) := by decide +kernel
theorem dX7_lend_11 : decode cX7_lend 11 = .ok (.iload_n 3, 1) := by decide +kernel
theorem dX7_lend_12 : decode cX7_lend 12 = .ok (.iconst 0, 1) := by decide +kernel
theorem dX7_lend_13 : decode cX7_lend 13 = .ok (.sipush 9999, 3) := by decide +kernel
theorem dX7_lend_16 : decode cX7_lend 16 = .ok (.invokestatic 75, 3) := by decide +kernel
theorem dX7_lend_19 : decode cX7_lend 19 = .ok (.ifCond .ne 6, 3) := by decide +kernel
theorem dX7_lend_22 : decode cX7_lend 22 = .ok (.bipush (-7), 2) := by decide +kernel
theorem dX7_lend_24 : decode cX7_lend 24 = .ok (.ireturn, 1) := by decide +kernel
theorem dX7_lend_25 : decode cX7_lend 25 = .ok (.aload_n 0, 1) := by decide +kernel
theorem dX7_lend_26 : decode cX7_lend 26 = .ok (.getfield 23, 3) := by decide +kernel
theorem dX7_lend_29 : decode cX7_lend 29 = .ok (.bipush 6, 2) := by decide +kernel
theorem dX7_lend_31 : decode cX7_lend 31 = .ok (.iload_n 1, 1) := by decide +kernel
theorem dX7_lend_32 : decode cX7_lend 32 = .ok (.imul, 1) := by decide +kernel
theorem dX7_lend_33 : decode cX7_lend 33 = .ok (.iload_n 2, 1) := by decide +kernel
theorem dX7_lend_34 : decode cX7_lend 34 = .ok (.iadd, 1) := by decide +kernel
theorem dX7_lend_35 : decode cX7_lend 35 = .ok (.iaload, 1) := by decide +kernel
theorem dX7_lend_36 : decode cX7_lend 36 = .ok (.istore 4, 2) := by decide +kernel
theorem dX7_lend_38 : decode cX7_lend 38 = .ok (.aload_n 0, 1) := by decide +kernel
theorem dX7_lend_39 : decode cX7_lend 39 = .ok (.getfield 23, 3) := by decide +kernel
theorem dX7_lend_42 : decode cX7_lend 42 = .ok (.bipush 6, 2) := by decide +kernel
theorem dX7_lend_44 : decode cX7_lend 44 = .ok (.iload_n 1, 1) := by decide +kernel
theorem dX7_lend_45 : decode cX7_lend 45 = .ok (.imul, 1) := by decide +kernel
theorem dX7_lend_46 : decode cX7_lend 46 = .ok (.iload_n 2, 1) := by decide +kernel
theorem dX7_lend_47 : decode cX7_lend 47 = .ok (.iadd, 1) := by decide +kernel
theorem dX7_lend_48 : decode cX7_lend 48 = .ok (.iload_n 3, 1) := by decide +kernel
theorem dX7_lend_49 : decode cX7_lend 49 = .ok (.iastore, 1) := by decide +kernel
theorem dX7_lend_50 : decode cX7_lend 50 = .ok (.iload 4, 2) := by decide +kernel
theorem dX7_lend_52 : decode cX7_lend 52 = .ok (.ireturn, 1) := by decide +kernel
theorem dX7_debt_0 : decode cX7_debt 0 = .ok (.iload_n 1, 1) := by decide +kernel
theorem dX7_debt_1 : decode cX7_debt 1 = .ok (.iload_n 2, 1) := by decide +kernel
theorem dX7_debt_2 : decode cX7_debt 2 = .ok (.invokestatic 240, 3) := by decide +kernel
theorem dX7_debt_5 : decode cX7_debt 5 = .ok (.ifCond .eq 17, 3) := by decide +kernel
theorem dX7_debt_8 : decode cX7_debt 8 = .ok (.aload_n 0, 1) := by decide +kernel
theorem dX7_debt_9 : decode cX7_debt 9 = .ok (.getfield 23, 3) := by decide +kernel
theorem dX7_debt_12 : decode cX7_debt 12 = .ok (.bipush 6, 2) := by decide +kernel
theorem dX7_debt_14 : decode cX7_debt 14 = .ok (.iload_n 1, 1) := by decide +kernel
theorem dX7_debt_15 : decode cX7_debt 15 = .ok (.imul, 1) := by decide +kernel
theorem dX7_debt_16 : decode cX7_debt 16 = .ok (.iload_n 2, 1) := by decide +kernel
theorem dX7_debt_17 : decode cX7_debt 17 = .ok (.iadd, 1) := by decide +kernel
theorem dX7_debt_18 : decode cX7_debt 18 = .ok (.iaload, 1) := by decide +kernel
theorem dX7_debt_19 : decode cX7_debt 19 = .ok (.goto 5, 3) := by decide +kernel
theorem dX7_debt_22 : decode cX7_debt 22 = .ok (.bipush (-5), 2) := by decide +kernel
theorem dX7_debt_24 : decode cX7_debt 24 = .ok (.ireturn, 1) := by decide +kernel
theorem dX7_pay_0 : decode cX7_pay 0 = .ok (.aload_n 0, 1) := by decide +kernel
theorem dX7_pay_1 : decode cX7_pay 1 = .ok (.iload_n 1, 1) := by decide +kernel
theorem dX7_pay_2 : decode cX7_pay 2 = .ok (.invokevirtual 159, 3) := by decide +kernel
theorem dX7_pay_5 : decode cX7_pay 5 = .ok (.ifCond .ne 6, 3) := by decide +kernel
theorem dX7_pay_8 : decode cX7_pay 8 = .ok (.bipush (-6), 2) := by decide +kernel
theorem dX7_pay_10 : decode cX7_pay 10 = .ok (.ireturn, 1) := by decide +kernel
theorem dX7_pay_11 : decode cX7_pay 11 = .ok (.iload_n 2, 1) := by decide +kernel
theorem dX7_pay_12 : decode cX7_pay 12 = .ok (.ifCond .lt 17, 3) := by decide +kernel
theorem dX7_pay_15 : decode cX7_pay 15 = .ok (.iload_n 2, 1) := by decide +kernel
theorem dX7_pay_16 : decode cX7_pay 16 = .ok (.bipush 10, 2) := by decide +kernel
theorem dX7_pay_18 : decode cX7_pay 18 = .ok (.idiv, 1) := by decide +kernel
theorem dX7_pay_19 : decode cX7_pay 19 = .ok (.iload_n 2, 1) := by decide +kernel
theorem dX7_pay_20 : decode cX7_pay 20 = .ok (.bipush 10, 2) := by decide +kernel
theorem dX7_pay_22 : decode cX7_pay 22 = .ok (.irem, 1) := by decide +kernel
theorem dX7_pay_23 : decode cX7_pay 23 = .ok (.invokestatic 240, 3) := by decide +kernel
theorem dX7_pay_26 : decode cX7_pay 26 = .ok (.ifCond .ne 6, 3) := by decide +kernel
theorem dX7_pay_29 : decode cX7_pay 29 = .ok (.bipush (-5), 2) := by decide +kernel
theorem dX7_pay_31 : decode cX7_pay 31 = .ok (.ireturn, 1) := by decide +kernel
theorem dX7_pay_32 : decode cX7_pay 32 = .ok (.iload_n 3, 1) := by decide +kernel
theorem dX7_pay_33 : decode cX7_pay 33 = .ok (.iconst 0, 1) := by decide +kernel
theorem dX7_pay_34 : decode cX7_pay 34 = .ok (.sipush 9999, 3) := by decide +kernel
theorem dX7_pay_37 : decode cX7_pay 37 = .ok (.invokestatic 75, 3) := by decide +kernel
theorem dX7_pay_40 : decode cX7_pay 40 = .ok (.ifCond .ne 6, 3) := by decide +kernel
theorem dX7_pay_43 : decode cX7_pay 43 = .ok (.bipush (-7), 2) := by decide +kernel
theorem dX7_pay_45 : decode cX7_pay 45 = .ok (.ireturn, 1) := by decide +kernel
theorem dX7_pay_46 : decode cX7_pay 46 = .ok (.bipush 6, 2) := by decide +kernel
theorem dX7_pay_48 : decode cX7_pay 48 = .ok (.iload_n 2, 1) := by decide +kernel
theorem dX7_pay_49 : decode cX7_pay 49 = .ok (.bipush 10, 2) := by decide +kernel
theorem dX7_pay_51 : decode cX7_pay 51 = .ok (.idiv, 1) := by decide +kernel
theorem dX7_pay_52 : decode cX7_pay 52 = .ok (.imul, 1) := by decide +kernel
theorem dX7_pay_53 : decode cX7_pay 53 = .ok (.iload_n 2, 1) := by decide +kernel
theorem dX7_pay_54 : decode cX7_pay 54 = .ok (.bipush 10, 2) := by decide +kernel
theorem dX7_pay_56 : decode cX7_pay 56 = .ok (.irem, 1) := by decide +kernel
theorem dX7_pay_57 : decode cX7_pay 57 = .ok (.iadd, 1) := by decide +kernel
theorem dX7_pay_58 : decode cX7_pay 58 = .ok (.istore 4, 2) := by decide +kernel
theorem dX7_pay_60 : decode cX7_pay 60 = .ok (.aload_n 0, 1) := by decide +kernel
theorem dX7_pay_61 : decode cX7_pay 61 = .ok (.getfield 23, 3) := by decide +kernel
theorem dX7_pay_64 : decode cX7_pay 64 = .ok (.iload 4, 2) := by decide +kernel
theorem dX7_pay_66 : decode cX7_pay 66 = .ok (.iaload, 1) := by decide +kernel
theorem dX7_pay_67 : decode cX7_pay 67 = .ok (.iload_n 3, 1) := by decide +kernel
theorem dX7_pay_68 : decode cX7_pay 68 = .ok (.if_icmp .ge 6, 3) := by decide +kernel
theorem dX7_pay_71 : decode cX7_pay 71 = .ok (.bipush (-3), 2) := by decide +kernel
theorem dX7_pay_73 : decode cX7_pay 73 = .ok (.ireturn, 1) := by decide +kernel
theorem dX7_pay_74 : decode cX7_pay 74 = .ok (.aload_n 0, 1) := by decide +kernel
theorem dX7_pay_75 : decode cX7_pay 75 = .ok (.getfield 23, 3) := by decide +kernel
theorem dX7_pay_78 : decode cX7_pay 78 = .ok (.iload 4, 2) := by decide +kernel
theorem dX7_pay_80 : decode cX7_pay 80 = .ok (.dup2, 1) := by decide +kernel
theorem dX7_pay_81 : decode cX7_pay 81 = .ok (.iaload, 1) := by decide +kernel
theorem dX7_pay_82 : decode cX7_pay 82 = .ok (.iload_n 3, 1) := by decide +kernel
theorem dX7_pay_83 : decode cX7_pay 83 = .ok (.isub, 1) := by decide +kernel
theorem dX7_pay_84 : decode cX7_pay 84 = .ok (.iastore, 1) := by decide +kernel
theorem dX7_pay_85 : decode cX7_pay 85 = .ok (.aload_n 0, 1) := by decide +kernel
theorem dX7_pay_86 : decode cX7_pay 86 = .ok (.getfield 23, 3) := by decide +kernel
theorem dX7_pay_89 : decode cX7_pay 89 = .ok (.iload 4, 2) := by decide +kernel
theorem dX7_pay_91 : decode cX7_pay 91 = .ok (.aload_n 0, 1) := by decide +kernel
theorem dX7_pay_92 : decode cX7_pay 92 = .ok (.getfield 23, 3) := by decide +kernel
theorem dX7_pay_95 : decode cX7_pay 95 = .ok (.iload 4, 2) := by decide +kernel
theorem dX7_pay_97 : decode cX7_pay 97 = .ok (.iaload, 1) := by decide +kernel
theorem dX7_pay_98 : decode cX7_pay 98 = .ok (.ifCond .ne 19, 3) := by decide +kernel
theorem dX7_pay_101 : decode cX7_pay 101 = .ok (.aload_n 0, 1) := by decide +kernel
theorem dX7_pay_102 : decode cX7_pay 102 = .ok (.iload_n 1, 1) := by decide +kernel
theorem dX7_pay_103 : decode cX7_pay 103 = .ok (.iconst 0, 1) := by decide +kernel
theorem dX7_pay_104 : decode cX7_pay 104 = .ok (.invokevirtual 178, 3) := by decide +kernel
theorem dX7_pay_107 : decode cX7_pay 107 = .ok (.iconst 0, 1) := by decide +kernel
theorem dX7_pay_108 : decode cX7_pay 108 = .ok (.sipush 9999, 3) := by decide +kernel
theorem dX7_pay_111 : decode cX7_pay 111 = .ok (.invokestatic 156, 3) := by decide +kernel
theorem dX7_pay_114 : decode cX7_pay 114 = .ok (.goto 10, 3) := by decide +kernel
theorem dX7_pay_117 : decode cX7_pay 117 = .ok (.aload_n 0, 1) := by decide +kernel
theorem dX7_pay_118 : decode cX7_pay 118 = .ok (.getfield 23, 3) := by decide +kernel
theorem dX7_pay_121 : decode cX7_pay 121 = .ok (.iload 4, 2) := by decide +kernel
theorem dX7_pay_123 : decode cX7_pay 123 = .ok (.iaload, 1) := by decide +kernel
theorem dX7_pay_124 : decode cX7_pay 124 = .ok (.iastore, 1) := by decide +kernel
theorem dX7_pay_125 : decode cX7_pay 125 = .ok (.aload_n 0, 1) := by decide +kernel
theorem dX7_pay_126 : decode cX7_pay 126 = .ok (.getfield 23, 3) := by decide +kernel
theorem dX7_pay_129 : decode cX7_pay 129 = .ok (.iload 4, 2) := by decide +kernel
theorem dX7_pay_131 : decode cX7_pay 131 = .ok (.iaload, 1) := by decide +kernel
theorem dX7_pay_132 : decode cX7_pay 132 = .ok (.ireturn, 1) := by decide +kernel
theorem dX7_reachedFrom_0 : decode cX7_reachedFrom 0 = .ok (.iconst 0, 1) := by decide +kernel
theorem dX7_reachedFrom_1 : decode cX7_reachedFrom 1 = .ok (.istore_n 2, 1) := by decide +kernel
theorem dX7_reachedFrom_2 : decode cX7_reachedFrom 2 = .ok (.iconst 0, 1) := by decide +kernel
theorem dX7_reachedFrom_3 : decode cX7_reachedFrom 3 = .ok (.istore_n 3, 1) := by decide +kernel
theorem dX7_reachedFrom_4 : decode cX7_reachedFrom 4 = .ok (.iload_n 3, 1) := by decide +kernel
theorem dX7_reachedFrom_5 : decode cX7_reachedFrom 5 = .ok (.bipush 6, 2) := by decide +kernel
theorem dX7_reachedFrom_7 : decode cX7_reachedFrom 7 = .ok (.if_icmp .ge 96, 3) := by decide +kernel
theorem dX7_reachedFrom_10 : decode cX7_reachedFrom 10 = .ok (.iconst 0, 1) := by decide +kernel
theorem dX7_reachedFrom_11 : decode cX7_reachedFrom 11 = .ok (.istore 4, 2) := by decide +kernel
theorem dX7_reachedFrom_13 : decode cX7_reachedFrom 13 = .ok (.iload 4, 2) := by decide +kernel
theorem dX7_reachedFrom_15 : decode cX7_reachedFrom 15 = .ok (.bipush 6, 2) := by decide +kernel
theorem dX7_reachedFrom_17 : decode cX7_reachedFrom 17 = .ok (.if_icmp .ge 80, 3) := by decide +kernel
theorem dX7_reachedFrom_20 : decode cX7_reachedFrom 20 = .ok (.iconst 0, 1) := by decide +kernel
theorem dX7_reachedFrom_21 : decode cX7_reachedFrom 21 = .ok (.istore 5, 2) := by decide +kernel
theorem dX7_reachedFrom_23 : decode cX7_reachedFrom 23 = .ok (.iload 5, 2) := by decide +kernel
theorem dX7_reachedFrom_25 : decode cX7_reachedFrom 25 = .ok (.bipush 6, 2) := by decide +kernel
theorem dX7_reachedFrom_27 : decode cX7_reachedFrom 27 = .ok (.if_icmp .ge 64, 3) := by decide +kernel
theorem dX7_reachedFrom_30 : decode cX7_reachedFrom 30 = .ok (.iload 4, 2) := by decide +kernel
theorem dX7_reachedFrom_32 : decode cX7_reachedFrom 32 = .ok (.iload_n 1, 1) := by decide +kernel
theorem dX7_reachedFrom_33 : decode cX7_reachedFrom 33 = .ok (.if_icmp .eq 13, 3) := by decide +kernel
theorem dX7_reachedFrom_36 : decode cX7_reachedFrom 36 = .ok (.iload_n 2, 1) := by decide +kernel
theorem dX7_reachedFrom_37 : decode cX7_reachedFrom 37 = .ok (.iload 4, 2) := by decide +kernel
theorem dX7_reachedFrom_39 : decode cX7_reachedFrom 39 = .ok (.ishr, 1) := by decide +kernel
theorem dX7_reachedFrom_40 : decode cX7_reachedFrom 40 = .ok (.iconst 1, 1) := by decide +kernel
theorem dX7_reachedFrom_41 : decode cX7_reachedFrom 41 = .ok (.iand, 1) := by decide +kernel
theorem dX7_reachedFrom_42 : decode cX7_reachedFrom 42 = .ok (.iconst 1, 1) := by decide +kernel
theorem dX7_reachedFrom_43 : decode cX7_reachedFrom 43 = .ok (.if_icmp .ne 23, 3) := by decide +kernel
theorem dX7_reachedFrom_46 : decode cX7_reachedFrom 46 = .ok (.aload_n 0, 1) := by decide +kernel
theorem dX7_reachedFrom_47 : decode cX7_reachedFrom 47 = .ok (.getfield 23, 3) := by decide +kernel
theorem dX7_reachedFrom_50 : decode cX7_reachedFrom 50 = .ok (.bipush 6, 2) := by decide +kernel
theorem dX7_reachedFrom_52 : decode cX7_reachedFrom 52 = .ok (.iload 4, 2) := by decide +kernel
theorem dX7_reachedFrom_54 : decode cX7_reachedFrom 54 = .ok (.imul, 1) := by decide +kernel
theorem dX7_reachedFrom_55 : decode cX7_reachedFrom 55 = .ok (.iload 5, 2) := by decide +kernel
theorem dX7_reachedFrom_57 : decode cX7_reachedFrom 57 = .ok (.iadd, 1) := by decide +kernel
theorem dX7_reachedFrom_58 : decode cX7_reachedFrom 58 = .ok (.iaload, 1) := by decide +kernel
theorem dX7_reachedFrom_59 : decode cX7_reachedFrom 59 = .ok (.ifCond .le 7, 3) := by decide +kernel
theorem dX7_reachedFrom_62 : decode cX7_reachedFrom 62 = .ok (.iconst 1, 1) := by decide +kernel
theorem dX7_reachedFrom_63 : decode cX7_reachedFrom 63 = .ok (.goto 4, 3) := by decide +kernel
theorem dX7_reachedFrom_66 : decode cX7_reachedFrom 66 = .ok (.iconst 0, 1) := by decide +kernel
theorem dX7_reachedFrom_67 : decode cX7_reachedFrom 67 = .ok (.istore 6, 2) := by decide +kernel
theorem dX7_reachedFrom_69 : decode cX7_reachedFrom 69 = .ok (.iload_n 2, 1) := by decide +kernel
theorem dX7_reachedFrom_70 : decode cX7_reachedFrom 70 = .ok (.iload 6, 2) := by decide +kernel
theorem dX7_reachedFrom_72 : decode cX7_reachedFrom 72 = .ok (.ifCond .eq 10, 3) := by decide +kernel
theorem dX7_reachedFrom_75 : decode cX7_reachedFrom 75 = .ok (.iconst 1, 1) := by decide +kernel
theorem dX7_reachedFrom_76 : decode cX7_reachedFrom 76 = .ok (.iload 5, 2) := by decide +kernel
theorem dX7_reachedFrom_78 : decode cX7_reachedFrom 78 = .ok (.ishl, 1) := by decide +kernel
theorem dX7_reachedFrom_79 : decode cX7_reachedFrom 79 = .ok (.goto 4, 3) := by decide +kernel
theorem dX7_reachedFrom_82 : decode cX7_reachedFrom 82 = .ok (.iconst 0, 1) := by decide +kernel
theorem dX7_reachedFrom_83 : decode cX7_reachedFrom 83 = .ok (.ior, 1) := by decide +kernel
theorem dX7_reachedFrom_84 : decode cX7_reachedFrom 84 = .ok (.istore_n 2, 1) := by decide +kernel
theorem dX7_reachedFrom_85 : decode cX7_reachedFrom 85 = .ok (.iinc 5 1, 3) := by decide +kernel
theorem dX7_reachedFrom_88 : decode cX7_reachedFrom 88 = .ok (.goto (-65), 3) := by decide +kernel
theorem dX7_reachedFrom_91 : decode cX7_reachedFrom 91 = .ok (.iinc 4 1, 3) := by decide +kernel
theorem dX7_reachedFrom_94 : decode cX7_reachedFrom 94 = .ok (.goto (-81), 3) := by decide +kernel
theorem dX7_reachedFrom_97 : decode cX7_reachedFrom 97 = .ok (.iinc 3 1, 3) := by decide +kernel
theorem dX7_reachedFrom_100 : decode cX7_reachedFrom 100 = .ok (.goto (-96), 3) := by decide +kernel
theorem dX7_reachedFrom_103 : decode cX7_reachedFrom 103 = .ok (.iload_n 2, 1) := by decide +kernel
theorem dX7_reachedFrom_104 : decode cX7_reachedFrom 104 = .ok (.ireturn, 1) := by decide +kernel
theorem dX7_ringsNow_0 : decode cX7_ringsNow 0 = .ok (.iconst 0, 1) := by decide +kernel
theorem dX7_ringsNow_1 : decode cX7_ringsNow 1 = .ok (.istore_n 1, 1) := by decide +kernel
theorem dX7_ringsNow_2 : decode cX7_ringsNow 2 = .ok (.iconst 0, 1) := by decide +kernel
theorem dX7_ringsNow_3 : decode cX7_ringsNow 3 = .ok (.istore_n 2, 1) := by decide +kernel
theorem dX7_ringsNow_4 : decode cX7_ringsNow 4 = .ok (.iload_n 2, 1) := by decide +kernel
theorem dX7_ringsNow_5 : decode cX7_ringsNow 5 = .ok (.bipush 6, 2) := by decide +kernel
theorem dX7_ringsNow_7 : decode cX7_ringsNow 7 = .ok (.if_icmp .ge 21, 3) := by decide +kernel
theorem dX7_ringsNow_10 : decode cX7_ringsNow 10 = .ok (.iload_n 1, 1) := by decide +kernel
theorem dX7_ringsNow_11 : decode cX7_ringsNow 11 = .ok (.aload_n 0, 1) := by decide +kernel
theorem dX7_ringsNow_12 : decode cX7_ringsNow 12 = .ok (.iload_n 2, 1) := by decide +kernel
theorem dX7_ringsNow_13 : decode cX7_ringsNow 13 = .ok (.invokevirtual 244, 3) := by decide +kernel
theorem dX7_ringsNow_16 : decode cX7_ringsNow 16 = .ok (.iconst 1, 1) := by decide +kernel
theorem dX7_ringsNow_17 : decode cX7_ringsNow 17 = .ok (.iload_n 2, 1) := by decide +kernel
theorem dX7_ringsNow_18 : decode cX7_ringsNow 18 = .ok (.ishl, 1) := by decide +kernel
theorem dX7_ringsNow_19 : decode cX7_ringsNow 19 = .ok (.iand, 1) := by decide +kernel
theorem dX7_ringsNow_20 : decode cX7_ringsNow 20 = .ok (.ior, 1) := by decide +kernel
theorem dX7_ringsNow_21 : decode cX7_ringsNow 21 = .ok (.istore_n 1, 1) := by decide +kernel
theorem dX7_ringsNow_22 : decode cX7_ringsNow 22 = .ok (.iinc 2 1, 3) := by decide +kernel
theorem dX7_ringsNow_25 : decode cX7_ringsNow 25 = .ok (.goto (-21), 3) := by decide +kernel
theorem dX7_ringsNow_28 : decode cX7_ringsNow 28 = .ok (.iload_n 1, 1) := by decide +kernel
theorem dX7_ringsNow_29 : decode cX7_ringsNow 29 = .ok (.ireturn, 1) := by decide +kernel
theorem dX7_rings_0 : decode cX7_rings 0 = .ok (.aload_n 0, 1) := by decide +kernel
theorem dX7_rings_1 : decode cX7_rings 1 = .ok (.invokevirtual 247, 3) := by decide +kernel
theorem dX7_rings_4 : decode cX7_rings 4 = .ok (.ireturn, 1) := by decide +kernel
theorem dX7_least_0 : decode cX7_least 0 = .ok (.iload_n 0, 1) := by decide +kernel
theorem dX7_least_1 : decode cX7_least 1 = .ok (.iload_n 1, 1) := by decide +kernel
theorem dX7_least_2 : decode cX7_least 2 = .ok (.if_icmp .ge 7, 3) := by decide +kernel
theorem dX7_least_5 : decode cX7_least 5 = .ok (.iload_n 0, 1) := by decide +kernel
theorem dX7_least_6 : decode cX7_least 6 = .ok (.goto 4, 3) := by decide +kernel
theorem dX7_least_9 : decode cX7_least 9 = .ok (.iload_n 1, 1) := by decide +kernel
theorem dX7_least_10 : decode cX7_least 10 = .ok (.ireturn, 1) := by decide +kernel
theorem dX7_clear_0 : decode cX7_clear 0 = .ok (.iconst 0, 1) := by decide +kernel
theorem dX7_clear_1 : decode cX7_clear 1 = .ok (.istore_n 1, 1) := by decide +kernel
theorem dX7_clear_2 : decode cX7_clear 2 = .ok (.iconst 0, 1) := by decide +kernel
theorem dX7_clear_3 : decode cX7_clear 3 = .ok (.istore_n 2, 1) := by decide +kernel
theorem dX7_clear_4 : decode cX7_clear 4 = .ok (.iload_n 2, 1) := by decide +kernel
theorem dX7_clear_5 : decode cX7_clear 5 = .ok (.bipush 6, 2) := by decide +kernel
theorem dX7_clear_7 : decode cX7_clear 7 = .ok (.if_icmp .ge 91, 3) := by decide +kernel
theorem dX7_clear_10 : decode cX7_clear 10 = .ok (.iload_n 2, 1) := by decide +kernel
theorem dX7_clear_11 : decode cX7_clear 11 = .ok (.iconst 1, 1) := by decide +kernel
theorem dX7_clear_12 : decode cX7_clear 12 = .ok (.iadd, 1) := by decide +kernel
theorem dX7_clear_13 : decode cX7_clear 13 = .ok (.istore_n 3, 1) := by decide +kernel
theorem dX7_clear_14 : decode cX7_clear 14 = .ok (.iload_n 3, 1) := by decide +kernel
theorem dX7_clear_15 : decode cX7_clear 15 = .ok (.bipush 6, 2) := by decide +kernel
theorem dX7_clear_17 : decode cX7_clear 17 = .ok (.if_icmp .ge 75, 3) := by decide +kernel
theorem dX7_clear_20 : decode cX7_clear 20 = .ok (.aload_n 0, 1) := by decide +kernel
theorem dX7_clear_21 : decode cX7_clear 21 = .ok (.getfield 23, 3) := by decide +kernel
theorem dX7_clear_24 : decode cX7_clear 24 = .ok (.bipush 6, 2) := by decide +kernel
theorem dX7_clear_26 : decode cX7_clear 26 = .ok (.iload_n 2, 1) := by decide +kernel
theorem dX7_clear_27 : decode cX7_clear 27 = .ok (.imul, 1) := by decide +kernel
theorem dX7_clear_28 : decode cX7_clear 28 = .ok (.iload_n 3, 1) := by decide +kernel
theorem dX7_clear_29 : decode cX7_clear 29 = .ok (.iadd, 1) := by decide +kernel
theorem dX7_clear_30 : decode cX7_clear 30 = .ok (.iaload, 1) := by decide +kernel
theorem dX7_clear_31 : decode cX7_clear 31 = .ok (.aload_n 0, 1) := by decide +kernel
theorem dX7_clear_32 : decode cX7_clear 32 = .ok (.getfield 23, 3) := by decide +kernel
theorem dX7_clear_35 : decode cX7_clear 35 = .ok (.bipush 6, 2) := by decide +kernel
theorem dX7_clear_37 : decode cX7_clear 37 = .ok (.iload_n 3, 1) := by decide +kernel
theorem dX7_clear_38 : decode cX7_clear 38 = .ok (.imul, 1) := by decide +kernel
theorem dX7_clear_39 : decode cX7_clear 39 = .ok (.iload_n 2, 1) := by decide +kernel
theorem dX7_clear_40 : decode cX7_clear 40 = .ok (.iadd, 1) := by decide +kernel
theorem dX7_clear_41 : decode cX7_clear 41 = .ok (.iaload, 1) := by decide +kernel
theorem dX7_clear_42 : decode cX7_clear 42 = .ok (.invokestatic 250, 3) := by decide +kernel
theorem dX7_clear_45 : decode cX7_clear 45 = .ok (.istore 4, 2) := by decide +kernel
theorem dX7_clear_47 : decode cX7_clear 47 = .ok (.aload_n 0, 1) := by decide +kernel
theorem dX7_clear_48 : decode cX7_clear 48 = .ok (.getfield 23, 3) := by decide +kernel
theorem dX7_clear_51 : decode cX7_clear 51 = .ok (.bipush 6, 2) := by decide +kernel
theorem dX7_clear_53 : decode cX7_clear 53 = .ok (.iload_n 2, 1) := by decide +kernel
theorem dX7_clear_54 : decode cX7_clear 54 = .ok (.imul, 1) := by decide +kernel
theorem dX7_clear_55 : decode cX7_clear 55 = .ok (.iload_n 3, 1) := by decide +kernel
theorem dX7_clear_56 : decode cX7_clear 56 = .ok (.iadd, 1) := by decide +kernel
theorem dX7_clear_57 : decode cX7_clear 57 = .ok (.dup2, 1) := by decide +kernel
theorem dX7_clear_58 : decode cX7_clear 58 = .ok (.iaload, 1) := by decide +kernel
theorem dX7_clear_59 : decode cX7_clear 59 = .ok (.iload 4, 2) := by decide +kernel
theorem dX7_clear_61 : decode cX7_clear 61 = .ok (.isub, 1) := by decide +kernel
theorem dX7_clear_62 : decode cX7_clear 62 = .ok (.iastore, 1) := by decide +kernel
theorem dX7_clear_63 : decode cX7_clear 63 = .ok (.aload_n 0, 1) := by decide +kernel
theorem dX7_clear_64 : decode cX7_clear 64 = .ok (.getfield 23, 3) := by decide +kernel
theorem dX7_clear_67 : decode cX7_clear 67 = .ok (.bipush 6, 2) := by decide +kernel
theorem dX7_clear_69 : decode cX7_clear 69 = .ok (.iload_n 3, 1) := by decide +kernel
theorem dX7_clear_70 : decode cX7_clear 70 = .ok (.imul, 1) := by decide +kernel
theorem dX7_clear_71 : decode cX7_clear 71 = .ok (.iload_n 2, 1) := by decide +kernel
theorem dX7_clear_72 : decode cX7_clear 72 = .ok (.iadd, 1) := by decide +kernel
theorem dX7_clear_73 : decode cX7_clear 73 = .ok (.dup2, 1) := by decide +kernel
theorem dX7_clear_74 : decode cX7_clear 74 = .ok (.iaload, 1) := by decide +kernel
theorem dX7_clear_75 : decode cX7_clear 75 = .ok (.iload 4, 2) := by decide +kernel
theorem dX7_clear_77 : decode cX7_clear 77 = .ok (.isub, 1) := by decide +kernel
theorem dX7_clear_78 : decode cX7_clear 78 = .ok (.iastore, 1) := by decide +kernel
theorem dX7_clear_79 : decode cX7_clear 79 = .ok (.iload_n 1, 1) := by decide +kernel
theorem dX7_clear_80 : decode cX7_clear 80 = .ok (.iconst 2, 1) := by decide +kernel
theorem dX7_clear_81 : decode cX7_clear 81 = .ok (.iload 4, 2) := by decide +kernel
theorem dX7_clear_83 : decode cX7_clear 83 = .ok (.imul, 1) := by decide +kernel
theorem dX7_clear_84 : decode cX7_clear 84 = .ok (.iadd, 1) := by decide +kernel
theorem dX7_clear_85 : decode cX7_clear 85 = .ok (.istore_n 1, 1) := by decide +kernel
theorem dX7_clear_86 : decode cX7_clear 86 = .ok (.iinc 3 1, 3) := by decide +kernel
theorem dX7_clear_89 : decode cX7_clear 89 = .ok (.goto (-75), 3) := by decide +kernel
theorem dX7_clear_92 : decode cX7_clear 92 = .ok (.iinc 2 1, 3) := by decide +kernel
theorem dX7_clear_95 : decode cX7_clear 95 = .ok (.goto (-91), 3) := by decide +kernel
theorem dX7_clear_98 : decode cX7_clear 98 = .ok (.iconst 0, 1) := by decide +kernel
theorem dX7_clear_99 : decode cX7_clear 99 = .ok (.istore_n 2, 1) := by decide +kernel
theorem dX7_clear_100 : decode cX7_clear 100 = .ok (.iload_n 2, 1) := by decide +kernel
theorem dX7_clear_101 : decode cX7_clear 101 = .ok (.sipush 216, 3) := by decide +kernel
theorem dX7_clear_104 : decode cX7_clear 104 = .ok (.if_icmp .ge 152, 3) := by decide +kernel
theorem dX7_clear_107 : decode cX7_clear 107 = .ok (.iload_n 2, 1) := by decide +kernel
theorem dX7_clear_108 : decode cX7_clear 108 = .ok (.bipush 36, 2) := by decide +kernel
theorem dX7_clear_110 : decode cX7_clear 110 = .ok (.idiv, 1) := by decide +kernel
theorem dX7_clear_111 : decode cX7_clear 111 = .ok (.istore_n 3, 1) := by decide +kernel
theorem dX7_clear_112 : decode cX7_clear 112 = .ok (.iload_n 2, 1) := by decide +kernel
theorem dX7_clear_113 : decode cX7_clear 113 = .ok (.bipush 6, 2) := by decide +kernel
theorem dX7_clear_115 : decode cX7_clear 115 = .ok (.idiv, 1) := by decide +kernel
theorem dX7_clear_116 : decode cX7_clear 116 = .ok (.bipush 6, 2) := by decide +kernel
theorem dX7_clear_118 : decode cX7_clear 118 = .ok (.irem, 1) := by decide +kernel
theorem dX7_clear_119 : decode cX7_clear 119 = .ok (.istore 4, 2) := by decide +kernel
theorem dX7_clear_121 : decode cX7_clear 121 = .ok (.iload_n 2, 1) := by decide +kernel
theorem dX7_clear_122 : decode cX7_clear 122 = .ok (.bipush 6, 2) := by decide +kernel
theorem dX7_clear_124 : decode cX7_clear 124 = .ok (.irem, 1) := by decide +kernel
theorem dX7_clear_125 : decode cX7_clear 125 = .ok (.istore 5, 2) := by decide +kernel
theorem dX7_clear_127 : decode cX7_clear 127 = .ok (.iload_n 3, 1) := by decide +kernel
theorem dX7_clear_128 : decode cX7_clear 128 = .ok (.iload 4, 2) := by decide +kernel
theorem dX7_clear_130 : decode cX7_clear 130 = .ok (.if_icmp .eq 120, 3) := by decide +kernel
theorem dX7_clear_133 : decode cX7_clear 133 = .ok (.iload 4, 2) := by decide +kernel
theorem dX7_clear_135 : decode cX7_clear 135 = .ok (.iload 5, 2) := by decide +kernel
theorem dX7_clear_137 : decode cX7_clear 137 = .ok (.if_icmp .eq 113, 3) := by decide +kernel
theorem dX7_clear_140 : decode cX7_clear 140 = .ok (.iload_n 3, 1) := by decide +kernel
theorem dX7_clear_141 : decode cX7_clear 141 = .ok (.iload 5, 2) := by decide +kernel
theorem dX7_clear_143 : decode cX7_clear 143 = .ok (.if_icmp .eq 107, 3) := by decide +kernel
theorem dX7_clear_146 : decode cX7_clear 146 = .ok (.aload_n 0, 1) := by decide +kernel
theorem dX7_clear_147 : decode cX7_clear 147 = .ok (.getfield 23, 3) := by decide +kernel
theorem dX7_clear_150 : decode cX7_clear 150 = .ok (.bipush 6, 2) := by decide +kernel
theorem dX7_clear_152 : decode cX7_clear 152 = .ok (.iload_n 3, 1) := by decide +kernel
theorem dX7_clear_153 : decode cX7_clear 153 = .ok (.imul, 1) := by decide +kernel
theorem dX7_clear_154 : decode cX7_clear 154 = .ok (.iload 4, 2) := by decide +kernel
theorem dX7_clear_156 : decode cX7_clear 156 = .ok (.iadd, 1) := by decide +kernel
theorem dX7_clear_157 : decode cX7_clear 157 = .ok (.iaload, 1) := by decide +kernel
theorem dX7_clear_158 : decode cX7_clear 158 = .ok (.aload_n 0, 1) := by decide +kernel
theorem dX7_clear_159 : decode cX7_clear 159 = .ok (.getfield 23, 3) := by decide +kernel
theorem dX7_clear_162 : decode cX7_clear 162 = .ok (.bipush 6, 2) := by decide +kernel
theorem dX7_clear_164 : decode cX7_clear 164 = .ok (.iload 4, 2) := by decide +kernel
theorem dX7_clear_166 : decode cX7_clear 166 = .ok (.imul, 1) := by decide +kernel
theorem dX7_clear_167 : decode cX7_clear 167 = .ok (.iload 5, 2) := by decide +kernel
theorem dX7_clear_169 : decode cX7_clear 169 = .ok (.iadd, 1) := by decide +kernel
theorem dX7_clear_170 : decode cX7_clear 170 = .ok (.iaload, 1) := by decide +kernel
theorem dX7_clear_171 : decode cX7_clear 171 = .ok (.aload_n 0, 1) := by decide +kernel
theorem dX7_clear_172 : decode cX7_clear 172 = .ok (.getfield 23, 3) := by decide +kernel
theorem dX7_clear_175 : decode cX7_clear 175 = .ok (.bipush 6, 2) := by decide +kernel
theorem dX7_clear_177 : decode cX7_clear 177 = .ok (.iload 5, 2) := by decide +kernel
theorem dX7_clear_179 : decode cX7_clear 179 = .ok (.imul, 1) := by decide +kernel
theorem dX7_clear_180 : decode cX7_clear 180 = .ok (.iload_n 3, 1) := by decide +kernel
theorem dX7_clear_181 : decode cX7_clear 181 = .ok (.iadd, 1) := by decide +kernel
theorem dX7_clear_182 : decode cX7_clear 182 = .ok (.iaload, 1) := by decide +kernel
theorem dX7_clear_183 : decode cX7_clear 183 = .ok (.invokestatic 250, 3) := by decide +kernel
theorem dX7_clear_186 : decode cX7_clear 186 = .ok (.invokestatic 250, 3) := by decide +kernel
theorem dX7_clear_189 : decode cX7_clear 189 = .ok (.istore 6, 2) := by decide +kernel
theorem dX7_clear_191 : decode cX7_clear 191 = .ok (.aload_n 0, 1) := by decide +kernel
theorem dX7_clear_192 : decode cX7_clear 192 = .ok (.getfield 23, 3) := by decide +kernel
theorem dX7_clear_195 : decode cX7_clear 195 = .ok (.bipush 6, 2) := by decide +kernel
theorem dX7_clear_197 : decode cX7_clear 197 = .ok (.iload_n 3, 1) := by decide +kernel
theorem dX7_clear_198 : decode cX7_clear 198 = .ok (.imul, 1) := by decide +kernel
theorem dX7_clear_199 : decode cX7_clear 199 = .ok (.iload 4, 2) := by decide +kernel
theorem dX7_clear_201 : decode cX7_clear 201 = .ok (.iadd, 1) := by decide +kernel
theorem dX7_clear_202 : decode cX7_clear 202 = .ok (.dup2, 1) := by decide +kernel
theorem dX7_clear_203 : decode cX7_clear 203 = .ok (.iaload, 1) := by decide +kernel
theorem dX7_clear_204 : decode cX7_clear 204 = .ok (.iload 6, 2) := by decide +kernel
theorem dX7_clear_206 : decode cX7_clear 206 = .ok (.isub, 1) := by decide +kernel
theorem dX7_clear_207 : decode cX7_clear 207 = .ok (.iastore, 1) := by decide +kernel
theorem dX7_clear_208 : decode cX7_clear 208 = .ok (.aload_n 0, 1) := by decide +kernel
theorem dX7_clear_209 : decode cX7_clear 209 = .ok (.getfield 23, 3) := by decide +kernel
theorem dX7_clear_212 : decode cX7_clear 212 = .ok (.bipush 6, 2) := by decide +kernel
theorem dX7_clear_214 : decode cX7_clear 214 = .ok (.iload 4, 2) := by decide +kernel
theorem dX7_clear_216 : decode cX7_clear 216 = .ok (.imul, 1) := by decide +kernel
theorem dX7_clear_217 : decode cX7_clear 217 = .ok (.iload 5, 2) := by decide +kernel
theorem dX7_clear_219 : decode cX7_clear 219 = .ok (.iadd, 1) := by decide +kernel
theorem dX7_clear_220 : decode cX7_clear 220 = .ok (.dup2, 1) := by decide +kernel
theorem dX7_clear_221 : decode cX7_clear 221 = .ok (.iaload, 1) := by decide +kernel
theorem dX7_clear_222 : decode cX7_clear 222 = .ok (.iload 6, 2) := by decide +kernel
theorem dX7_clear_224 : decode cX7_clear 224 = .ok (.isub, 1) := by decide +kernel
theorem dX7_clear_225 : decode cX7_clear 225 = .ok (.iastore, 1) := by decide +kernel
theorem dX7_clear_226 : decode cX7_clear 226 = .ok (.aload_n 0, 1) := by decide +kernel
theorem dX7_clear_227 : decode cX7_clear 227 = .ok (.getfield 23, 3) := by decide +kernel
theorem dX7_clear_230 : decode cX7_clear 230 = .ok (.bipush 6, 2) := by decide +kernel
theorem dX7_clear_232 : decode cX7_clear 232 = .ok (.iload 5, 2) := by decide +kernel
theorem dX7_clear_234 : decode cX7_clear 234 = .ok (.imul, 1) := by decide +kernel
theorem dX7_clear_235 : decode cX7_clear 235 = .ok (.iload_n 3, 1) := by decide +kernel
theorem dX7_clear_236 : decode cX7_clear 236 = .ok (.iadd, 1) := by decide +kernel
theorem dX7_clear_237 : decode cX7_clear 237 = .ok (.dup2, 1) := by decide +kernel
theorem dX7_clear_238 : decode cX7_clear 238 = .ok (.iaload, 1) := by decide +kernel
theorem dX7_clear_239 : decode cX7_clear 239 = .ok (.iload 6, 2) := by decide +kernel
theorem dX7_clear_241 : decode cX7_clear 241 = .ok (.isub, 1) := by decide +kernel
theorem dX7_clear_242 : decode cX7_clear 242 = .ok (.iastore, 1) := by decide +kernel
theorem dX7_clear_243 : decode cX7_clear 243 = .ok (.iload_n 1, 1) := by decide +kernel
theorem dX7_clear_244 : decode cX7_clear 244 = .ok (.iconst 3, 1) := by decide +kernel
theorem dX7_clear_245 : decode cX7_clear 245 = .ok (.iload 6, 2) := by decide +kernel
theorem dX7_clear_247 : decode cX7_clear 247 = .ok (.imul, 1) := by decide +kernel
theorem dX7_clear_248 : decode cX7_clear 248 = .ok (.iadd, 1) := by decide +kernel
theorem dX7_clear_249 : decode cX7_clear 249 = .ok (.istore_n 1, 1) := by decide +kernel
theorem dX7_clear_250 : decode cX7_clear 250 = .ok (.iinc 2 1, 3) := by decide +kernel
theorem dX7_clear_253 : decode cX7_clear 253 = .ok (.goto (-153), 3) := by decide +kernel
theorem dX7_clear_256 : decode cX7_clear 256 = .ok (.iload_n 1, 1) := by decide +kernel
theorem dX7_clear_257 : decode cX7_clear 257 = .ok (.ireturn, 1) := by decide +kernel
theorem dX7_forgive_0 : decode cX7_forgive 0 = .ok (.iload_n 1, 1) := by decide +kernel
theorem dX7_forgive_1 : decode cX7_forgive 1 = .ok (.iconst 0, 1) := by decide +kernel
theorem dX7_forgive_2 : decode cX7_forgive 2 = .ok (.iconst 1, 1) := by decide +kernel
theorem dX7_forgive_3 : decode cX7_forgive 3 = .ok (.invokestatic 75, 3) := by decide +kernel
theorem dX7_forgive_6 : decode cX7_forgive 6 = .ok (.ifCond .ne 6, 3) := by decide +kernel
theorem dX7_forgive_9 : decode cX7_forgive 9 = .ok (.bipush (-2), 2) := by decide +kernel
theorem dX7_forgive_11 : decode cX7_forgive 11 = .ok (.ireturn, 1) := by decide +kernel
theorem dX7_forgive_12 : decode cX7_forgive 12 = .ok (.iconst (-1), 1) := by decide +kernel
theorem dX7_forgive_13 : decode cX7_forgive 13 = .ok (.istore_n 2, 1) := by decide +kernel
theorem dX7_forgive_14 : decode cX7_forgive 14 = .ok (.aload_n 0, 1) := by decide +kernel
theorem dX7_forgive_15 : decode cX7_forgive 15 = .ok (.invokevirtual 247, 3) := by decide +kernel
theorem dX7_forgive_18 : decode cX7_forgive 18 = .ok (.invokestatic 253, 3) := by decide +kernel
theorem dX7_forgive_21 : decode cX7_forgive 21 = .ok (.istore_n 3, 1) := by decide +kernel
theorem dX7_forgive_22 : decode cX7_forgive 22 = .ok (.iconst 0, 1) := by decide +kernel
theorem dX7_forgive_23 : decode cX7_forgive 23 = .ok (.istore 4, 2) := by decide +kernel
theorem dX7_forgive_25 : decode cX7_forgive 25 = .ok (.iload 4, 2) := by decide +kernel
theorem dX7_forgive_27 : decode cX7_forgive 27 = .ok (.bipush 36, 2) := by decide +kernel
theorem dX7_forgive_29 : decode cX7_forgive 29 = .ok (.if_icmp .ge 82, 3) := by decide +kernel
theorem dX7_forgive_32 : decode cX7_forgive 32 = .ok (.aload_n 0, 1) := by decide +kernel
theorem dX7_forgive_33 : decode cX7_forgive 33 = .ok (.getfield 23, 3) := by decide +kernel
theorem dX7_forgive_36 : decode cX7_forgive 36 = .ok (.iload 4, 2) := by decide +kernel
theorem dX7_forgive_38 : decode cX7_forgive 38 = .ok (.iaload, 1) := by decide +kernel
theorem dX7_forgive_39 : decode cX7_forgive 39 = .ok (.istore 5, 2) := by decide +kernel
theorem dX7_forgive_41 : decode cX7_forgive 41 = .ok (.aload_n 0, 1) := by decide +kernel
theorem dX7_forgive_42 : decode cX7_forgive 42 = .ok (.getfield 23, 3) := by decide +kernel
theorem dX7_forgive_45 : decode cX7_forgive 45 = .ok (.iload 4, 2) := by decide +kernel
theorem dX7_forgive_47 : decode cX7_forgive 47 = .ok (.iconst 0, 1) := by decide +kernel
theorem dX7_forgive_48 : decode cX7_forgive 48 = .ok (.iastore, 1) := by decide +kernel
theorem dX7_forgive_49 : decode cX7_forgive 49 = .ok (.aload_n 0, 1) := by decide +kernel
theorem dX7_forgive_50 : decode cX7_forgive 50 = .ok (.invokevirtual 247, 3) := by decide +kernel
theorem dX7_forgive_53 : decode cX7_forgive 53 = .ok (.invokestatic 253, 3) := by decide +kernel
theorem dX7_forgive_56 : decode cX7_forgive 56 = .ok (.istore 6, 2) := by decide +kernel
theorem dX7_forgive_58 : decode cX7_forgive 58 = .ok (.aload_n 0, 1) := by decide +kernel
theorem dX7_forgive_59 : decode cX7_forgive 59 = .ok (.getfield 23, 3) := by decide +kernel
theorem dX7_forgive_62 : decode cX7_forgive 62 = .ok (.iload 4, 2) := by decide +kernel
theorem dX7_forgive_64 : decode cX7_forgive 64 = .ok (.iload 5, 2) := by decide +kernel
theorem dX7_forgive_66 : decode cX7_forgive 66 = .ok (.iastore, 1) := by decide +kernel
theorem dX7_forgive_67 : decode cX7_forgive 67 = .ok (.iload 6, 2) := by decide +kernel
theorem dX7_forgive_69 : decode cX7_forgive 69 = .ok (.iload_n 3, 1) := by decide +kernel
theorem dX7_forgive_70 : decode cX7_forgive 70 = .ok (.if_icmp .ge 20, 3) := by decide +kernel
theorem dX7_forgive_73 : decode cX7_forgive 73 = .ok (.bipush 10, 2) := by decide +kernel
theorem dX7_forgive_75 : decode cX7_forgive 75 = .ok (.iload 4, 2) := by decide +kernel
theorem dX7_forgive_77 : decode cX7_forgive 77 = .ok (.bipush 6, 2) := by decide +kernel
theorem dX7_forgive_79 : decode cX7_forgive 79 = .ok (.idiv, 1) := by decide +kernel
theorem dX7_forgive_80 : decode cX7_forgive 80 = .ok (.imul, 1) := by decide +kernel
theorem dX7_forgive_81 : decode cX7_forgive 81 = .ok (.iload 4, 2) := by decide +kernel
theorem dX7_forgive_83 : decode cX7_forgive 83 = .ok (.bipush 6, 2) := by decide +kernel
theorem dX7_forgive_85 : decode cX7_forgive 85 = .ok (.irem, 1) := by decide +kernel
theorem dX7_forgive_86 : decode cX7_forgive 86 = .ok (.iadd, 1) := by decide +kernel
theorem dX7_forgive_87 : decode cX7_forgive 87 = .ok (.goto 4, 3) := by decide +kernel
theorem dX7_forgive_90 : decode cX7_forgive 90 = .ok (.iload_n 2, 1) := by decide +kernel
theorem dX7_forgive_91 : decode cX7_forgive 91 = .ok (.istore_n 2, 1) := by decide +kernel
theorem dX7_forgive_92 : decode cX7_forgive 92 = .ok (.iload 6, 2) := by decide +kernel
theorem dX7_forgive_94 : decode cX7_forgive 94 = .ok (.iload_n 3, 1) := by decide +kernel
theorem dX7_forgive_95 : decode cX7_forgive 95 = .ok (.if_icmp .ge 8, 3) := by decide +kernel
theorem dX7_forgive_98 : decode cX7_forgive 98 = .ok (.iload 6, 2) := by decide +kernel
theorem dX7_forgive_100 : decode cX7_forgive 100 = .ok (.goto 4, 3) := by decide +kernel
theorem dX7_forgive_103 : decode cX7_forgive 103 = .ok (.iload_n 3, 1) := by decide +kernel
theorem dX7_forgive_104 : decode cX7_forgive 104 = .ok (.istore_n 3, 1) := by decide +kernel
theorem dX7_forgive_105 : decode cX7_forgive 105 = .ok (.iinc 4 1, 3) := by decide +kernel
theorem dX7_forgive_108 : decode cX7_forgive 108 = .ok (.goto (-83), 3) := by decide +kernel
theorem dX7_forgive_111 : decode cX7_forgive 111 = .ok (.iload_n 1, 1) := by decide +kernel
theorem dX7_forgive_112 : decode cX7_forgive 112 = .ok (.ifCond .ne 7, 3) := by decide +kernel
theorem dX7_forgive_115 : decode cX7_forgive 115 = .ok (.iload_n 2, 1) := by decide +kernel
theorem dX7_forgive_116 : decode cX7_forgive 116 = .ok (.goto 4, 3) := by decide +kernel
theorem dX7_forgive_119 : decode cX7_forgive 119 = .ok (.iload_n 3, 1) := by decide +kernel
theorem dX7_forgive_120 : decode cX7_forgive 120 = .ok (.ireturn, 1) := by decide +kernel
theorem dX7_asIfZero_0 : decode cX7_asIfZero 0 = .ok (.iload_n 0, 1) := by decide +kernel
theorem dX7_asIfZero_1 : decode cX7_asIfZero 1 = .ok (.ifCond .ge 9, 3) := by decide +kernel
theorem dX7_asIfZero_4 : decode cX7_asIfZero 4 = .ok (.iload_n 0, 1) := by decide +kernel
theorem dX7_asIfZero_5 : decode cX7_asIfZero 5 = .ok (.iconst 1, 1) := by decide +kernel
theorem dX7_asIfZero_6 : decode cX7_asIfZero 6 = .ok (.iadd, 1) := by decide +kernel
theorem dX7_asIfZero_7 : decode cX7_asIfZero 7 = .ok (.goto 4, 3) := by decide +kernel
theorem dX7_asIfZero_10 : decode cX7_asIfZero 10 = .ok (.iload_n 0, 1) := by decide +kernel
theorem dX7_asIfZero_11 : decode cX7_asIfZero 11 = .ok (.ireturn, 1) := by decide +kernel
theorem dX7_asYear_0 : decode cX7_asYear 0 = .ok (.iload_n 0, 1) := by decide +kernel
theorem dX7_asYear_1 : decode cX7_asYear 1 = .ok (.iconst 1, 1) := by decide +kernel
theorem dX7_asYear_2 : decode cX7_asYear 2 = .ok (.if_icmp .ge 9, 3) := by decide +kernel
theorem dX7_asYear_5 : decode cX7_asYear 5 = .ok (.iload_n 0, 1) := by decide +kernel
theorem dX7_asYear_6 : decode cX7_asYear 6 = .ok (.iconst 1, 1) := by decide +kernel
theorem dX7_asYear_7 : decode cX7_asYear 7 = .ok (.isub, 1) := by decide +kernel
theorem dX7_asYear_8 : decode cX7_asYear 8 = .ok (.goto 4, 3) := by decide +kernel
theorem dX7_asYear_11 : decode cX7_asYear 11 = .ok (.iload_n 0, 1) := by decide +kernel
theorem dX7_asYear_12 : decode cX7_asYear 12 = .ok (.ireturn, 1) := by decide +kernel
theorem dX7_span_0 : decode cX7_span 0 = .ok (.iload_n 1, 1) := by decide +kernel
theorem dX7_span_1 : decode cX7_span 1 = .ok (.invokestatic 86, 3) := by decide +kernel
theorem dX7_span_4 : decode cX7_span 4 = .ok (.ifCond .eq 22, 3) := by decide +kernel
theorem dX7_span_7 : decode cX7_span 7 = .ok (.iload_n 2, 1) := by decide +kernel
theorem dX7_span_8 : decode cX7_span 8 = .ok (.invokestatic 86, 3) := by decide +kernel
theorem dX7_span_11 : decode cX7_span 11 = .ok (.ifCond .eq 15, 3) := by decide +kernel
theorem dX7_span_14 : decode cX7_span 14 = .ok (.iload_n 2, 1) := by decide +kernel
theorem dX7_span_15 : decode cX7_span 15 = .ok (.invokestatic 256, 3) := by decide +kernel
theorem dX7_span_18 : decode cX7_span 18 = .ok (.iload_n 1, 1) := by decide +kernel
theorem dX7_span_19 : decode cX7_span 19 = .ok (.invokestatic 256, 3) := by decide +kernel
theorem dX7_span_22 : decode cX7_span 22 = .ok (.isub, 1) := by decide +kernel
theorem dX7_span_23 : decode cX7_span 23 = .ok (.goto 6, 3) := by decide +kernel
theorem dX7_span_26 : decode cX7_span 26 = .ok (.ldc_w 259, 3) := by decide +kernel
theorem dX7_span_29 : decode cX7_span 29 = .ok (.ireturn, 1) := by decide +kernel
theorem dX7_behind_0 : decode cX7_behind 0 = .ok (.iload_n 1, 1) := by decide +kernel
theorem dX7_behind_1 : decode cX7_behind 1 = .ok (.invokestatic 86, 3) := by decide +kernel
theorem dX7_behind_4 : decode cX7_behind 4 = .ok (.ifCond .eq 16, 3) := by decide +kernel
theorem dX7_behind_7 : decode cX7_behind 7 = .ok (.iload_n 2, 1) := by decide +kernel
theorem dX7_behind_8 : decode cX7_behind 8 = .ok (.sipush (-3000), 3) := by decide +kernel
theorem dX7_behind_11 : decode cX7_behind 11 = .ok (.sipush 3000, 3) := by decide +kernel
theorem dX7_behind_14 : decode cX7_behind 14 = .ok (.invokestatic 75, 3) := by decide +kernel
theorem dX7_behind_17 : decode cX7_behind 17 = .ok (.ifCond .ne 7, 3) := by decide +kernel
theorem dX7_behind_20 : decode cX7_behind 20 = .ok (.ldc_w 259, 3) := by decide +kernel
theorem dX7_behind_23 : decode cX7_behind 23 = .ok (.ireturn, 1) := by decide +kernel
theorem dX7_behind_24 : decode cX7_behind 24 = .ok (.iload_n 1, 1) := by decide +kernel
theorem dX7_behind_25 : decode cX7_behind 25 = .ok (.invokestatic 256, 3) := by decide +kernel
theorem dX7_behind_28 : decode cX7_behind 28 = .ok (.iload_n 2, 1) := by decide +kernel
theorem dX7_behind_29 : decode cX7_behind 29 = .ok (.iadd, 1) := by decide +kernel
theorem dX7_behind_30 : decode cX7_behind 30 = .ok (.invokestatic 260, 3) := by decide +kernel
theorem dX7_behind_33 : decode cX7_behind 33 = .ok (.istore_n 3, 1) := by decide +kernel
theorem dX7_behind_34 : decode cX7_behind 34 = .ok (.iload_n 3, 1) := by decide +kernel
theorem dX7_behind_35 : decode cX7_behind 35 = .ok (.invokestatic 86, 3) := by decide +kernel
theorem dX7_behind_38 : decode cX7_behind 38 = .ok (.ifCond .eq 7, 3) := by decide +kernel
theorem dX7_behind_41 : decode cX7_behind 41 = .ok (.iload_n 3, 1) := by decide +kernel
theorem dX7_behind_42 : decode cX7_behind 42 = .ok (.goto 6, 3) := by decide +kernel
theorem dX7_behind_45 : decode cX7_behind 45 = .ok (.ldc_w 263, 3) := by decide +kernel
theorem dX7_behind_48 : decode cX7_behind 48 = .ok (.ireturn, 1) := by decide +kernel
theorem dX7_lastFigure_0 : decode cX7_lastFigure 0 = .ok (.aload_n 0, 1) := by decide +kernel
theorem dX7_lastFigure_1 : decode cX7_lastFigure 1 = .ok (.iload_n 1, 1) := by decide +kernel
theorem dX7_lastFigure_2 : decode cX7_lastFigure 2 = .ok (.iload_n 2, 1) := by decide +kernel
theorem dX7_lastFigure_3 : decode cX7_lastFigure 3 = .ok (.ifCond .ge 8, 3) := by decide +kernel
theorem dX7_lastFigure_6 : decode cX7_lastFigure 6 = .ok (.iload_n 2, 1) := by decide +kernel
theorem dX7_lastFigure_7 : decode cX7_lastFigure 7 = .ok (.ineg, 1) := by decide +kernel
theorem dX7_lastFigure_8 : decode cX7_lastFigure 8 = .ok (.goto 4, 3) := by decide +kernel
theorem dX7_lastFigure_11 : decode cX7_lastFigure 11 = .ok (.iload_n 2, 1) := by decide +kernel
theorem dX7_lastFigure_12 : decode cX7_lastFigure 12 = .ok (.invokevirtual 186, 3) := by decide +kernel
theorem dX7_lastFigure_15 : decode cX7_lastFigure 15 = .ok (.aload_n 0, 1) := by decide +kernel
theorem dX7_lastFigure_16 : decode cX7_lastFigure 16 = .ok (.getfield 175, 3) := by decide +kernel
theorem dX7_lastFigure_19 : decode cX7_lastFigure 19 = .ok (.ifCond .ne 7, 3) := by decide +kernel
theorem dX7_lastFigure_22 : decode cX7_lastFigure 22 = .ok (.iconst 0, 1) := by decide +kernel
theorem dX7_lastFigure_23 : decode cX7_lastFigure 23 = .ok (.goto 14, 3) := by decide +kernel
theorem dX7_lastFigure_26 : decode cX7_lastFigure 26 = .ok (.aload_n 0, 1) := by decide +kernel
theorem dX7_lastFigure_27 : decode cX7_lastFigure 27 = .ok (.getfield 62, 3) := by decide +kernel
theorem dX7_lastFigure_30 : decode cX7_lastFigure 30 = .ok (.aload_n 0, 1) := by decide +kernel
theorem dX7_lastFigure_31 : decode cX7_lastFigure 31 = .ok (.getfield 175, 3) := by decide +kernel
theorem dX7_lastFigure_34 : decode cX7_lastFigure 34 = .ok (.iconst 1, 1) := by decide +kernel
theorem dX7_lastFigure_35 : decode cX7_lastFigure 35 = .ok (.isub, 1) := by decide +kernel
theorem dX7_lastFigure_36 : decode cX7_lastFigure 36 = .ok (.iaload, 1) := by decide +kernel
theorem dX7_lastFigure_37 : decode cX7_lastFigure 37 = .ok (.ireturn, 1) := by decide +kernel
theorem dX7_alike_0 : decode cX7_alike 0 = .ok (.aload_n 0, 1) := by decide +kernel
theorem dX7_alike_1 : decode cX7_alike 1 = .ok (.iload_n 1, 1) := by decide +kernel
theorem dX7_alike_2 : decode cX7_alike 2 = .ok (.invokevirtual 159, 3) := by decide +kernel
theorem dX7_alike_5 : decode cX7_alike 5 = .ok (.ifCond .ne 7, 3) := by decide +kernel
theorem dX7_alike_8 : decode cX7_alike 8 = .ok (.ldc_w 264, 3) := by decide +kernel
theorem dX7_alike_11 : decode cX7_alike 11 = .ok (.ireturn, 1) := by decide +kernel
theorem dX7_alike_12 : decode cX7_alike 12 = .ok (.iload_n 2, 1) := by decide +kernel
theorem dX7_alike_13 : decode cX7_alike 13 = .ok (.iconst 1, 1) := by decide +kernel
theorem dX7_alike_14 : decode cX7_alike 14 = .ok (.sipush 200, 3) := by decide +kernel
theorem dX7_alike_17 : decode cX7_alike 17 = .ok (.invokestatic 75, 3) := by decide +kernel
theorem dX7_alike_20 : decode cX7_alike 20 = .ok (.ifCond .eq 12, 3) := by decide +kernel
theorem dX7_alike_23 : decode cX7_alike 23 = .ok (.iload_n 3, 1) := by decide +kernel
theorem dX7_alike_24 : decode cX7_alike 24 = .ok (.iconst 0, 1) := by decide +kernel
theorem dX7_alike_25 : decode cX7_alike 25 = .ok (.iconst 1, 1) := by decide +kernel
theorem dX7_alike_26 : decode cX7_alike 26 = .ok (.invokestatic 75, 3) := by decide +kernel
theorem dX7_alike_29 : decode cX7_alike 29 = .ok (.ifCond .ne 7, 3) := by decide +kernel
theorem dX7_alike_32 : decode cX7_alike 32 = .ok (.ldc_w 265, 3) := by decide +kernel
theorem dX7_alike_35 : decode cX7_alike 35 = .ok (.ireturn, 1) := by decide +kernel
theorem dX7_alike_36 : decode cX7_alike 36 = .ok (.aload_n 0, 1) := by decide +kernel
theorem dX7_alike_37 : decode cX7_alike 37 = .ok (.iload_n 1, 1) := by decide +kernel
theorem dX7_alike_38 : decode cX7_alike 38 = .ok (.aload_n 0, 1) := by decide +kernel
theorem dX7_alike_39 : decode cX7_alike 39 = .ok (.getfield 13, 3) := by decide +kernel
theorem dX7_alike_42 : decode cX7_alike 42 = .ok (.invokevirtual 266, 3) := by decide +kernel
theorem dX7_alike_45 : decode cX7_alike 45 = .ok (.istore 4, 2) := by decide +kernel
theorem dX7_alike_47 : decode cX7_alike 47 = .ok (.iconst 0, 1) := by decide +kernel
theorem dX7_alike_48 : decode cX7_alike 48 = .ok (.istore 5, 2) := by decide +kernel
theorem dX7_alike_50 : decode cX7_alike 50 = .ok (.ldc_w 263, 3) := by decide +kernel
theorem dX7_alike_53 : decode cX7_alike 53 = .ok (.istore 6, 2) := by decide +kernel
theorem dX7_alike_55 : decode cX7_alike 55 = .ok (.iconst 1, 1) := by decide +kernel
theorem dX7_alike_56 : decode cX7_alike 56 = .ok (.istore 7, 2) := by decide +kernel
theorem dX7_alike_58 : decode cX7_alike 58 = .ok (.iload 7, 2) := by decide +kernel
theorem dX7_alike_60 : decode cX7_alike 60 = .ok (.iload_n 2, 1) := by decide +kernel
theorem dX7_alike_61 : decode cX7_alike 61 = .ok (.if_icmp .ge 85, 3) := by decide +kernel
theorem dX7_alike_64 : decode cX7_alike 64 = .ok (.aload_n 0, 1) := by decide +kernel
theorem dX7_alike_65 : decode cX7_alike 65 = .ok (.getfield 13, 3) := by decide +kernel
theorem dX7_alike_68 : decode cX7_alike 68 = .ok (.invokestatic 256, 3) := by decide +kernel
theorem dX7_alike_71 : decode cX7_alike 71 = .ok (.iload 7, 2) := by decide +kernel
theorem dX7_alike_73 : decode cX7_alike 73 = .ok (.iadd, 1) := by decide +kernel
theorem dX7_alike_74 : decode cX7_alike 74 = .ok (.invokestatic 260, 3) := by decide +kernel
theorem dX7_alike_77 : decode cX7_alike 77 = .ok (.istore 8, 2) := by decide +kernel
theorem dX7_alike_79 : decode cX7_alike 79 = .ok (.iload 8, 2) := by decide +kernel
theorem dX7_alike_81 : decode cX7_alike 81 = .ok (.sipush 999, 3) := by decide +kernel
theorem dX7_alike_84 : decode cX7_alike 84 = .ok (.if_icmp .gt 19, 3) := by decide +kernel
theorem dX7_alike_87 : decode cX7_alike 87 = .ok (.aload_n 0, 1) := by decide +kernel
theorem dX7_alike_88 : decode cX7_alike 88 = .ok (.iload_n 1, 1) := by decide +kernel
theorem dX7_alike_89 : decode cX7_alike 89 = .ok (.iload 8, 2) := by decide +kernel
theorem dX7_alike_91 : decode cX7_alike 91 = .ok (.invokevirtual 266, 3) := by decide +kernel
theorem dX7_alike_94 : decode cX7_alike 94 = .ok (.iload 4, 2) := by decide +kernel
theorem dX7_alike_96 : decode cX7_alike 96 = .ok (.if_icmp .ne 7, 3) := by decide +kernel
theorem dX7_alike_99 : decode cX7_alike 99 = .ok (.iconst 1, 1) := by decide +kernel
theorem dX7_alike_100 : decode cX7_alike 100 = .ok (.goto 4, 3) := by decide +kernel
theorem dX7_alike_103 : decode cX7_alike 103 = .ok (.iconst 0, 1) := by decide +kernel
theorem dX7_alike_104 : decode cX7_alike 104 = .ok (.istore 9, 2) := by decide +kernel
theorem dX7_alike_106 : decode cX7_alike 106 = .ok (.iload 9, 2) := by decide +kernel
theorem dX7_alike_108 : decode cX7_alike 108 = .ok (.ifCond .eq 13, 3) := by decide +kernel
theorem dX7_alike_111 : decode cX7_alike 111 = .ok (.iload 5, 2) := by decide +kernel
theorem dX7_alike_113 : decode cX7_alike 113 = .ok (.ifCond .ne 8, 3) := by decide +kernel
theorem dX7_alike_116 : decode cX7_alike 116 = .ok (.iload 8, 2) := by decide +kernel
theorem dX7_alike_118 : decode cX7_alike 118 = .ok (.goto 5, 3) := by decide +kernel
theorem dX7_alike_121 : decode cX7_alike 121 = .ok (.iload 6, 2) := by decide +kernel
theorem dX7_alike_123 : decode cX7_alike 123 = .ok (.istore 6, 2) := by decide +kernel
theorem dX7_alike_125 : decode cX7_alike 125 = .ok (.iload 5, 2) := by decide +kernel
theorem dX7_alike_127 : decode cX7_alike 127 = .ok (.iload 9, 2) := by decide +kernel
theorem dX7_alike_129 : decode cX7_alike 129 = .ok (.ifCond .eq 7, 3) := by decide +kernel
theorem dX7_alike_132 : decode cX7_alike 132 = .ok (.iconst 1, 1) := by decide +kernel
theorem dX7_alike_133 : decode cX7_alike 133 = .ok (.goto 4, 3) := by decide +kernel
theorem dX7_alike_136 : decode cX7_alike 136 = .ok (.iconst 0, 1) := by decide +kernel
theorem dX7_alike_137 : decode cX7_alike 137 = .ok (.iadd, 1) := by decide +kernel
theorem dX7_alike_138 : decode cX7_alike 138 = .ok (.istore 5, 2) := by decide +kernel
theorem dX7_alike_140 : decode cX7_alike 140 = .ok (.iinc 7 1, 3) := by decide +kernel
theorem dX7_alike_143 : decode cX7_alike 143 = .ok (.goto (-85), 3) := by decide +kernel
theorem dX7_alike_146 : decode cX7_alike 146 = .ok (.iload_n 3, 1) := by decide +kernel
theorem dX7_alike_147 : decode cX7_alike 147 = .ok (.ifCond .ne 8, 3) := by decide +kernel
theorem dX7_alike_150 : decode cX7_alike 150 = .ok (.iload 5, 2) := by decide +kernel
theorem dX7_alike_152 : decode cX7_alike 152 = .ok (.goto 5, 3) := by decide +kernel
theorem dX7_alike_155 : decode cX7_alike 155 = .ok (.iload 6, 2) := by decide +kernel
theorem dX7_alike_157 : decode cX7_alike 157 = .ok (.ireturn, 1) := by decide +kernel
theorem dX7_sheetWrong_0 : decode cX7_sheetWrong 0 = .ok (.iload_n 1, 1) := by decide +kernel
theorem dX7_sheetWrong_1 : decode cX7_sheetWrong 1 = .ok (.iconst 0, 1) := by decide +kernel
theorem dX7_sheetWrong_2 : decode cX7_sheetWrong 2 = .ok (.iconst 3, 1) := by decide +kernel
theorem dX7_sheetWrong_3 : decode cX7_sheetWrong 3 = .ok (.invokestatic 75, 3) := by decide +kernel
theorem dX7_sheetWrong_6 : decode cX7_sheetWrong 6 = .ok (.ifCond .ne 6, 3) := by decide +kernel
theorem dX7_sheetWrong_9 : decode cX7_sheetWrong 9 = .ok (.bipush (-2), 2) := by decide +kernel
theorem dX7_sheetWrong_11 : decode cX7_sheetWrong 11 = .ok (.ireturn, 1) := by decide +kernel
theorem dX7_sheetWrong_12 : decode cX7_sheetWrong 12 = .ok (.aload_n 0, 1) := by decide +kernel
theorem dX7_sheetWrong_13 : decode cX7_sheetWrong 13 = .ok (.getfield 38, 3) := by decide +kernel
theorem dX7_sheetWrong_16 : decode cX7_sheetWrong 16 = .ok (.iload_n 1, 1) := by decide +kernel
theorem dX7_sheetWrong_17 : decode cX7_sheetWrong 17 = .ok (.iaload, 1) := by decide +kernel
theorem dX7_sheetWrong_18 : decode cX7_sheetWrong 18 = .ok (.iconst (-1), 1) := by decide +kernel
theorem dX7_sheetWrong_19 : decode cX7_sheetWrong 19 = .ok (.if_icmp .ne 6, 3) := by decide +kernel
theorem dX7_sheetWrong_22 : decode cX7_sheetWrong 22 = .ok (.bipush (-11), 2) := by decide +kernel
theorem dX7_sheetWrong_24 : decode cX7_sheetWrong 24 = .ok (.ireturn, 1) := by decide +kernel
theorem dX7_sheetWrong_25 : decode cX7_sheetWrong 25 = .ok (.iconst 0, 1) := by decide +kernel
theorem dX7_sheetWrong_26 : decode cX7_sheetWrong 26 = .ok (.istore_n 2, 1) := by decide +kernel
theorem dX7_sheetWrong_27 : decode cX7_sheetWrong 27 = .ok (.iload_n 2, 1) := by decide +kernel
theorem dX7_sheetWrong_28 : decode cX7_sheetWrong 28 = .ok (.aload_n 0, 1) := by decide +kernel
theorem dX7_sheetWrong_29 : decode cX7_sheetWrong 29 = .ok (.getfield 41, 3) := by decide +kernel
theorem dX7_sheetWrong_32 : decode cX7_sheetWrong 32 = .ok (.iload_n 1, 1) := by decide +kernel
theorem dX7_sheetWrong_33 : decode cX7_sheetWrong 33 = .ok (.iaload, 1) := by decide +kernel
theorem dX7_sheetWrong_34 : decode cX7_sheetWrong 34 = .ok (.if_icmp .ge 29, 3) := by decide +kernel
theorem dX7_sheetWrong_37 : decode cX7_sheetWrong 37 = .ok (.aload_n 0, 1) := by decide +kernel
theorem dX7_sheetWrong_38 : decode cX7_sheetWrong 38 = .ok (.getfield 44, 3) := by decide +kernel
theorem dX7_sheetWrong_41 : decode cX7_sheetWrong 41 = .ok (.bipush 40, 2) := by decide +kernel
theorem dX7_sheetWrong_43 : decode cX7_sheetWrong 43 = .ok (.iload_n 1, 1) := by decide +kernel
theorem dX7_sheetWrong_44 : decode cX7_sheetWrong 44 = .ok (.imul, 1) := by decide +kernel
theorem dX7_sheetWrong_45 : decode cX7_sheetWrong 45 = .ok (.iload_n 2, 1) := by decide +kernel
theorem dX7_sheetWrong_46 : decode cX7_sheetWrong 46 = .ok (.iadd, 1) := by decide +kernel
theorem dX7_sheetWrong_47 : decode cX7_sheetWrong 47 = .ok (.iaload, 1) := by decide +kernel
theorem dX7_sheetWrong_48 : decode cX7_sheetWrong 48 = .ok (.invokestatic 162, 3) := by decide +kernel
theorem dX7_sheetWrong_51 : decode cX7_sheetWrong 51 = .ok (.ifCond .ne 6, 3) := by decide +kernel
theorem dX7_sheetWrong_54 : decode cX7_sheetWrong 54 = .ok (.bipush (-2), 2) := by decide +kernel
theorem dX7_sheetWrong_56 : decode cX7_sheetWrong 56 = .ok (.ireturn, 1) := by decide +kernel
theorem dX7_sheetWrong_57 : decode cX7_sheetWrong 57 = .ok (.iinc 2 2, 3) := by decide +kernel
theorem dX7_sheetWrong_60 : decode cX7_sheetWrong 60 = .ok (.goto (-33), 3) := by decide +kernel
theorem dX7_sheetWrong_63 : decode cX7_sheetWrong 63 = .ok (.aload_n 0, 1) := by decide +kernel
theorem dX7_sheetWrong_64 : decode cX7_sheetWrong 64 = .ok (.getfield 41, 3) := by decide +kernel
theorem dX7_sheetWrong_67 : decode cX7_sheetWrong 67 = .ok (.iload_n 1, 1) := by decide +kernel
theorem dX7_sheetWrong_68 : decode cX7_sheetWrong 68 = .ok (.iaload, 1) := by decide +kernel
theorem dX7_sheetWrong_69 : decode cX7_sheetWrong 69 = .ok (.iconst 2, 1) := by decide +kernel
theorem dX7_sheetWrong_70 : decode cX7_sheetWrong 70 = .ok (.irem, 1) := by decide +kernel
theorem dX7_sheetWrong_71 : decode cX7_sheetWrong 71 = .ok (.ifCond .ne 7, 3) := by decide +kernel
theorem dX7_sheetWrong_74 : decode cX7_sheetWrong 74 = .ok (.iconst 0, 1) := by decide +kernel
theorem dX7_sheetWrong_75 : decode cX7_sheetWrong 75 = .ok (.goto 5, 3) := by decide +kernel
theorem dX7_sheetWrong_78 : decode cX7_sheetWrong 78 = .ok (.bipush (-2), 2) := by decide +kernel
theorem dX7_sheetWrong_80 : decode cX7_sheetWrong 80 = .ok (.ireturn, 1) := by decide +kernel
theorem dX7_toldWrong_0 : decode cX7_toldWrong 0 = .ok (.aload_n 0, 1) := by decide +kernel
theorem dX7_toldWrong_1 : decode cX7_toldWrong 1 = .ok (.iload_n 1, 1) := by decide +kernel
theorem dX7_toldWrong_2 : decode cX7_toldWrong 2 = .ok (.invokevirtual 269, 3) := by decide +kernel
theorem dX7_toldWrong_5 : decode cX7_toldWrong 5 = .ok (.istore_n 3, 1) := by decide +kernel
theorem dX7_toldWrong_6 : decode cX7_toldWrong 6 = .ok (.iload_n 3, 1) := by decide +kernel
theorem dX7_toldWrong_7 : decode cX7_toldWrong 7 = .ok (.ifCond .eq 7, 3) := by decide +kernel
theorem dX7_toldWrong_10 : decode cX7_toldWrong 10 = .ok (.iload_n 3, 1) := by decide +kernel
theorem dX7_toldWrong_11 : decode cX7_toldWrong 11 = .ok (.goto 17, 3) := by decide +kernel
theorem dX7_toldWrong_14 : decode cX7_toldWrong 14 = .ok (.aload_n 0, 1) := by decide +kernel
theorem dX7_toldWrong_15 : decode cX7_toldWrong 15 = .ok (.iload_n 2, 1) := by decide +kernel
theorem dX7_toldWrong_16 : decode cX7_toldWrong 16 = .ok (.invokevirtual 159, 3) := by decide +kernel
theorem dX7_toldWrong_19 : decode cX7_toldWrong 19 = .ok (.ifCond .eq 7, 3) := by decide +kernel
theorem dX7_toldWrong_22 : decode cX7_toldWrong 22 = .ok (.iconst 0, 1) := by decide +kernel
theorem dX7_toldWrong_23 : decode cX7_toldWrong 23 = .ok (.goto 5, 3) := by decide +kernel
theorem dX7_toldWrong_26 : decode cX7_toldWrong 26 = .ok (.bipush (-5), 2) := by decide +kernel
theorem dX7_toldWrong_28 : decode cX7_toldWrong 28 = .ok (.ireturn, 1) := by decide +kernel
theorem dX7_unlike_0 : decode cX7_unlike 0 = .ok (.iconst 0, 1) := by decide +kernel
theorem dX7_unlike_1 : decode cX7_unlike 1 = .ok (.istore_n 3, 1) := by decide +kernel
theorem dX7_unlike_2 : decode cX7_unlike 2 = .ok (.iload_n 3, 1) := by decide +kernel
theorem dX7_unlike_3 : decode cX7_unlike 3 = .ok (.aload_n 0, 1) := by decide +kernel
theorem dX7_unlike_4 : decode cX7_unlike 4 = .ok (.getfield 41, 3) := by decide +kernel
theorem dX7_unlike_7 : decode cX7_unlike 7 = .ok (.iload_n 1, 1) := by decide +kernel
theorem dX7_unlike_8 : decode cX7_unlike 8 = .ok (.iaload, 1) := by decide +kernel
theorem dX7_unlike_9 : decode cX7_unlike 9 = .ok (.iconst 2, 1) := by decide +kernel
theorem dX7_unlike_10 : decode cX7_unlike 10 = .ok (.idiv, 1) := by decide +kernel
theorem dX7_unlike_11 : decode cX7_unlike 11 = .ok (.if_icmp .ge 49, 3) := by decide +kernel
theorem dX7_unlike_14 : decode cX7_unlike 14 = .ok (.aload_n 0, 1) := by decide +kernel
theorem dX7_unlike_15 : decode cX7_unlike 15 = .ok (.iload_n 2, 1) := by decide +kernel
theorem dX7_unlike_16 : decode cX7_unlike 16 = .ok (.aload_n 0, 1) := by decide +kernel
theorem dX7_unlike_17 : decode cX7_unlike 17 = .ok (.getfield 44, 3) := by decide +kernel
theorem dX7_unlike_20 : decode cX7_unlike 20 = .ok (.bipush 40, 2) := by decide +kernel
theorem dX7_unlike_22 : decode cX7_unlike 22 = .ok (.iload_n 1, 1) := by decide +kernel
theorem dX7_unlike_23 : decode cX7_unlike 23 = .ok (.imul, 1) := by decide +kernel
theorem dX7_unlike_24 : decode cX7_unlike 24 = .ok (.iconst 2, 1) := by decide +kernel
