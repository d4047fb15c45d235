theorem dX6_forgive_77 : decode cX6_forgive 77 = .ok (.goto (-41), 3) := by decide +kernel
theorem dX6_forgive_80 : decode cX6_forgive 80 = .ok (.iinc 4 1, 3) := by decide +kernel
theorem dX6_forgive_83 : decode cX6_forgive 83 = .ok (.goto (-57), 3) := by decide +kernel
theorem dX6_forgive_86 : decode cX6_forgive 86 = .ok (.iload_n 1, 1) := by decide +kernel
theorem dX6_forgive_87 : decode cX6_forgive 87 = .ok (.ifCond .ne 7, 3) := by decide +kernel
theorem dX6_forgive_90 : decode cX6_forgive 90 = .ok (.iload_n 2, 1) := by decide +kernel
theorem dX6_forgive_91 : decode cX6_forgive 91 = .ok (.goto 4, 3) := by decide +kernel
theorem dX6_forgive_94 : decode cX6_forgive 94 = .ok (.iload_n 3, 1) := by decide +kernel
theorem dX6_forgive_95 : decode cX6_forgive 95 = .ok (.ireturn, 1) := by decide +kernel
theorem dX6_span_0 : decode cX6_span 0 = .ok (.iload_n 1, 1) := by decide +kernel
theorem dX6_span_1 : decode cX6_span 1 = .ok (.invokestatic 90, 3) := by decide +kernel
theorem dX6_span_4 : decode cX6_span 4 = .ok (.ifCond .eq 10, 3) := by decide +kernel
theorem dX6_span_7 : decode cX6_span 7 = .ok (.iload_n 2, 1) := by decide +kernel
theorem dX6_span_8 : decode cX6_span 8 = .ok (.invokestatic 90, 3) := by decide +kernel
theorem dX6_span_11 : decode cX6_span 11 = .ok (.ifCond .ne 7, 3) := by decide +kernel
theorem dX6_span_14 : decode cX6_span 14 = .ok (.ldc_w 261, 3) := by decide +kernel
theorem dX6_span_17 : decode cX6_span 17 = .ok (.ireturn, 1) := by decide +kernel
theorem dX6_span_18 : decode cX6_span 18 = .ok (.iload_n 2, 1) := by decide +kernel
theorem dX6_span_19 : decode cX6_span 19 = .ok (.invokestatic 262, 3) := by decide +kernel
theorem dX6_span_22 : decode cX6_span 22 = .ok (.iload_n 1, 1) := by decide +kernel
theorem dX6_span_23 : decode cX6_span 23 = .ok (.invokestatic 262, 3) := by decide +kernel
theorem dX6_span_26 : decode cX6_span 26 = .ok (.isub, 1) := by decide +kernel
theorem dX6_span_27 : decode cX6_span 27 = .ok (.ireturn, 1) := by decide +kernel
theorem dX6_behind_0 : decode cX6_behind 0 = .ok (.iload_n 1, 1) := by decide +kernel
theorem dX6_behind_1 : decode cX6_behind 1 = .ok (.invokestatic 90, 3) := by decide +kernel
theorem dX6_behind_4 : decode cX6_behind 4 = .ok (.ifCond .eq 16, 3) := by decide +kernel
theorem dX6_behind_7 : decode cX6_behind 7 = .ok (.iload_n 2, 1) := by decide +kernel
theorem dX6_behind_8 : decode cX6_behind 8 = .ok (.sipush (-3000), 3) := by decide +kernel
theorem dX6_behind_11 : decode cX6_behind 11 = .ok (.sipush 3000, 3) := by decide +kernel
theorem dX6_behind_14 : decode cX6_behind 14 = .ok (.invokestatic 86, 3) := by decide +kernel
theorem dX6_behind_17 : decode cX6_behind 17 = .ok (.ifCond .ne 7, 3) := by decide +kernel
theorem dX6_behind_20 : decode cX6_behind 20 = .ok (.ldc_w 261, 3) := by decide +kernel
theorem dX6_behind_23 : decode cX6_behind 23 = .ok (.ireturn, 1) := by decide +kernel
theorem dX6_behind_24 : decode cX6_behind 24 = .ok (.iload_n 1, 1) := by decide +kernel
theorem dX6_behind_25 : decode cX6_behind 25 = .ok (.invokestatic 262, 3) := by decide +kernel
theorem dX6_behind_28 : decode cX6_behind 28 = .ok (.iload_n 2, 1) := by decide +kernel
theorem dX6_behind_29 : decode cX6_behind 29 = .ok (.iadd, 1) := by decide +kernel
theorem dX6_behind_30 : decode cX6_behind 30 = .ok (.invokestatic 265, 3) := by decide +kernel
theorem dX6_behind_33 : decode cX6_behind 33 = .ok (.istore_n 3, 1) := by decide +kernel
theorem dX6_behind_34 : decode cX6_behind 34 = .ok (.iload_n 3, 1) := by decide +kernel
theorem dX6_behind_35 : decode cX6_behind 35 = .ok (.invokestatic 90, 3) := by decide +kernel
theorem dX6_behind_38 : decode cX6_behind 38 = .ok (.ifCond .eq 7, 3) := by decide +kernel
theorem dX6_behind_41 : decode cX6_behind 41 = .ok (.iload_n 3, 1) := by decide +kernel
theorem dX6_behind_42 : decode cX6_behind 42 = .ok (.goto 6, 3) := by decide +kernel
theorem dX6_behind_45 : decode cX6_behind 45 = .ok (.ldc_w 268, 3) := by decide +kernel
theorem dX6_behind_48 : decode cX6_behind 48 = .ok (.ireturn, 1) := by decide +kernel
theorem dX6_alike_0 : decode cX6_alike 0 = .ok (.aload_n 0, 1) := by decide +kernel
theorem dX6_alike_1 : decode cX6_alike 1 = .ok (.iload_n 1, 1) := by decide +kernel
theorem dX6_alike_2 : decode cX6_alike 2 = .ok (.invokevirtual 115, 3) := by decide +kernel
theorem dX6_alike_5 : decode cX6_alike 5 = .ok (.ifCond .ne 7, 3) := by decide +kernel
theorem dX6_alike_8 : decode cX6_alike 8 = .ok (.ldc_w 269, 3) := by decide +kernel
theorem dX6_alike_11 : decode cX6_alike 11 = .ok (.ireturn, 1) := by decide +kernel
theorem dX6_alike_12 : decode cX6_alike 12 = .ok (.iload_n 2, 1) := by decide +kernel
theorem dX6_alike_13 : decode cX6_alike 13 = .ok (.iconst 1, 1) := by decide +kernel
theorem dX6_alike_14 : decode cX6_alike 14 = .ok (.sipush 200, 3) := by decide +kernel
theorem dX6_alike_17 : decode cX6_alike 17 = .ok (.invokestatic 86, 3) := by decide +kernel
theorem dX6_alike_20 : decode cX6_alike 20 = .ok (.ifCond .eq 10, 3) := by decide +kernel
theorem dX6_alike_23 : decode cX6_alike 23 = .ok (.iload_n 3, 1) := by decide +kernel
theorem dX6_alike_24 : decode cX6_alike 24 = .ok (.invokestatic 160, 3) := by decide +kernel
theorem dX6_alike_27 : decode cX6_alike 27 = .ok (.ifCond .ne 7, 3) := by decide +kernel
theorem dX6_alike_30 : decode cX6_alike 30 = .ok (.ldc_w 270, 3) := by decide +kernel
theorem dX6_alike_33 : decode cX6_alike 33 = .ok (.ireturn, 1) := by decide +kernel
theorem dX6_alike_34 : decode cX6_alike 34 = .ok (.aload_n 0, 1) := by decide +kernel
theorem dX6_alike_35 : decode cX6_alike 35 = .ok (.iload_n 1, 1) := by decide +kernel
theorem dX6_alike_36 : decode cX6_alike 36 = .ok (.invokevirtual 121, 3) := by decide +kernel
theorem dX6_alike_39 : decode cX6_alike 39 = .ok (.astore 4, 2) := by decide +kernel
theorem dX6_alike_41 : decode cX6_alike 41 = .ok (.aload 4, 2) := by decide +kernel
theorem dX6_alike_43 : decode cX6_alike 43 = .ok (.aload_n 0, 1) := by decide +kernel
theorem dX6_alike_44 : decode cX6_alike 44 = .ok (.getfield 13, 3) := by decide +kernel
theorem dX6_alike_47 : decode cX6_alike 47 = .ok (.invokestatic 271, 3) := by decide +kernel
theorem dX6_alike_50 : decode cX6_alike 50 = .ok (.istore 5, 2) := by decide +kernel
theorem dX6_alike_52 : decode cX6_alike 52 = .ok (.ldc_w 268, 3) := by decide +kernel
theorem dX6_alike_55 : decode cX6_alike 55 = .ok (.istore 6, 2) := by decide +kernel
theorem dX6_alike_57 : decode cX6_alike 57 = .ok (.iconst 0, 1) := by decide +kernel
theorem dX6_alike_58 : decode cX6_alike 58 = .ok (.istore 7, 2) := by decide +kernel
theorem dX6_alike_60 : decode cX6_alike 60 = .ok (.iconst 1, 1) := by decide +kernel
theorem dX6_alike_61 : decode cX6_alike 61 = .ok (.istore 8, 2) := by decide +kernel
theorem dX6_alike_63 : decode cX6_alike 63 = .ok (.iload 8, 2) := by decide +kernel
theorem dX6_alike_65 : decode cX6_alike 65 = .ok (.iload_n 2, 1) := by decide +kernel
theorem dX6_alike_66 : decode cX6_alike 66 = .ok (.if_icmp .ge 56, 3) := by decide +kernel
theorem dX6_alike_69 : decode cX6_alike 69 = .ok (.aload_n 0, 1) := by decide +kernel
theorem dX6_alike_70 : decode cX6_alike 70 = .ok (.getfield 13, 3) := by decide +kernel
theorem dX6_alike_73 : decode cX6_alike 73 = .ok (.invokestatic 262, 3) := by decide +kernel
theorem dX6_alike_76 : decode cX6_alike 76 = .ok (.iload 8, 2) := by decide +kernel
theorem dX6_alike_78 : decode cX6_alike 78 = .ok (.iadd, 1) := by decide +kernel
theorem dX6_alike_79 : decode cX6_alike 79 = .ok (.invokestatic 265, 3) := by decide +kernel
theorem dX6_alike_82 : decode cX6_alike 82 = .ok (.istore 9, 2) := by decide +kernel
theorem dX6_alike_84 : decode cX6_alike 84 = .ok (.iload 9, 2) := by decide +kernel
theorem dX6_alike_86 : decode cX6_alike 86 = .ok (.invokestatic 90, 3) := by decide +kernel
theorem dX6_alike_89 : decode cX6_alike 89 = .ok (.ifCond .eq 27, 3) := by decide +kernel
theorem dX6_alike_92 : decode cX6_alike 92 = .ok (.aload 4, 2) := by decide +kernel
theorem dX6_alike_94 : decode cX6_alike 94 = .ok (.iload 9, 2) := by decide +kernel
theorem dX6_alike_96 : decode cX6_alike 96 = .ok (.invokestatic 271, 3) := by decide +kernel
theorem dX6_alike_99 : decode cX6_alike 99 = .ok (.iload 5, 2) := by decide +kernel
theorem dX6_alike_101 : decode cX6_alike 101 = .ok (.if_icmp .ne 15, 3) := by decide +kernel
theorem dX6_alike_104 : decode cX6_alike 104 = .ok (.iload 7, 2) := by decide +kernel
theorem dX6_alike_106 : decode cX6_alike 106 = .ok (.ifCond .ne 7, 3) := by decide +kernel
theorem dX6_alike_109 : decode cX6_alike 109 = .ok (.iload 9, 2) := by decide +kernel
theorem dX6_alike_111 : decode cX6_alike 111 = .ok (.istore 6, 2) := by decide +kernel
theorem dX6_alike_113 : decode cX6_alike 113 = .ok (.iinc 7 1, 3) := by decide +kernel
theorem dX6_alike_116 : decode cX6_alike 116 = .ok (.iinc 8 1, 3) := by decide +kernel
theorem dX6_alike_119 : decode cX6_alike 119 = .ok (.goto (-56), 3) := by decide +kernel
theorem dX6_alike_122 : decode cX6_alike 122 = .ok (.iload_n 3, 1) := by decide +kernel
theorem dX6_alike_123 : decode cX6_alike 123 = .ok (.ifCond .ne 8, 3) := by decide +kernel
theorem dX6_alike_126 : decode cX6_alike 126 = .ok (.iload 7, 2) := by decide +kernel
theorem dX6_alike_128 : decode cX6_alike 128 = .ok (.goto 5, 3) := by decide +kernel
theorem dX6_alike_131 : decode cX6_alike 131 = .ok (.iload 6, 2) := by decide +kernel
theorem dX6_alike_133 : decode cX6_alike 133 = .ok (.ireturn, 1) := by decide +kernel
theorem dX6_lastFigureOf_0 : decode cX6_lastFigureOf 0 = .ok (.aload_n 0, 1) := by decide +kernel
theorem dX6_lastFigureOf_1 : decode cX6_lastFigureOf 1 = .ok (.iload_n 1, 1) := by decide +kernel
theorem dX6_lastFigureOf_2 : decode cX6_lastFigureOf 2 = .ok (.invokestatic 163, 3) := by decide +kernel
theorem dX6_lastFigureOf_5 : decode cX6_lastFigureOf 5 = .ok (.invokevirtual 135, 3) := by decide +kernel
theorem dX6_lastFigureOf_8 : decode cX6_lastFigureOf 8 = .ok (.aload_n 0, 1) := by decide +kernel
theorem dX6_lastFigureOf_9 : decode cX6_lastFigureOf 9 = .ok (.invokevirtual 138, 3) := by decide +kernel
theorem dX6_lastFigureOf_12 : decode cX6_lastFigureOf 12 = .ok (.ifCond .ne 7, 3) := by decide +kernel
theorem dX6_lastFigureOf_15 : decode cX6_lastFigureOf 15 = .ok (.iconst 0, 1) := by decide +kernel
theorem dX6_lastFigureOf_16 : decode cX6_lastFigureOf 16 = .ok (.goto 13, 3) := by decide +kernel
theorem dX6_lastFigureOf_19 : decode cX6_lastFigureOf 19 = .ok (.aload_n 0, 1) := by decide +kernel
theorem dX6_lastFigureOf_20 : decode cX6_lastFigureOf 20 = .ok (.aload_n 0, 1) := by decide +kernel
theorem dX6_lastFigureOf_21 : decode cX6_lastFigureOf 21 = .ok (.invokevirtual 138, 3) := by decide +kernel
theorem dX6_lastFigureOf_24 : decode cX6_lastFigureOf 24 = .ok (.iconst 1, 1) := by decide +kernel
theorem dX6_lastFigureOf_25 : decode cX6_lastFigureOf 25 = .ok (.isub, 1) := by decide +kernel
theorem dX6_lastFigureOf_26 : decode cX6_lastFigureOf 26 = .ok (.invokevirtual 141, 3) := by decide +kernel
theorem dX6_lastFigureOf_29 : decode cX6_lastFigureOf 29 = .ok (.ireturn, 1) := by decide +kernel
theorem dX6_placeOfYear_0 : decode cX6_placeOfYear 0 = .ok (.iload_n 0, 1) := by decide +kernel
theorem dX6_placeOfYear_1 : decode cX6_placeOfYear 1 = .ok (.ifCond .le 9, 3) := by decide +kernel
theorem dX6_placeOfYear_4 : decode cX6_placeOfYear 4 = .ok (.iload_n 0, 1) := by decide +kernel
theorem dX6_placeOfYear_5 : decode cX6_placeOfYear 5 = .ok (.iconst 1, 1) := by decide +kernel
theorem dX6_placeOfYear_6 : decode cX6_placeOfYear 6 = .ok (.isub, 1) := by decide +kernel
theorem dX6_placeOfYear_7 : decode cX6_placeOfYear 7 = .ok (.goto 4, 3) := by decide +kernel
theorem dX6_placeOfYear_10 : decode cX6_placeOfYear 10 = .ok (.iload_n 0, 1) := by decide +kernel
theorem dX6_placeOfYear_11 : decode cX6_placeOfYear 11 = .ok (.ireturn, 1) := by decide +kernel
theorem dX6_yearAtPlace_0 : decode cX6_yearAtPlace 0 = .ok (.iload_n 0, 1) := by decide +kernel
theorem dX6_yearAtPlace_1 : decode cX6_yearAtPlace 1 = .ok (.ifCond .lt 9, 3) := by decide +kernel
theorem dX6_yearAtPlace_4 : decode cX6_yearAtPlace 4 = .ok (.iload_n 0, 1) := by decide +kernel
theorem dX6_yearAtPlace_5 : decode cX6_yearAtPlace 5 = .ok (.iconst 1, 1) := by decide +kernel
theorem dX6_yearAtPlace_6 : decode cX6_yearAtPlace 6 = .ok (.iadd, 1) := by decide +kernel
theorem dX6_yearAtPlace_7 : decode cX6_yearAtPlace 7 = .ok (.goto 4, 3) := by decide +kernel
theorem dX6_yearAtPlace_10 : decode cX6_yearAtPlace 10 = .ok (.iload_n 0, 1) := by decide +kernel
theorem dX6_yearAtPlace_11 : decode cX6_yearAtPlace 11 = .ok (.ireturn, 1) := by decide +kernel
theorem dX6_judge_0 : decode cX6_judge 0 = .ok (.aload_n 0, 1) := by decide +kernel
theorem dX6_judge_1 : decode cX6_judge 1 = .ok (.iload_n 1, 1) := by decide +kernel
theorem dX6_judge_2 : decode cX6_judge 2 = .ok (.iload_n 2, 1) := by decide +kernel
theorem dX6_judge_3 : decode cX6_judge 3 = .ok (.invokevirtual 275, 3) := by decide +kernel
theorem dX6_judge_6 : decode cX6_judge 6 = .ok (.istore_n 3, 1) := by decide +kernel
theorem dX6_judge_7 : decode cX6_judge 7 = .ok (.iload_n 3, 1) := by decide +kernel
theorem dX6_judge_8 : decode cX6_judge 8 = .ok (.ifCond .eq 5, 3) := by decide +kernel
theorem dX6_judge_11 : decode cX6_judge 11 = .ok (.iload_n 3, 1) := by decide +kernel
theorem dX6_judge_12 : decode cX6_judge 12 = .ok (.ireturn, 1) := by decide +kernel
theorem dX6_judge_13 : decode cX6_judge 13 = .ok (.aload_n 0, 1) := by decide +kernel
theorem dX6_judge_14 : decode cX6_judge 14 = .ok (.iload_n 1, 1) := by decide +kernel
theorem dX6_judge_15 : decode cX6_judge 15 = .ok (.invokevirtual 171, 3) := by decide +kernel
theorem dX6_judge_18 : decode cX6_judge 18 = .ok (.aload_n 0, 1) := by decide +kernel
theorem dX6_judge_19 : decode cX6_judge 19 = .ok (.iload_n 2, 1) := by decide +kernel
theorem dX6_judge_20 : decode cX6_judge 20 = .ok (.invokevirtual 121, 3) := by decide +kernel
theorem dX6_judge_23 : decode cX6_judge 23 = .ok (.invokestatic 278, 3) := by decide +kernel
theorem dX6_judge_26 : decode cX6_judge 26 = .ok (.ireturn, 1) := by decide +kernel
theorem dX6_kinds_0 : decode cX6_kinds 0 = .ok (.aload_n 0, 1) := by decide +kernel
theorem dX6_kinds_1 : decode cX6_kinds 1 = .ok (.iload_n 1, 1) := by decide +kernel
theorem dX6_kinds_2 : decode cX6_kinds 2 = .ok (.iload_n 2, 1) := by decide +kernel
theorem dX6_kinds_3 : decode cX6_kinds 3 = .ok (.invokevirtual 275, 3) := by decide +kernel
theorem dX6_kinds_6 : decode cX6_kinds 6 = .ok (.istore 4, 2) := by decide +kernel
theorem dX6_kinds_8 : decode cX6_kinds 8 = .ok (.iload 4, 2) := by decide +kernel
theorem dX6_kinds_10 : decode cX6_kinds 10 = .ok (.ifCond .eq 6, 3) := by decide +kernel
theorem dX6_kinds_13 : decode cX6_kinds 13 = .ok (.iload 4, 2) := by decide +kernel
theorem dX6_kinds_15 : decode cX6_kinds 15 = .ok (.ireturn, 1) := by decide +kernel
theorem dX6_kinds_16 : decode cX6_kinds 16 = .ok (.aload_n 0, 1) := by decide +kernel
theorem dX6_kinds_17 : decode cX6_kinds 17 = .ok (.iload_n 1, 1) := by decide +kernel
theorem dX6_kinds_18 : decode cX6_kinds 18 = .ok (.invokevirtual 171, 3) := by decide +kernel
theorem dX6_kinds_21 : decode cX6_kinds 21 = .ok (.astore 5, 2) := by decide +kernel
theorem dX6_kinds_23 : decode cX6_kinds 23 = .ok (.aload_n 0, 1) := by decide +kernel
theorem dX6_kinds_24 : decode cX6_kinds 24 = .ok (.iload_n 2, 1) := by decide +kernel
theorem dX6_kinds_25 : decode cX6_kinds 25 = .ok (.invokevirtual 121, 3) := by decide +kernel
theorem dX6_kinds_28 : decode cX6_kinds 28 = .ok (.astore 6, 2) := by decide +kernel
theorem dX6_kinds_30 : decode cX6_kinds 30 = .ok (.iconst 0, 1) := by decide +kernel
theorem dX6_kinds_31 : decode cX6_kinds 31 = .ok (.istore 7, 2) := by decide +kernel
theorem dX6_kinds_33 : decode cX6_kinds 33 = .ok (.iload_n 3, 1) := by decide +kernel
theorem dX6_kinds_34 : decode cX6_kinds 34 = .ok (.tableswitch 171 0 2 #[26, 72, 119], 26) := by decide +kernel
theorem dX6_kinds_60 : decode cX6_kinds 60 = .ok (.iconst 0, 1) := by decide +kernel
theorem dX6_kinds_61 : decode cX6_kinds 61 = .ok (.istore 8, 2) := by decide +kernel
theorem dX6_kinds_63 : decode cX6_kinds 63 = .ok (.iload 8, 2) := by decide +kernel
theorem dX6_kinds_65 : decode cX6_kinds 65 = .ok (.iconst 5, 1) := by decide +kernel
theorem dX6_kinds_66 : decode cX6_kinds 66 = .ok (.if_icmp .gt 37, 3) := by decide +kernel
theorem dX6_kinds_69 : decode cX6_kinds 69 = .ok (.aload 6, 2) := by decide +kernel
theorem dX6_kinds_71 : decode cX6_kinds 71 = .ok (.iload_n 2, 1) := by decide +kernel
theorem dX6_kinds_72 : decode cX6_kinds 72 = .ok (.iload 8, 2) := by decide +kernel
theorem dX6_kinds_74 : decode cX6_kinds 74 = .ok (.aload_n 0, 1) := by decide +kernel
theorem dX6_kinds_75 : decode cX6_kinds 75 = .ok (.getfield 20, 3) := by decide +kernel
theorem dX6_kinds_78 : decode cX6_kinds 78 = .ok (.iload_n 2, 1) := by decide +kernel
theorem dX6_kinds_79 : decode cX6_kinds 79 = .ok (.iaload, 1) := by decide +kernel
theorem dX6_kinds_80 : decode cX6_kinds 80 = .ok (.invokevirtual 281, 3) := by decide +kernel
theorem dX6_kinds_83 : decode cX6_kinds 83 = .ok (.iload 7, 2) := by decide +kernel
theorem dX6_kinds_85 : decode cX6_kinds 85 = .ok (.iload 8, 2) := by decide +kernel
theorem dX6_kinds_87 : decode cX6_kinds 87 = .ok (.aload 5, 2) := by decide +kernel
theorem dX6_kinds_89 : decode cX6_kinds 89 = .ok (.aload 6, 2) := by decide +kernel
theorem dX6_kinds_91 : decode cX6_kinds 91 = .ok (.invokestatic 282, 3) := by decide +kernel
theorem dX6_kinds_94 : decode cX6_kinds 94 = .ok (.ior, 1) := by decide +kernel
theorem dX6_kinds_95 : decode cX6_kinds 95 = .ok (.istore 7, 2) := by decide +kernel
theorem dX6_kinds_97 : decode cX6_kinds 97 = .ok (.iinc 8 1, 3) := by decide +kernel
theorem dX6_kinds_100 : decode cX6_kinds 100 = .ok (.goto (-37), 3) := by decide +kernel
theorem dX6_kinds_103 : decode cX6_kinds 103 = .ok (.iload 7, 2) := by decide +kernel
theorem dX6_kinds_105 : decode cX6_kinds 105 = .ok (.ireturn, 1) := by decide +kernel
theorem dX6_kinds_106 : decode cX6_kinds 106 = .ok (.iconst 0, 1) := by decide +kernel
theorem dX6_kinds_107 : decode cX6_kinds 107 = .ok (.istore 8, 2) := by decide +kernel
theorem dX6_kinds_109 : decode cX6_kinds 109 = .ok (.iload 8, 2) := by decide +kernel
theorem dX6_kinds_111 : decode cX6_kinds 111 = .ok (.bipush 9, 2) := by decide +kernel
theorem dX6_kinds_113 : decode cX6_kinds 113 = .ok (.if_icmp .gt 37, 3) := by decide +kernel
theorem dX6_kinds_116 : decode cX6_kinds 116 = .ok (.aload 6, 2) := by decide +kernel
theorem dX6_kinds_118 : decode cX6_kinds 118 = .ok (.iload_n 2, 1) := by decide +kernel
theorem dX6_kinds_119 : decode cX6_kinds 119 = .ok (.aload_n 0, 1) := by decide +kernel
theorem dX6_kinds_120 : decode cX6_kinds 120 = .ok (.getfield 16, 3) := by decide +kernel
theorem dX6_kinds_123 : decode cX6_kinds 123 = .ok (.iload_n 2, 1) := by decide +kernel
theorem dX6_kinds_124 : decode cX6_kinds 124 = .ok (.iaload, 1) := by decide +kernel
theorem dX6_kinds_125 : decode cX6_kinds 125 = .ok (.iload 8, 2) := by decide +kernel
theorem dX6_kinds_127 : decode cX6_kinds 127 = .ok (.invokevirtual 281, 3) := by decide +kernel
theorem dX6_kinds_130 : decode cX6_kinds 130 = .ok (.iload 7, 2) := by decide +kernel
theorem dX6_kinds_132 : decode cX6_kinds 132 = .ok (.iload 8, 2) := by decide +kernel
theorem dX6_kinds_134 : decode cX6_kinds 134 = .ok (.aload 5, 2) := by decide +kernel
theorem dX6_kinds_136 : decode cX6_kinds 136 = .ok (.aload 6, 2) := by decide +kernel
theorem dX6_kinds_138 : decode cX6_kinds 138 = .ok (.invokestatic 282, 3) := by decide +kernel
theorem dX6_kinds_141 : decode cX6_kinds 141 = .ok (.ior, 1) := by decide +kernel
theorem dX6_kinds_142 : decode cX6_kinds 142 = .ok (.istore 7, 2) := by decide +kernel
theorem dX6_kinds_144 : decode cX6_kinds 144 = .ok (.iinc 8 1, 3) := by decide +kernel
theorem dX6_kinds_147 : decode cX6_kinds 147 = .ok (.goto (-38), 3) := by decide +kernel
theorem dX6_kinds_150 : decode cX6_kinds 150 = .ok (.iload 7, 2) := by decide +kernel
theorem dX6_kinds_152 : decode cX6_kinds 152 = .ok (.ireturn, 1) := by decide +kernel
theorem dX6_kinds_153 : decode cX6_kinds 153 = .ok (.iconst 2, 1) := by decide +kernel
theorem dX6_kinds_154 : decode cX6_kinds 154 = .ok (.istore 8, 2) := by decide +kernel
theorem dX6_kinds_156 : decode cX6_kinds 156 = .ok (.iload 8, 2) := by decide +kernel
theorem dX6_kinds_158 : decode cX6_kinds 158 = .ok (.bipush 12, 2) := by decide +kernel
theorem dX6_kinds_160 : decode cX6_kinds 160 = .ok (.if_icmp .gt 42, 3) := by decide +kernel
theorem dX6_kinds_163 : decode cX6_kinds 163 = .ok (.aload 6, 2) := by decide +kernel
theorem dX6_kinds_165 : decode cX6_kinds 165 = .ok (.iload 8, 2) := by decide +kernel
theorem dX6_kinds_167 : decode cX6_kinds 167 = .ok (.aload_n 0, 1) := by decide +kernel
theorem dX6_kinds_168 : decode cX6_kinds 168 = .ok (.getfield 13, 3) := by decide +kernel
theorem dX6_kinds_171 : decode cX6_kinds 171 = .ok (.aload_n 0, 1) := by decide +kernel
theorem dX6_kinds_172 : decode cX6_kinds 172 = .ok (.aload_n 0, 1) := by decide +kernel
theorem dX6_kinds_173 : decode cX6_kinds 173 = .ok (.getfield 79, 3) := by decide +kernel
theorem dX6_kinds_176 : decode cX6_kinds 176 = .ok (.invokevirtual 216, 3) := by decide +kernel
theorem dX6_kinds_179 : decode cX6_kinds 179 = .ok (.invokevirtual 220, 3) := by decide +kernel
theorem dX6_kinds_182 : decode cX6_kinds 182 = .ok (.iload 7, 2) := by decide +kernel
theorem dX6_kinds_184 : decode cX6_kinds 184 = .ok (.iload 8, 2) := by decide +kernel
theorem dX6_kinds_186 : decode cX6_kinds 186 = .ok (.aload 5, 2) := by decide +kernel
theorem dX6_kinds_188 : decode cX6_kinds 188 = .ok (.aload 6, 2) := by decide +kernel
theorem dX6_kinds_190 : decode cX6_kinds 190 = .ok (.invokestatic 282, 3) := by decide +kernel
theorem dX6_kinds_193 : decode cX6_kinds 193 = .ok (.ior, 1) := by decide +kernel
theorem dX6_kinds_194 : decode cX6_kinds 194 = .ok (.istore 7, 2) := by decide +kernel
theorem dX6_kinds_196 : decode cX6_kinds 196 = .ok (.iinc 8 1, 3) := by decide +kernel
theorem dX6_kinds_199 : decode cX6_kinds 199 = .ok (.goto (-43), 3) := by decide +kernel
theorem dX6_kinds_202 : decode cX6_kinds 202 = .ok (.iload 7, 2) := by decide +kernel
theorem dX6_kinds_204 : decode cX6_kinds 204 = .ok (.ireturn, 1) := by decide +kernel
theorem dX6_kinds_205 : decode cX6_kinds 205 = .ok (.bipush (-7), 2) := by decide +kernel
theorem dX6_kinds_207 : decode cX6_kinds 207 = .ok (.ireturn, 1) := by decide +kernel
theorem dX6_whose_0 : decode cX6_whose 0 = .ok (.aload_n 0, 1) := by decide +kernel
theorem dX6_whose_1 : decode cX6_whose 1 = .ok (.iload_n 1, 1) := by decide +kernel
theorem dX6_whose_2 : decode cX6_whose 2 = .ok (.invokevirtual 286, 3) := by decide +kernel
theorem dX6_whose_5 : decode cX6_whose 5 = .ok (.istore_n 2, 1) := by decide +kernel
theorem dX6_whose_6 : decode cX6_whose 6 = .ok (.iload_n 2, 1) := by decide +kernel
theorem dX6_whose_7 : decode cX6_whose 7 = .ok (.ifCond .eq 5, 3) := by decide +kernel
theorem dX6_whose_10 : decode cX6_whose 10 = .ok (.iload_n 2, 1) := by decide +kernel
theorem dX6_whose_11 : decode cX6_whose 11 = .ok (.ireturn, 1) := by decide +kernel
theorem dX6_whose_12 : decode cX6_whose 12 = .ok (.iconst 0, 1) := by decide +kernel
theorem dX6_whose_13 : decode cX6_whose 13 = .ok (.istore_n 3, 1) := by decide +kernel
theorem dX6_whose_14 : decode cX6_whose 14 = .ok (.iconst 0, 1) := by decide +kernel
theorem dX6_whose_15 : decode cX6_whose 15 = .ok (.istore 4, 2) := by decide +kernel
theorem dX6_whose_17 : decode cX6_whose 17 = .ok (.iload 4, 2) := by decide +kernel
theorem dX6_whose_19 : decode cX6_whose 19 = .ok (.aload_n 0, 1) := by decide +kernel
theorem dX6_whose_20 : decode cX6_whose 20 = .ok (.getfield 76, 3) := by decide +kernel
theorem dX6_whose_23 : decode cX6_whose 23 = .ok (.if_icmp .ge 28, 3) := by decide +kernel
theorem dX6_whose_26 : decode cX6_whose 26 = .ok (.iload_n 3, 1) := by decide +kernel
theorem dX6_whose_27 : decode cX6_whose 27 = .ok (.iload 4, 2) := by decide +kernel
theorem dX6_whose_29 : decode cX6_whose 29 = .ok (.aload_n 0, 1) := by decide +kernel
theorem dX6_whose_30 : decode cX6_whose 30 = .ok (.iload_n 1, 1) := by decide +kernel
theorem dX6_whose_31 : decode cX6_whose 31 = .ok (.invokevirtual 171, 3) := by decide +kernel
theorem dX6_whose_34 : decode cX6_whose 34 = .ok (.aload_n 0, 1) := by decide +kernel
theorem dX6_whose_35 : decode cX6_whose 35 = .ok (.iload 4, 2) := by decide +kernel
theorem dX6_whose_37 : decode cX6_whose 37 = .ok (.invokevirtual 121, 3) := by decide +kernel
theorem dX6_whose_40 : decode cX6_whose 40 = .ok (.invokestatic 282, 3) := by decide +kernel
theorem dX6_whose_43 : decode cX6_whose 43 = .ok (.ior, 1) := by decide +kernel
theorem dX6_whose_44 : decode cX6_whose 44 = .ok (.istore_n 3, 1) := by decide +kernel
theorem dX6_whose_45 : decode cX6_whose 45 = .ok (.iinc 4 1, 3) := by decide +kernel
theorem dX6_whose_48 : decode cX6_whose 48 = .ok (.goto (-31), 3) := by decide +kernel
theorem dX6_whose_51 : decode cX6_whose 51 = .ok (.iload_n 3, 1) := by decide +kernel
theorem dX6_whose_52 : decode cX6_whose 52 = .ok (.ireturn, 1) := by decide +kernel
theorem dX6_laws_0 : decode cX6_laws 0 = .ok (.aload_n 0, 1) := by decide +kernel
theorem dX6_laws_1 : decode cX6_laws 1 = .ok (.iload_n 1, 1) := by decide +kernel
theorem dX6_laws_2 : decode cX6_laws 2 = .ok (.iload_n 2, 1) := by decide +kernel
theorem dX6_laws_3 : decode cX6_laws 3 = .ok (.invokevirtual 275, 3) := by decide +kernel
theorem dX6_laws_6 : decode cX6_laws 6 = .ok (.istore_n 3, 1) := by decide +kernel
theorem dX6_laws_7 : decode cX6_laws 7 = .ok (.iload_n 3, 1) := by decide +kernel
theorem dX6_laws_8 : decode cX6_laws 8 = .ok (.ifCond .eq 5, 3) := by decide +kernel
theorem dX6_laws_11 : decode cX6_laws 11 = .ok (.iload_n 3, 1) := by decide +kernel
theorem dX6_laws_12 : decode cX6_laws 12 = .ok (.ireturn, 1) := by decide +kernel
theorem dX6_laws_13 : decode cX6_laws 13 = .ok (.aload_n 0, 1) := by decide +kernel
theorem dX6_laws_14 : decode cX6_laws 14 = .ok (.iload_n 2, 1) := by decide +kernel
theorem dX6_laws_15 : decode cX6_laws 15 = .ok (.invokevirtual 121, 3) := by decide +kernel
theorem dX6_laws_18 : decode cX6_laws 18 = .ok (.astore 4, 2) := by decide +kernel
theorem dX6_laws_20 : decode cX6_laws 20 = .ok (.iconst 0, 1) := by decide +kernel
theorem dX6_laws_21 : decode cX6_laws 21 = .ok (.istore 5, 2) := by decide +kernel
theorem dX6_laws_23 : decode cX6_laws 23 = .ok (.iconst 0, 1) := by decide +kernel
theorem dX6_laws_24 : decode cX6_laws 24 = .ok (.istore 6, 2) := by decide +kernel
theorem dX6_laws_26 : decode cX6_laws 26 = .ok (.iload 6, 2) := by decide +kernel
theorem dX6_laws_28 : decode cX6_laws 28 = .ok (.aload_n 0, 1) := by decide +kernel
theorem dX6_laws_29 : decode cX6_laws 29 = .ok (.getfield 36, 3) := by decide +kernel
theorem dX6_laws_32 : decode cX6_laws 32 = .ok (.if_icmp .ge 45, 3) := by decide +kernel
theorem dX6_laws_35 : decode cX6_laws 35 = .ok (.aload 4, 2) := by decide +kernel
theorem dX6_laws_37 : decode cX6_laws 37 = .ok (.aload_n 0, 1) := by decide +kernel
theorem dX6_laws_38 : decode cX6_laws 38 = .ok (.getfield 7, 3) := by decide +kernel
theorem dX6_laws_41 : decode cX6_laws 41 = .ok (.aload_n 0, 1) := by decide +kernel
theorem dX6_laws_42 : decode cX6_laws 42 = .ok (.getfield 13, 3) := by decide +kernel
theorem dX6_laws_45 : decode cX6_laws 45 = .ok (.aload_n 0, 1) := by decide +kernel
theorem dX6_laws_46 : decode cX6_laws 46 = .ok (.iload 6, 2) := by decide +kernel
theorem dX6_laws_48 : decode cX6_laws 48 = .ok (.invokevirtual 216, 3) := by decide +kernel
theorem dX6_laws_51 : decode cX6_laws 51 = .ok (.invokevirtual 220, 3) := by decide +kernel
theorem dX6_laws_54 : decode cX6_laws 54 = .ok (.iload 5, 2) := by decide +kernel
theorem dX6_laws_56 : decode cX6_laws 56 = .ok (.iload 6, 2) := by decide +kernel
theorem dX6_laws_58 : decode cX6_laws 58 = .ok (.aload_n 0, 1) := by decide +kernel
theorem dX6_laws_59 : decode cX6_laws 59 = .ok (.iload_n 1, 1) := by decide +kernel
theorem dX6_laws_60 : decode cX6_laws 60 = .ok (.invokevirtual 171, 3) := by decide +kernel
theorem dX6_laws_63 : decode cX6_laws 63 = .ok (.aload 4, 2) := by decide +kernel
theorem dX6_laws_65 : decode cX6_laws 65 = .ok (.invokestatic 282, 3) := by decide +kernel
theorem dX6_laws_68 : decode cX6_laws 68 = .ok (.ior, 1) := by decide +kernel
theorem dX6_laws_69 : decode cX6_laws 69 = .ok (.istore 5, 2) := by decide +kernel
theorem dX6_laws_71 : decode cX6_laws 71 = .ok (.iinc 6 1, 3) := by decide +kernel
theorem dX6_laws_74 : decode cX6_laws 74 = .ok (.goto (-48), 3) := by decide +kernel
theorem dX6_laws_77 : decode cX6_laws 77 = .ok (.iload 5, 2) := by decide +kernel
theorem dX6_laws_79 : decode cX6_laws 79 = .ok (.ireturn, 1) := by decide +kernel
theorem dX6_film_0 : decode cX6_film 0 = .ok (.iload_n 1, 1) := by decide +kernel
theorem dX6_film_1 : decode cX6_film 1 = .ok (.invokestatic 289, 3) := by decide +kernel
theorem dX6_film_4 : decode cX6_film 4 = .ok (.ifCond .ne 6, 3) := by decide +kernel
theorem dX6_film_7 : decode cX6_film 7 = .ok (.bipush (-2), 2) := by decide +kernel
theorem dX6_film_9 : decode cX6_film 9 = .ok (.ireturn, 1) := by decide +kernel
theorem dX6_film_10 : decode cX6_film 10 = .ok (.aload_n 0, 1) := by decide +kernel
theorem dX6_film_11 : decode cX6_film 11 = .ok (.iload_n 2, 1) := by decide +kernel
theorem dX6_film_12 : decode cX6_film 12 = .ok (.invokevirtual 115, 3) := by decide +kernel
theorem dX6_film_15 : decode cX6_film 15 = .ok (.ifCond .ne 6, 3) := by decide +kernel
theorem dX6_film_18 : decode cX6_film 18 = .ok (.bipush (-5), 2) := by decide +kernel
theorem dX6_film_20 : decode cX6_film 20 = .ok (.ireturn, 1) := by decide +kernel
theorem dX6_film_21 : decode cX6_film 21 = .ok (.iload 4, 2) := by decide +kernel
theorem dX6_film_23 : decode cX6_film 23 = .ok (.bipush 100, 2) := by decide +kernel
theorem dX6_film_25 : decode cX6_film 25 = .ok (.idiv, 1) := by decide +kernel
theorem dX6_film_26 : decode cX6_film 26 = .ok (.istore 5, 2) := by decide +kernel
theorem dX6_film_28 : decode cX6_film 28 = .ok (.iload 4, 2) := by decide +kernel
theorem dX6_film_30 : decode cX6_film 30 = .ok (.bipush 100, 2) := by decide +kernel
theorem dX6_film_32 : decode cX6_film 32 = .ok (.irem, 1) := by decide +kernel
theorem dX6_film_33 : decode cX6_film 33 = .ok (.istore 6, 2) := by decide +kernel
theorem dX6_film_35 : decode cX6_film 35 = .ok (.iload_n 3, 1) := by decide +kernel
theorem dX6_film_36 : decode cX6_film 36 = .ok (.iconst 0, 1) := by decide +kernel
theorem dX6_film_37 : decode cX6_film 37 = .ok (.sipush 999, 3) := by decide +kernel
theorem dX6_film_40 : decode cX6_film 40 = .ok (.invokestatic 86, 3) := by decide +kernel
theorem dX6_film_43 : decode cX6_film 43 = .ok (.ifCond .eq 22, 3) := by decide +kernel
theorem dX6_film_46 : decode cX6_film 46 = .ok (.iload 4, 2) := by decide +kernel
theorem dX6_film_48 : decode cX6_film 48 = .ok (.ifCond .lt 17, 3) := by decide +kernel
theorem dX6_film_51 : decode cX6_film 51 = .ok (.iload 5, 2) := by decide +kernel
theorem dX6_film_53 : decode cX6_film 53 = .ok (.bipush 99, 2) := by decide +kernel
theorem dX6_film_55 : decode cX6_film 55 = .ok (.if_icmp .gt 10, 3) := by decide +kernel
theorem dX6_film_58 : decode cX6_film 58 = .ok (.iload 6, 2) := by decide +kernel
theorem dX6_film_60 : decode cX6_film 60 = .ok (.bipush 20, 2) := by decide +kernel
theorem dX6_film_62 : decode cX6_film 62 = .ok (.if_icmp .le 6, 3) := by decide +kernel
theorem dX6_film_65 : decode cX6_film 65 = .ok (.bipush (-7), 2) := by decide +kernel
theorem dX6_film_67 : decode cX6_film 67 = .ok (.ireturn, 1) := by decide +kernel
theorem dX6_film_68 : decode cX6_film 68 = .ok (.aload_n 0, 1) := by decide +kernel
theorem dX6_film_69 : decode cX6_film 69 = .ok (.iload_n 1, 1) := by decide +kernel
theorem dX6_film_70 : decode cX6_film 70 = .ok (.invokevirtual 171, 3) := by decide +kernel
theorem dX6_film_73 : decode cX6_film 73 = .ok (.astore 7, 2) := by decide +kernel
theorem dX6_film_75 : decode cX6_film 75 = .ok (.aload_n 0, 1) := by decide +kernel
theorem dX6_film_76 : decode cX6_film 76 = .ok (.iload_n 2, 1) := by decide +kernel
theorem dX6_film_77 : decode cX6_film 77 = .ok (.invokevirtual 121, 3) := by decide +kernel
theorem dX6_film_80 : decode cX6_film 80 = .ok (.astore 8, 2) := by decide +kernel
theorem dX6_film_82 : decode cX6_film 82 = .ok (.aload 7, 2) := by decide +kernel
theorem dX6_film_84 : decode cX6_film 84 = .ok (.iconst 2, 1) := by decide +kernel
theorem dX6_film_85 : decode cX6_film 85 = .ok (.iconst 2, 1) := by decide +kernel
theorem dX6_film_86 : decode cX6_film 86 = .ok (.iload 6, 2) := by decide +kernel
theorem dX6_film_88 : decode cX6_film 88 = .ok (.imul, 1) := by decide +kernel
theorem dX6_film_89 : decode cX6_film 89 = .ok (.invokevirtual 292, 3) := by decide +kernel
theorem dX6_film_92 : decode cX6_film 92 = .ok (.iconst 0, 1) := by decide +kernel
theorem dX6_film_93 : decode cX6_film 93 = .ok (.istore 9, 2) := by decide +kernel
theorem dX6_film_95 : decode cX6_film 95 = .ok (.iload 9, 2) := by decide +kernel
theorem dX6_film_97 : decode cX6_film 97 = .ok (.iload 6, 2) := by decide +kernel
theorem dX6_film_99 : decode cX6_film 99 = .ok (.if_icmp .ge 59, 3) := by decide +kernel
theorem dX6_film_102 : decode cX6_film 102 = .ok (.iload_n 3, 1) := by decide +kernel
theorem dX6_film_103 : decode cX6_film 103 = .ok (.iload 9, 2) := by decide +kernel
theorem dX6_film_105 : decode cX6_film 105 = .ok (.iload 5, 2) := by decide +kernel
theorem dX6_film_107 : decode cX6_film 107 = .ok (.imul, 1) := by decide +kernel
theorem dX6_film_108 : decode cX6_film 108 = .ok (.iadd, 1) := by decide +kernel
theorem dX6_film_109 : decode cX6_film 109 = .ok (.istore 10, 2) := by decide +kernel
theorem dX6_film_111 : decode cX6_film 111 = .ok (.aload 8, 2) := by decide +kernel
theorem dX6_film_113 : decode cX6_film 113 = .ok (.iload 10, 2) := by decide +kernel
theorem dX6_film_115 : decode cX6_film 115 = .ok (.invokevirtual 135, 3) := by decide +kernel
theorem dX6_film_118 : decode cX6_film 118 = .ok (.aload 7, 2) := by decide +kernel
theorem dX6_film_120 : decode cX6_film 120 = .ok (.iconst 2, 1) := by decide +kernel
theorem dX6_film_121 : decode cX6_film 121 = .ok (.iload 9, 2) := by decide +kernel
theorem dX6_film_123 : decode cX6_film 123 = .ok (.imul, 1) := by decide +kernel
theorem dX6_film_124 : decode cX6_film 124 = .ok (.iload 10, 2) := by decide +kernel
theorem dX6_film_126 : decode cX6_film 126 = .ok (.invokevirtual 294, 3) := by decide +kernel
theorem dX6_film_129 : decode cX6_film 129 = .ok (.aload 7, 2) := by decide +kernel
theorem dX6_film_131 : decode cX6_film 131 = .ok (.iconst 2, 1) := by decide +kernel
theorem dX6_film_132 : decode cX6_film 132 = .ok (.iload 9, 2) := by decide +kernel
theorem dX6_film_134 : decode cX6_film 134 = .ok (.imul, 1) := by decide +kernel
theorem dX6_film_135 : decode cX6_film 135 = .ok (.iconst 1, 1) := by decide +kernel
theorem dX6_film_136 : decode cX6_film 136 = .ok (.iadd, 1) := by decide +kernel
theorem dX6_film_137 : decode cX6_film 137 = .ok (.aload 8, 2) := by decide +kernel
theorem dX6_film_139 : decode cX6_film 139 = .ok (.invokevirtual 153, 3) := by decide +kernel
theorem dX6_film_142 : decode cX6_film 142 = .ok (.ldc2_w 297, 3) := by decide +kernel
theorem dX6_film_145 : decode cX6_film 145 = .ok (.invokestatic 188, 3) := by decide +kernel
theorem dX6_film_148 : decode cX6_film 148 = .ok (.l2i, 1) := by decide +kernel
theorem dX6_film_149 : decode cX6_film 149 = .ok (.invokevirtual 294, 3) := by decide +kernel
theorem dX6_film_152 : decode cX6_film 152 = .ok (.iinc 9 1, 3) := by decide +kernel
theorem dX6_film_155 : decode cX6_film 155 = .ok (.goto (-60), 3) := by decide +kernel
theorem dX6_film_158 : decode cX6_film 158 = .ok (.iload 6, 2) := by decide +kernel
theorem dX6_film_160 : decode cX6_film 160 = .ok (.ireturn, 1) := by decide +kernel
theorem dX6_bitOf_0 : decode cX6_bitOf 0 = .ok (.aload_n 1, 1) := by decide +kernel
theorem dX6_bitOf_1 : decode cX6_bitOf 1 = .ok (.aload_n 2, 1) := by decide +kernel
theorem dX6_bitOf_2 : decode cX6_bitOf 2 = .ok (.invokestatic 278, 3) := by decide +kernel
theorem dX6_bitOf_5 : decode cX6_bitOf 5 = .ok (.iconst (-1), 1) := by decide +kernel
theorem dX6_bitOf_6 : decode cX6_bitOf 6 = .ok (.if_icmp .ne 9, 3) := by decide +kernel
theorem dX6_bitOf_9 : decode cX6_bitOf 9 = .ok (.iconst 1, 1) := by decide +kernel
theorem dX6_bitOf_10 : decode cX6_bitOf 10 = .ok (.iload_n 0, 1) := by decide +kernel
theorem dX6_bitOf_11 : decode cX6_bitOf 11 = .ok (.ishl, 1) := by decide +kernel
theorem dX6_bitOf_12 : decode cX6_bitOf 12 = .ok (.goto 4, 3) := by decide +kernel
theorem dX6_bitOf_15 : decode cX6_bitOf 15 = .ok (.iconst 0, 1) := by decide +kernel
theorem dX6_bitOf_16 : decode cX6_bitOf 16 = .ok (.ireturn, 1) := by decide +kernel
theorem dX6_firstOtherwise_0 : decode cX6_firstOtherwise 0 = .ok (.iconst 0, 1) := by decide +kernel
theorem dX6_firstOtherwise_1 : decode cX6_firstOtherwise 1 = .ok (.istore_n 2, 1) := by decide +kernel
theorem dX6_firstOtherwise_2 : decode cX6_firstOtherwise 2 = .ok (.iload_n 2, 1) := by decide +kernel
theorem dX6_firstOtherwise_3 : decode cX6_firstOtherwise 3 = .ok (.aload_n 0, 1) := by decide +kernel
theorem dX6_firstOtherwise_4 : decode cX6_firstOtherwise 4 = .ok (.invokevirtual 198, 3) := by decide +kernel
theorem dX6_firstOtherwise_7 : decode cX6_firstOtherwise 7 = .ok (.iconst 2, 1) := by decide +kernel
theorem dX6_firstOtherwise_8 : decode cX6_firstOtherwise 8 = .ok (.idiv, 1) := by decide +kernel
theorem dX6_firstOtherwise_9 : decode cX6_firstOtherwise 9 = .ok (.if_icmp .ge 40, 3) := by decide +kernel
theorem dX6_firstOtherwise_12 : decode cX6_firstOtherwise 12 = .ok (.aload_n 1, 1) := by decide +kernel
theorem dX6_firstOtherwise_13 : decode cX6_firstOtherwise 13 = .ok (.aload_n 0, 1) := by decide +kernel
theorem dX6_firstOtherwise_14 : decode cX6_firstOtherwise 14 = .ok (.iconst 2, 1) := by decide +kernel
theorem dX6_firstOtherwise_15 : decode cX6_firstOtherwise 15 = .ok (.iload_n 2, 1) := by decide +kernel
theorem dX6_firstOtherwise_16 : decode cX6_firstOtherwise 16 = .ok (.imul, 1) := by decide +kernel
theorem dX6_firstOtherwise_17 : decode cX6_firstOtherwise 17 = .ok (.invokevirtual 199, 3) := by decide +kernel
theorem dX6_firstOtherwise_20 : decode cX6_firstOtherwise 20 = .ok (.invokevirtual 135, 3) := by decide +kernel
theorem dX6_firstOtherwise_23 : decode cX6_firstOtherwise 23 = .ok (.aload_n 1, 1) := by decide +kernel
theorem dX6_firstOtherwise_24 : decode cX6_firstOtherwise 24 = .ok (.invokevirtual 153, 3) := by decide +kernel
theorem dX6_firstOtherwise_27 : decode cX6_firstOtherwise 27 = .ok (.aload_n 0, 1) := by decide +kernel
theorem dX6_firstOtherwise_28 : decode cX6_firstOtherwise 28 = .ok (.iconst 2, 1) := by decide +kernel
theorem dX6_firstOtherwise_29 : decode cX6_firstOtherwise 29 = .ok (.iload_n 2, 1) := by decide +kernel
theorem dX6_firstOtherwise_30 : decode cX6_firstOtherwise 30 = .ok (.imul, 1) := by decide +kernel
theorem dX6_firstOtherwise_31 : decode cX6_firstOtherwise 31 = .ok (.iconst 1, 1) := by decide +kernel
theorem dX6_firstOtherwise_32 : decode cX6_firstOtherwise 32 = .ok (.iadd, 1) := by decide +kernel
theorem dX6_firstOtherwise_33 : decode cX6_firstOtherwise 33 = .ok (.invokevirtual 199, 3) := by decide +kernel
theorem dX6_firstOtherwise_36 : decode cX6_firstOtherwise 36 = .ok (.i2l, 1) := by decide +kernel
theorem dX6_firstOtherwise_37 : decode cX6_firstOtherwise 37 = .ok (.lcmp, 1) := by decide +kernel
theorem dX6_firstOtherwise_38 : decode cX6_firstOtherwise 38 = .ok (.ifCond .eq 5, 3) := by decide +kernel
theorem dX6_firstOtherwise_41 : decode cX6_firstOtherwise 41 = .ok (.iload_n 2, 1) := by decide +kernel
theorem dX6_firstOtherwise_42 : decode cX6_firstOtherwise 42 = .ok (.ireturn, 1) := by decide +kernel
theorem dX6_firstOtherwise_43 : decode cX6_firstOtherwise 43 = .ok (.iinc 2 1, 3) := by decide +kernel
theorem dX6_firstOtherwise_46 : decode cX6_firstOtherwise 46 = .ok (.goto (-44), 3) := by decide +kernel
theorem dX6_firstOtherwise_49 : decode cX6_firstOtherwise 49 = .ok (.iconst (-1), 1) := by decide +kernel
theorem dX6_firstOtherwise_50 : decode cX6_firstOtherwise 50 = .ok (.ireturn, 1) := by decide +kernel
theorem dX6_refusalOfRows_0 : decode cX6_refusalOfRows 0 = .ok (.aload_n 0, 1) := by decide +kernel
theorem dX6_refusalOfRows_1 : decode cX6_refusalOfRows 1 = .ok (.iload_n 1, 1) := by decide +kernel
theorem dX6_refusalOfRows_2 : decode cX6_refusalOfRows 2 = .ok (.invokevirtual 228, 3) := by decide +kernel
theorem dX6_refusalOfRows_5 : decode cX6_refusalOfRows 5 = .ok (.istore_n 2, 1) := by decide +kernel
theorem dX6_refusalOfRows_6 : decode cX6_refusalOfRows 6 = .ok (.iload_n 2, 1) := by decide +kernel
theorem dX6_refusalOfRows_7 : decode cX6_refusalOfRows 7 = .ok (.ifCond .eq 5, 3) := by decide +kernel
theorem dX6_refusalOfRows_10 : decode cX6_refusalOfRows 10 = .ok (.iload_n 2, 1) := by decide +kernel
theorem dX6_refusalOfRows_11 : decode cX6_refusalOfRows 11 = .ok (.ireturn, 1) := by decide +kernel
theorem dX6_refusalOfRows_12 : decode cX6_refusalOfRows 12 = .ok (.aload_n 0, 1) := by decide +kernel
theorem dX6_refusalOfRows_13 : decode cX6_refusalOfRows 13 = .ok (.iload_n 1, 1) := by decide +kernel
theorem dX6_refusalOfRows_14 : decode cX6_refusalOfRows 14 = .ok (.invokevirtual 171, 3) := by decide +kernel
theorem dX6_refusalOfRows_17 : decode cX6_refusalOfRows 17 = .ok (.astore_n 3, 1) := by decide +kernel
theorem dX6_refusalOfRows_18 : decode cX6_refusalOfRows 18 = .ok (.aload_n 3, 1) := by decide +kernel
theorem dX6_refusalOfRows_19 : decode cX6_refusalOfRows 19 = .ok (.invokevirtual 198, 3) := by decide +kernel
theorem dX6_refusalOfRows_22 : decode cX6_refusalOfRows 22 = .ok (.iconst 2, 1) := by decide +kernel
theorem dX6_refusalOfRows_23 : decode cX6_refusalOfRows 23 = .ok (.irem, 1) := by decide +kernel
theorem dX6_refusalOfRows_24 : decode cX6_refusalOfRows 24 = .ok (.ifCond .eq 6, 3) := by decide +kernel
theorem dX6_refusalOfRows_27 : decode cX6_refusalOfRows 27 = .ok (.bipush (-2), 2) := by decide +kernel
theorem dX6_refusalOfRows_29 : decode cX6_refusalOfRows 29 = .ok (.ireturn, 1) := by decide +kernel
theorem dX6_refusalOfRows_30 : decode cX6_refusalOfRows 30 = .ok (.iconst 0, 1) := by decide +kernel
theorem dX6_refusalOfRows_31 : decode cX6_refusalOfRows 31 = .ok (.istore 4, 2) := by decide +kernel
theorem dX6_refusalOfRows_33 : decode cX6_refusalOfRows 33 = .ok (.iload 4, 2) := by decide +kernel
theorem dX6_refusalOfRows_35 : decode cX6_refusalOfRows 35 = .ok (.aload_n 3, 1) := by decide +kernel
theorem dX6_refusalOfRows_36 : decode cX6_refusalOfRows 36 = .ok (.invokevirtual 198, 3) := by decide +kernel
theorem dX6_refusalOfRows_39 : decode cX6_refusalOfRows 39 = .ok (.if_icmp .ge 24, 3) := by decide +kernel
theorem dX6_refusalOfRows_42 : decode cX6_refusalOfRows 42 = .ok (.aload_n 3, 1) := by decide +kernel
theorem dX6_refusalOfRows_43 : decode cX6_refusalOfRows 43 = .ok (.iload 4, 2) := by decide +kernel
theorem dX6_refusalOfRows_45 : decode cX6_refusalOfRows 45 = .ok (.invokevirtual 199, 3) := by decide +kernel
theorem dX6_refusalOfRows_48 : decode cX6_refusalOfRows 48 = .ok (.invokestatic 118, 3) := by decide +kernel
theorem dX6_refusalOfRows_51 : decode cX6_refusalOfRows 51 = .ok (.ifCond .ne 6, 3) := by decide +kernel
theorem dX6_refusalOfRows_54 : decode cX6_refusalOfRows 54 = .ok (.bipush (-2), 2) := by decide +kernel
theorem dX6_refusalOfRows_56 : decode cX6_refusalOfRows 56 = .ok (.ireturn, 1) := by decide +kernel
theorem dX6_refusalOfRows_57 : decode cX6_refusalOfRows 57 = .ok (.iinc 4 2, 3) := by decide +kernel
theorem dX6_refusalOfRows_60 : decode cX6_refusalOfRows 60 = .ok (.goto (-27), 3) := by decide +kernel
theorem dX6_refusalOfRows_63 : decode cX6_refusalOfRows 63 = .ok (.iconst 0, 1) := by decide +kernel
theorem dX6_refusalOfRows_64 : decode cX6_refusalOfRows 64 = .ok (.ireturn, 1) := by decide +kernel
theorem dX6_refusalOfRowsBy_0 : decode cX6_refusalOfRowsBy 0 = .ok (.aload_n 0, 1) := by decide +kernel
theorem dX6_refusalOfRowsBy_1 : decode cX6_refusalOfRowsBy 1 = .ok (.iload_n 1, 1) := by decide +kernel
theorem dX6_refusalOfRowsBy_2 : decode cX6_refusalOfRowsBy 2 = .ok (.invokevirtual 286, 3) := by decide +kernel
theorem dX6_refusalOfRowsBy_5 : decode cX6_refusalOfRowsBy 5 = .ok (.istore_n 3, 1) := by decide +kernel
theorem dX6_refusalOfRowsBy_6 : decode cX6_refusalOfRowsBy 6 = .ok (.iload_n 3, 1) := by decide +kernel
theorem dX6_refusalOfRowsBy_7 : decode cX6_refusalOfRowsBy 7 = .ok (.ifCond .eq 5, 3) := by decide +kernel
theorem dX6_refusalOfRowsBy_10 : decode cX6_refusalOfRowsBy 10 = .ok (.iload_n 3, 1) := by decide +kernel
theorem dX6_refusalOfRowsBy_11 : decode cX6_refusalOfRowsBy 11 = .ok (.ireturn, 1) := by decide +kernel
theorem dX6_refusalOfRowsBy_12 : decode cX6_refusalOfRowsBy 12 = .ok (.aload_n 0, 1) := by decide +kernel
theorem dX6_refusalOfRowsBy_13 : decode cX6_refusalOfRowsBy 13 = .ok (.iload_n 2, 1) := by decide +kernel
theorem dX6_refusalOfRowsBy_14 : decode cX6_refusalOfRowsBy 14 = .ok (.invokevirtual 115, 3) := by decide +kernel
theorem dX6_refusalOfRowsBy_17 : decode cX6_refusalOfRowsBy 17 = .ok (.ifCond .eq 7, 3) := by decide +kernel
theorem dX6_refusalOfRowsBy_20 : decode cX6_refusalOfRowsBy 20 = .ok (.iconst 0, 1) := by decide +kernel
theorem dX6_refusalOfRowsBy_21 : decode cX6_refusalOfRowsBy 21 = .ok (.goto 5, 3) := by decide +kernel
theorem dX6_refusalOfRowsBy_24 : decode cX6_refusalOfRowsBy 24 = .ok (.bipush (-5), 2) := by decide +kernel
theorem dX6_refusalOfRowsBy_26 : decode cX6_refusalOfRowsBy 26 = .ok (.ireturn, 1) := by decide +kernel
theorem dX6_drawn_0 : decode cX6_drawn 0 = .ok (.aload_n 0, 1) := by decide +kernel
theorem dX6_drawn_1 : decode cX6_drawn 1 = .ok (.iload_n 2, 1) := by decide +kernel
theorem dX6_drawn_2 : decode cX6_drawn 2 = .ok (.invokevirtual 115, 3) := by decide +kernel
theorem dX6_drawn_5 : decode cX6_drawn 5 = .ok (.ifCond .ne 7, 3) := by decide +kernel
theorem dX6_drawn_8 : decode cX6_drawn 8 = .ok (.ldc2_w 145, 3) := by decide +kernel
theorem dX6_drawn_11 : decode cX6_drawn 11 = .ok (.lreturn, 1) := by decide +kernel
theorem dX6_drawn_12 : decode cX6_drawn 12 = .ok (.iload_n 1, 1) := by decide +kernel
theorem dX6_drawn_13 : decode cX6_drawn 13 = .ok (.invokestatic 118, 3) := by decide +kernel
theorem dX6_drawn_16 : decode cX6_drawn 16 = .ok (.ifCond .eq 10, 3) := by decide +kernel
theorem dX6_drawn_19 : decode cX6_drawn 19 = .ok (.iload_n 3, 1) := by decide +kernel
theorem dX6_drawn_20 : decode cX6_drawn 20 = .ok (.invokestatic 118, 3) := by decide +kernel
theorem dX6_drawn_23 : decode cX6_drawn 23 = .ok (.ifCond .ne 7, 3) := by decide +kernel
theorem dX6_drawn_26 : decode cX6_drawn 26 = .ok (.ldc2_w 147, 3) := by decide +kernel
theorem dX6_drawn_29 : decode cX6_drawn 29 = .ok (.lreturn, 1) := by decide +kernel
theorem dX6_drawn_30 : decode cX6_drawn 30 = .ok (.aload_n 0, 1) := by decide +kernel
theorem dX6_drawn_31 : decode cX6_drawn 31 = .ok (.iload_n 2, 1) := by decide +kernel
theorem dX6_drawn_32 : decode cX6_drawn 32 = .ok (.invokevirtual 121, 3) := by decide +kernel
theorem dX6_drawn_35 : decode cX6_drawn 35 = .ok (.astore 4, 2) := by decide +kernel
theorem dX6_drawn_37 : decode cX6_drawn 37 = .ok (.aload 4, 2) := by decide +kernel
theorem dX6_drawn_39 : decode cX6_drawn 39 = .ok (.iconst 1, 1) := by decide +kernel
theorem dX6_drawn_40 : decode cX6_drawn 40 = .ok (.iload_n 3, 1) := by decide +kernel
theorem dX6_drawn_41 : decode cX6_drawn 41 = .ok (.iconst 0, 1) := by decide +kernel
theorem dX6_drawn_42 : decode cX6_drawn 42 = .ok (.invokevirtual 125, 3) := by decide +kernel
theorem dX6_drawn_45 : decode cX6_drawn 45 = .ok (.istore 5, 2) := by decide +kernel
theorem dX6_drawn_47 : decode cX6_drawn 47 = .ok (.aload 4, 2) := by decide +kernel
theorem dX6_drawn_49 : decode cX6_drawn 49 = .ok (.iload_n 3, 1) := by decide +kernel
theorem dX6_drawn_50 : decode cX6_drawn 50 = .ok (.invokevirtual 135, 3) := by decide +kernel
theorem dX6_drawn_53 : decode cX6_drawn 53 = .ok (.aload 4, 2) := by decide +kernel
theorem dX6_drawn_55 : decode cX6_drawn 55 = .ok (.iload_n 1, 1) := by decide +kernel
theorem dX6_drawn_56 : decode cX6_drawn 56 = .ok (.iload 5, 2) := by decide +kernel
theorem dX6_drawn_58 : decode cX6_drawn 58 = .ok (.invokevirtual 299, 3) := by decide +kernel
theorem dX6_drawn_61 : decode cX6_drawn 61 = .ok (.aload 4, 2) := by decide +kernel
theorem dX6_drawn_63 : decode cX6_drawn 63 = .ok (.invokevirtual 202, 3) := by decide +kernel
theorem dX6_drawn_66 : decode cX6_drawn 66 = .ok (.lreturn, 1) := by decide +kernel
theorem dX6_odds_0 : decode cX6_odds 0 = .ok (.iload_n 1, 1) := by decide +kernel
theorem dX6_odds_1 : decode cX6_odds 1 = .ok (.invokestatic 118, 3) := by decide +kernel
theorem dX6_odds_4 : decode cX6_odds 4 = .ok (.ifCond .eq 33, 3) := by decide +kernel
theorem dX6_odds_7 : decode cX6_odds 7 = .ok (.iload_n 2, 1) := by decide +kernel
theorem dX6_odds_8 : decode cX6_odds 8 = .ok (.iconst 1, 1) := by decide +kernel
theorem dX6_odds_9 : decode cX6_odds 9 = .ok (.bipush 60, 2) := by decide +kernel
theorem dX6_odds_11 : decode cX6_odds 11 = .ok (.invokestatic 86, 3) := by decide +kernel
theorem dX6_odds_14 : decode cX6_odds 14 = .ok (.ifCond .eq 23, 3) := by decide +kernel
theorem dX6_odds_17 : decode cX6_odds 17 = .ok (.iload 4, 2) := by decide +kernel
theorem dX6_odds_19 : decode cX6_odds 19 = .ok (.invokestatic 118, 3) := by decide +kernel
theorem dX6_odds_22 : decode cX6_odds 22 = .ok (.ifCond .eq 15, 3) := by decide +kernel
theorem dX6_odds_25 : decode cX6_odds 25 = .ok (.iload 5, 2) := by decide +kernel
theorem dX6_odds_27 : decode cX6_odds 27 = .ok (.invokestatic 160, 3) := by decide +kernel
theorem dX6_odds_30 : decode cX6_odds 30 = .ok (.ifCond .eq 7, 3) := by decide +kernel
theorem dX6_odds_33 : decode cX6_odds 33 = .ok (.iconst 1, 1) := by decide +kernel
theorem dX6_odds_34 : decode cX6_odds 34 = .ok (.goto 4, 3) := by decide +kernel
theorem dX6_odds_37 : decode cX6_odds 37 = .ok (.iconst 0, 1) := by decide +kernel
theorem dX6_odds_38 : decode cX6_odds 38 = .ok (.istore 6, 2) := by decide +kernel
theorem dX6_odds_40 : decode cX6_odds 40 = .ok (.iload 6, 2) := by decide +kernel
theorem dX6_odds_42 : decode cX6_odds 42 = .ok (.ifCond .eq 11, 3) := by decide +kernel
theorem dX6_odds_45 : decode cX6_odds 45 = .ok (.aload_n 0, 1) := by decide +kernel
theorem dX6_odds_46 : decode cX6_odds 46 = .ok (.iload_n 3, 1) := by decide +kernel
theorem dX6_odds_47 : decode cX6_odds 47 = .ok (.invokevirtual 115, 3) := by decide +kernel
theorem dX6_odds_50 : decode cX6_odds 50 = .ok (.ifCond .ne 7, 3) := by decide +kernel
theorem dX6_odds_53 : decode cX6_odds 53 = .ok (.ldc2_w 302, 3) := by decide +kernel
theorem dX6_odds_56 : decode cX6_odds 56 = .ok (.lreturn, 1) := by decide +kernel
theorem dX6_odds_57 : decode cX6_odds 57 = .ok (.aload_n 0, 1) := by decide +kernel
theorem dX6_odds_58 : decode cX6_odds 58 = .ok (.iload_n 3, 1) := by decide +kernel
theorem dX6_odds_59 : decode cX6_odds 59 = .ok (.invokevirtual 121, 3) := by decide +kernel
theorem dX6_odds_62 : decode cX6_odds 62 = .ok (.astore 7, 2) := by decide +kernel
theorem dX6_odds_64 : decode cX6_odds 64 = .ok (.aload 7, 2) := by decide +kernel
theorem dX6_odds_66 : decode cX6_odds 66 = .ok (.iconst 1, 1) := by decide +kernel
theorem dX6_odds_67 : decode cX6_odds 67 = .ok (.iload 4, 2) := by decide +kernel
theorem dX6_odds_69 : decode cX6_odds 69 = .ok (.iconst 0, 1) := by decide +kernel
theorem dX6_odds_70 : decode cX6_odds 70 = .ok (.invokevirtual 125, 3) := by decide +kernel
theorem dX6_odds_73 : decode cX6_odds 73 = .ok (.istore 8, 2) := by decide +kernel
theorem dX6_odds_75 : decode cX6_odds 75 = .ok (.aload 7, 2) := by decide +kernel
theorem dX6_odds_77 : decode cX6_odds 77 = .ok (.iload 4, 2) := by decide +kernel
theorem dX6_odds_79 : decode cX6_odds 79 = .ok (.invokevirtual 135, 3) := by decide +kernel
theorem dX6_odds_82 : decode cX6_odds 82 = .ok (.aload 7, 2) := by decide +kernel
theorem dX6_odds_84 : decode cX6_odds 84 = .ok (.invokevirtual 202, 3) := by decide +kernel
theorem dX6_odds_87 : decode cX6_odds 87 = .ok (.lstore 9, 2) := by decide +kernel
theorem dX6_odds_89 : decode cX6_odds 89 = .ok (.iconst 0, 1) := by decide +kernel
theorem dX6_odds_90 : decode cX6_odds 90 = .ok (.istore 11, 2) := by decide +kernel
theorem dX6_odds_92 : decode cX6_odds 92 = .ok (.iconst 0, 1) := by decide +kernel
theorem dX6_odds_93 : decode cX6_odds 93 = .ok (.istore 12, 2) := by decide +kernel
theorem dX6_odds_95 : decode cX6_odds 95 = .ok (.iload 12, 2) := by decide +kernel
theorem dX6_odds_97 : decode cX6_odds 97 = .ok (.iload_n 2, 1) := by decide +kernel
theorem dX6_odds_98 : decode cX6_odds 98 = .ok (.if_icmp .ge 41, 3) := by decide +kernel
theorem dX6_odds_101 : decode cX6_odds 101 = .ok (.aload 7, 2) := by decide +kernel
theorem dX6_odds_103 : decode cX6_odds 103 = .ok (.iload 4, 2) := by decide +kernel
theorem dX6_odds_105 : decode cX6_odds 105 = .ok (.invokevirtual 135, 3) := by decide +kernel
theorem dX6_odds_108 : decode cX6_odds 108 = .ok (.aload 7, 2) := by decide +kernel
theorem dX6_odds_110 : decode cX6_odds 110 = .ok (.iload_n 1, 1) := by decide +kernel
theorem dX6_odds_111 : decode cX6_odds 111 = .ok (.iload 12, 2) := by decide +kernel
theorem dX6_odds_113 : decode cX6_odds 113 = .ok (.iadd, 1) := by decide +kernel
theorem dX6_odds_114 : decode cX6_odds 114 = .ok (.iload 8, 2) := by decide +kernel
theorem dX6_odds_116 : decode cX6_odds 116 = .ok (.invokevirtual 299, 3) := by decide +kernel
theorem dX6_odds_119 : decode cX6_odds 119 = .ok (.aload 7, 2) := by decide +kernel
theorem dX6_odds_121 : decode cX6_odds 121 = .ok (.invokevirtual 202, 3) := by decide +kernel
theorem dX6_odds_124 : decode cX6_odds 124 = .ok (.lload 9, 2) := by decide +kernel
theorem dX6_odds_126 : decode cX6_odds 126 = .ok (.lcmp, 1) := by decide +kernel
theorem dX6_odds_127 : decode cX6_odds 127 = .ok (.ifCond .ne 6, 3) := by decide +kernel
theorem dX6_odds_130 : decode cX6_odds 130 = .ok (.iinc 11 1, 3) := by decide +kernel
theorem dX6_odds_133 : decode cX6_odds 133 = .ok (.iinc 12 1, 3) := by decide +kernel
theorem dX6_odds_136 : decode cX6_odds 136 = .ok (.goto (-41), 3) := by decide +kernel
theorem dX6_odds_139 : decode cX6_odds 139 = .ok (.iconst 1, 1) := by decide +kernel
theorem dX6_odds_140 : decode cX6_odds 140 = .ok (.iload 11, 2) := by decide +kernel
theorem dX6_odds_142 : decode cX6_odds 142 = .ok (.iload_n 2, 1) := by decide +kernel
theorem dX6_odds_143 : decode cX6_odds 143 = .ok (.invokestatic 304, 3) := by decide +kernel
theorem dX6_odds_146 : decode cX6_odds 146 = .ok (.invokestatic 307, 3) := by decide +kernel
theorem dX6_odds_149 : decode cX6_odds 149 = .ok (.istore 12, 2) := by decide +kernel
theorem dX6_odds_151 : decode cX6_odds 151 = .ok (.iload 5, 2) := by decide +kernel
theorem dX6_odds_153 : decode cX6_odds 153 = .ok (.ifCond .ne 12, 3) := by decide +kernel
theorem dX6_odds_156 : decode cX6_odds 156 = .ok (.iload 11, 2) := by decide +kernel
theorem dX6_odds_158 : decode cX6_odds 158 = .ok (.iload 12, 2) := by decide +kernel
theorem dX6_odds_160 : decode cX6_odds 160 = .ok (.idiv, 1) := by decide +kernel
theorem dX6_odds_161 : decode cX6_odds 161 = .ok (.i2l, 1) := by decide +kernel
theorem dX6_odds_162 : decode cX6_odds 162 = .ok (.goto 8, 3) := by decide +kernel
theorem dX6_odds_165 : decode cX6_odds 165 = .ok (.iload_n 2, 1) := by decide +kernel
theorem dX6_odds_166 : decode cX6_odds 166 = .ok (.iload 12, 2) := by decide +kernel
theorem dX6_odds_168 : decode cX6_odds 168 = .ok (.idiv, 1) := by decide +kernel
theorem dX6_odds_169 : decode cX6_odds 169 = .ok (.i2l, 1) := by decide +kernel
theorem dX6_odds_170 : decode cX6_odds 170 = .ok (.lreturn, 1) := by decide +kernel
theorem dX6_commonDivisor_0 : decode cX6_commonDivisor 0 = .ok (.iload_n 0, 1) := by decide +kernel
theorem dX6_commonDivisor_1 : decode cX6_commonDivisor 1 = .ok (.iload_n 1, 1) := by decide +kernel
theorem dX6_commonDivisor_2 : decode cX6_commonDivisor 2 = .ok (.invokestatic 307, 3) := by decide +kernel
theorem dX6_commonDivisor_5 : decode cX6_commonDivisor 5 = .ok (.istore_n 2, 1) := by decide +kernel
theorem dX6_commonDivisor_6 : decode cX6_commonDivisor 6 = .ok (.iload_n 2, 1) := by decide +kernel
theorem dX6_commonDivisor_7 : decode cX6_commonDivisor 7 = .ok (.iconst 1, 1) := by decide +kernel
theorem dX6_commonDivisor_8 : decode cX6_commonDivisor 8 = .ok (.if_icmp .le 23, 3) := by decide +kernel
theorem dX6_commonDivisor_11 : decode cX6_commonDivisor 11 = .ok (.iload_n 0, 1) := by decide +kernel
theorem dX6_commonDivisor_12 : decode cX6_commonDivisor 12 = .ok (.iload_n 2, 1) := by decide +kernel
theorem dX6_commonDivisor_13 : decode cX6_commonDivisor 13 = .ok (.irem, 1) := by decide +kernel
theorem dX6_commonDivisor_14 : decode cX6_commonDivisor 14 = .ok (.ifCond .ne 11, 3) := by decide +kernel
theorem dX6_commonDivisor_17 : decode cX6_commonDivisor 17 = .ok (.iload_n 1, 1) := by decide +kernel
theorem dX6_commonDivisor_18 : decode cX6_commonDivisor 18 = .ok (.iload_n 2, 1) := by decide +kernel
theorem dX6_commonDivisor_19 : decode cX6_commonDivisor 19 = .ok (.irem, 1) := by decide +kernel
theorem dX6_commonDivisor_20 : decode cX6_commonDivisor 20 = .ok (.ifCond .ne 5, 3) := by decide +kernel
theorem dX6_commonDivisor_23 : decode cX6_commonDivisor 23 = .ok (.iload_n 2, 1) := by decide +kernel
theorem dX6_commonDivisor_24 : decode cX6_commonDivisor 24 = .ok (.ireturn, 1) := by decide +kernel
theorem dX6_commonDivisor_25 : decode cX6_commonDivisor 25 = .ok (.iinc 2 (-1), 3) := by decide +kernel
theorem dX6_commonDivisor_28 : decode cX6_commonDivisor 28 = .ok (.goto (-22), 3) := by decide +kernel
theorem dX6_commonDivisor_31 : decode cX6_commonDivisor 31 = .ok (.iconst 1, 1) := by decide +kernel
theorem dX6_commonDivisor_32 : decode cX6_commonDivisor 32 = .ok (.ireturn, 1) := by decide +kernel
theorem dX6_image_0 : decode cX6_image 0 = .ok (.aload_n 0, 1) := by decide +kernel
theorem dX6_image_1 : decode cX6_image 1 = .ok (.getfield 62, 3) := by decide +kernel
theorem dX6_image_4 : decode cX6_image 4 = .ok (.aload_n 0, 1) := by decide +kernel
theorem dX6_image_5 : decode cX6_image 5 = .ok (.getfield 7, 3) := by decide +kernel
theorem dX6_image_8 : decode cX6_image 8 = .ok (.aload_n 0, 1) := by decide +kernel
theorem dX6_image_9 : decode cX6_image 9 = .ok (.getfield 13, 3) := by decide +kernel
theorem dX6_image_12 : decode cX6_image 12 = .ok (.aload_n 0, 1) := by decide +kernel
theorem dX6_image_13 : decode cX6_image 13 = .ok (.getfield 76, 3) := by decide +kernel
theorem dX6_image_16 : decode cX6_image 16 = .ok (.aload_n 0, 1) := by decide +kernel
theorem dX6_image_17 : decode cX6_image 17 = .ok (.getfield 79, 3) := by decide +kernel
theorem dX6_image_20 : decode cX6_image 20 = .ok (.aload_n 0, 1) := by decide +kernel
theorem dX6_image_21 : decode cX6_image 21 = .ok (.getfield 55, 3) := by decide +kernel
theorem dX6_image_24 : decode cX6_image 24 = .ok (.invokevirtual 310, 3) := by decide +kernel
theorem dX6_image_27 : decode cX6_image 27 = .ok (.aload_n 0, 1) := by decide +kernel
theorem dX6_image_28 : decode cX6_image 28 = .ok (.getfield 76, 3) := by decide +kernel
theorem dX6_image_31 : decode cX6_image 31 = .ok (.ireturn, 1) := by decide +kernel
theorem dX6_back_0 : decode cX6_back 0 = .ok (.aload_n 0, 1) := by decide +kernel
theorem dX6_back_1 : decode cX6_back 1 = .ok (.getfield 62, 3) := by decide +kernel
theorem dX6_back_4 : decode cX6_back 4 = .ok (.invokevirtual 314, 3) := by decide +kernel
theorem dX6_back_7 : decode cX6_back 7 = .ok (.ifCond .ne 6, 3) := by decide +kernel
theorem dX6_back_10 : decode cX6_back 10 = .ok (.bipush (-3), 2) := by decide +kernel
theorem dX6_back_12 : decode cX6_back 12 = .ok (.ireturn, 1) := by decide +kernel
theorem dX6_back_13 : decode cX6_back 13 = .ok (.aload_n 0, 1) := by decide +kernel
theorem dX6_back_14 : decode cX6_back 14 = .ok (.aload_n 0, 1) := by decide +kernel
theorem dX6_back_15 : decode cX6_back 15 = .ok (.getfield 62, 3) := by decide +kernel
theorem dX6_back_18 : decode cX6_back 18 = .ok (.invokevirtual 317, 3) := by decide +kernel
theorem dX6_back_21 : decode cX6_back 21 = .ok (.putfield 7, 3) := by decide +kernel
theorem dX6_back_24 : decode cX6_back 24 = .ok (.aload_n 0, 1) := by decide +kernel
theorem dX6_back_25 : decode cX6_back 25 = .ok (.aload_n 0, 1) := by decide +kernel
theorem dX6_back_26 : decode cX6_back 26 = .ok (.getfield 62, 3) := by decide +kernel
theorem dX6_back_29 : decode cX6_back 29 = .ok (.invokevirtual 319, 3) := by decide +kernel
theorem dX6_back_32 : decode cX6_back 32 = .ok (.putfield 13, 3) := by decide +kernel
theorem dX6_back_35 : decode cX6_back 35 = .ok (.aload_n 0, 1) := by decide +kernel
theorem dX6_back_36 : decode cX6_back 36 = .ok (.aload_n 0, 1) := by decide +kernel
theorem dX6_back_37 : decode cX6_back 37 = .ok (.getfield 62, 3) := by decide +kernel
theorem dX6_back_40 : decode cX6_back 40 = .ok (.invokevirtual 321, 3) := by decide +kernel
theorem dX6_back_43 : decode cX6_back 43 = .ok (.putfield 76, 3) := by decide +kernel
theorem dX6_back_46 : decode cX6_back 46 = .ok (.aload_n 0, 1) := by decide +kernel
theorem dX6_back_47 : decode cX6_back 47 = .ok (.aload_n 0, 1) := by decide +kernel
theorem dX6_back_48 : decode cX6_back 48 = .ok (.getfield 62, 3) := by decide +kernel
theorem dX6_back_51 : decode cX6_back 51 = .ok (.invokevirtual 323, 3) := by decide +kernel
theorem dX6_back_54 : decode cX6_back 54 = .ok (.putfield 79, 3) := by decide +kernel
theorem dX6_back_57 : decode cX6_back 57 = .ok (.aload_n 0, 1) := by decide +kernel
theorem dX6_back_58 : decode cX6_back 58 = .ok (.getfield 62, 3) := by decide +kernel
theorem dX6_back_61 : decode cX6_back 61 = .ok (.aload_n 0, 1) := by decide +kernel
theorem dX6_back_62 : decode cX6_back 62 = .ok (.getfield 55, 3) := by decide +kernel
theorem dX6_back_65 : decode cX6_back 65 = .ok (.invokevirtual 325, 3) := by decide +kernel
theorem dX6_back_68 : decode cX6_back 68 = .ok (.aload_n 0, 1) := by decide +kernel
theorem dX6_back_69 : decode cX6_back 69 = .ok (.getfield 76, 3) := by decide +kernel
theorem dX6_back_72 : decode cX6_back 72 = .ok (.ireturn, 1) := by decide +kernel
theorem dX6_sheet_0 : decode cX6_sheet 0 = .ok (.iload_n 1, 1) := by decide +kernel
theorem dX6_sheet_1 : decode cX6_sheet 1 = .ok (.invokestatic 289, 3) := by decide +kernel
theorem dX6_sheet_4 : decode cX6_sheet 4 = .ok (.ifCond .eq 12, 3) := by decide +kernel
theorem dX6_sheet_7 : decode cX6_sheet 7 = .ok (.iload_n 2, 1) := by decide +kernel
theorem dX6_sheet_8 : decode cX6_sheet 8 = .ok (.iconst (-1), 1) := by decide +kernel
theorem dX6_sheet_9 : decode cX6_sheet 9 = .ok (.iconst 2, 1) := by decide +kernel
theorem dX6_sheet_10 : decode cX6_sheet 10 = .ok (.invokestatic 86, 3) := by decide +kernel
theorem dX6_sheet_13 : decode cX6_sheet 13 = .ok (.ifCond .ne 6, 3) := by decide +kernel
theorem dX6_sheet_16 : decode cX6_sheet 16 = .ok (.bipush (-2), 2) := by decide +kernel
theorem dX6_sheet_18 : decode cX6_sheet 18 = .ok (.ireturn, 1) := by decide +kernel
theorem dX6_sheet_19 : decode cX6_sheet 19 = .ok (.aload_n 0, 1) := by decide +kernel
theorem dX6_sheet_20 : decode cX6_sheet 20 = .ok (.iload_n 1, 1) := by decide +kernel
theorem dX6_sheet_21 : decode cX6_sheet 21 = .ok (.invokevirtual 171, 3) := by decide +kernel
theorem dX6_sheet_24 : decode cX6_sheet 24 = .ok (.astore 4, 2) := by decide +kernel
theorem dX6_sheet_26 : decode cX6_sheet 26 = .ok (.iload_n 2, 1) := by decide +kernel
theorem dX6_sheet_27 : decode cX6_sheet 27 = .ok (.iconst (-1), 1) := by decide +kernel
theorem dX6_sheet_28 : decode cX6_sheet 28 = .ok (.if_icmp .ne 12, 3) := by decide +kernel
theorem dX6_sheet_31 : decode cX6_sheet 31 = .ok (.aload 4, 2) := by decide +kernel
theorem dX6_sheet_33 : decode cX6_sheet 33 = .ok (.iconst (-1), 1) := by decide +kernel
theorem dX6_sheet_34 : decode cX6_sheet 34 = .ok (.iconst 0, 1) := by decide +kernel
theorem dX6_sheet_35 : decode cX6_sheet 35 = .ok (.invokevirtual 292, 3) := by decide +kernel
theorem dX6_sheet_38 : decode cX6_sheet 38 = .ok (.iconst 1, 1) := by decide +kernel
theorem dX6_sheet_39 : decode cX6_sheet 39 = .ok (.ireturn, 1) := by decide +kernel
theorem dX6_sheet_40 : decode cX6_sheet 40 = .ok (.iload_n 3, 1) := by decide +kernel
theorem dX6_sheet_41 : decode cX6_sheet 41 = .ok (.bipush 40, 2) := by decide +kernel
theorem dX6_sheet_43 : decode cX6_sheet 43 = .ok (.if_icmp .le 6, 3) := by decide +kernel
theorem dX6_sheet_46 : decode cX6_sheet 46 = .ok (.bipush (-2), 2) := by decide +kernel
theorem dX6_sheet_48 : decode cX6_sheet 48 = .ok (.ireturn, 1) := by decide +kernel
theorem dX6_sheet_49 : decode cX6_sheet 49 = .ok (.iload_n 3, 1) := by decide +kernel
theorem dX6_sheet_50 : decode cX6_sheet 50 = .ok (.ifCond .ge 6, 3) := by decide +kernel
theorem dX6_sheet_53 : decode cX6_sheet 53 = .ok (.bipush (-14), 2) := by decide +kernel
theorem dX6_sheet_55 : decode cX6_sheet 55 = .ok (.ireturn, 1) := by decide +kernel
theorem dX6_sheet_56 : decode cX6_sheet 56 = .ok (.aload 4, 2) := by decide +kernel
theorem dX6_sheet_58 : decode cX6_sheet 58 = .ok (.iload_n 2, 1) := by decide +kernel
theorem dX6_sheet_59 : decode cX6_sheet 59 = .ok (.iload_n 3, 1) := by decide +kernel
theorem dX6_sheet_60 : decode cX6_sheet 60 = .ok (.invokevirtual 292, 3) := by decide +kernel
theorem dX6_sheet_63 : decode cX6_sheet 63 = .ok (.iconst 1, 1) := by decide +kernel
theorem dX6_sheet_64 : decode cX6_sheet 64 = .ok (.ireturn, 1) := by decide +kernel
theorem dX6_cell_0 : decode cX6_cell 0 = .ok (.aload_n 0, 1) := by decide +kernel
theorem dX6_cell_1 : decode cX6_cell 1 = .ok (.iload_n 1, 1) := by decide +kernel
theorem dX6_cell_2 : decode cX6_cell 2 = .ok (.invokevirtual 228, 3) := by decide +kernel
theorem dX6_cell_5 : decode cX6_cell 5 = .ok (.istore 4, 2) := by decide +kernel
theorem dX6_cell_7 : decode cX6_cell 7 = .ok (.iload 4, 2) := by decide +kernel
theorem dX6_cell_9 : decode cX6_cell 9 = .ok (.ifCond .eq 6, 3) := by decide +kernel
theorem dX6_cell_12 : decode cX6_cell 12 = .ok (.iload 4, 2) := by decide +kernel
theorem dX6_cell_14 : decode cX6_cell 14 = .ok (.ireturn, 1) := by decide +kernel
theorem dX6_cell_15 : decode cX6_cell 15 = .ok (.aload_n 0, 1) := by decide +kernel
theorem dX6_cell_16 : decode cX6_cell 16 = .ok (.iload_n 1, 1) := by decide +kernel
theorem dX6_cell_17 : decode cX6_cell 17 = .ok (.invokevirtual 171, 3) := by decide +kernel
theorem dX6_cell_20 : decode cX6_cell 20 = .ok (.astore 5, 2) := by decide +kernel
theorem dX6_cell_22 : decode cX6_cell 22 = .ok (.aload 5, 2) := by decide +kernel
theorem dX6_cell_24 : decode cX6_cell 24 = .ok (.iload_n 2, 1) := by decide +kernel
theorem dX6_cell_25 : decode cX6_cell 25 = .ok (.invokevirtual 329, 3) := by decide +kernel
theorem dX6_cell_28 : decode cX6_cell 28 = .ok (.ifCond .ne 6, 3) := by decide +kernel
theorem dX6_cell_31 : decode cX6_cell 31 = .ok (.bipush (-12), 2) := by decide +kernel
theorem dX6_cell_33 : decode cX6_cell 33 = .ok (.ireturn, 1) := by decide +kernel
theorem dX6_cell_34 : decode cX6_cell 34 = .ok (.aload 5, 2) := by decide +kernel
theorem dX6_cell_36 : decode cX6_cell 36 = .ok (.iload_n 2, 1) := by decide +kernel
theorem dX6_cell_37 : decode cX6_cell 37 = .ok (.iload_n 3, 1) := by decide +kernel
theorem dX6_cell_38 : decode cX6_cell 38 = .ok (.invokevirtual 294, 3) := by decide +kernel
theorem dX6_cell_41 : decode cX6_cell 41 = .ok (.iconst 1, 1) := by decide +kernel
theorem dX6_cell_42 : decode cX6_cell 42 = .ok (.ireturn, 1) := by decide +kernel
theorem dX6_copy_0 : decode cX6_copy 0 = .ok (.iload_n 1, 1) := by decide +kernel
theorem dX6_copy_1 : decode cX6_copy 1 = .ok (.invokestatic 289, 3) := by decide +kernel
theorem dX6_copy_4 : decode cX6_copy 4 = .ok (.ifCond .eq 10, 3) := by decide +kernel
theorem dX6_copy_7 : decode cX6_copy 7 = .ok (.iload_n 3, 1) := by decide +kernel
theorem dX6_copy_8 : decode cX6_copy 8 = .ok (.invokestatic 289, 3) := by decide +kernel
theorem dX6_copy_11 : decode cX6_copy 11 = .ok (.ifCond .ne 6, 3) := by decide +kernel
theorem dX6_copy_14 : decode cX6_copy 14 = .ok (.bipush (-2), 2) := by decide +kernel
theorem dX6_copy_16 : decode cX6_copy 16 = .ok (.ireturn, 1) := by decide +kernel
theorem dX6_copy_17 : decode cX6_copy 17 = .ok (.aload_n 0, 1) := by decide +kernel
theorem dX6_copy_18 : decode cX6_copy 18 = .ok (.iload_n 1, 1) := by decide +kernel
theorem dX6_copy_19 : decode cX6_copy 19 = .ok (.invokevirtual 171, 3) := by decide +kernel
theorem dX6_copy_22 : decode cX6_copy 22 = .ok (.astore 6, 2) := by decide +kernel
theorem dX6_copy_24 : decode cX6_copy 24 = .ok (.aload_n 0, 1) := by decide +kernel
theorem dX6_copy_25 : decode cX6_copy 25 = .ok (.iload_n 3, 1) := by decide +kernel
theorem dX6_copy_26 : decode cX6_copy 26 = .ok (.invokevirtual 171, 3) := by decide +kernel
theorem dX6_copy_29 : decode cX6_copy 29 = .ok (.astore 7, 2) := by decide +kernel
theorem dX6_copy_31 : decode cX6_copy 31 = .ok (.aload 6, 2) := by decide +kernel
theorem dX6_copy_33 : decode cX6_copy 33 = .ok (.invokevirtual 332, 3) := by decide +kernel
theorem dX6_copy_36 : decode cX6_copy 36 = .ok (.ifCond .ne 11, 3) := by decide +kernel
theorem dX6_copy_39 : decode cX6_copy 39 = .ok (.aload 7, 2) := by decide +kernel
theorem dX6_copy_41 : decode cX6_copy 41 = .ok (.invokevirtual 332, 3) := by decide +kernel
theorem dX6_copy_44 : decode cX6_copy 44 = .ok (.ifCond .eq 6, 3) := by decide +kernel
theorem dX6_copy_47 : decode cX6_copy 47 = .ok (.bipush (-11), 2) := by decide +kernel
theorem dX6_copy_49 : decode cX6_copy 49 = .ok (.ireturn, 1) := by decide +kernel
theorem dX6_copy_50 : decode cX6_copy 50 = .ok (.aload 6, 2) := by decide +kernel
theorem dX6_copy_52 : decode cX6_copy 52 = .ok (.invokevirtual 335, 3) := by decide +kernel
theorem dX6_copy_55 : decode cX6_copy 55 = .ok (.aload 7, 2) := by decide +kernel
theorem dX6_copy_57 : decode cX6_copy 57 = .ok (.invokevirtual 335, 3) := by decide +kernel
theorem dX6_copy_60 : decode cX6_copy 60 = .ok (.if_icmp .eq 6, 3) := by decide +kernel
theorem dX6_copy_63 : decode cX6_copy 63 = .ok (.bipush (-13), 2) := by decide +kernel
theorem dX6_copy_65 : decode cX6_copy 65 = .ok (.ireturn, 1) := by decide +kernel
theorem dX6_copy_66 : decode cX6_copy 66 = .ok (.aload 6, 2) := by decide +kernel
theorem dX6_copy_68 : decode cX6_copy 68 = .ok (.iload_n 2, 1) := by decide +kernel
theorem dX6_copy_69 : decode cX6_copy 69 = .ok (.iload 5, 2) := by decide +kernel
theorem dX6_copy_71 : decode cX6_copy 71 = .ok (.invokevirtual 338, 3) := by decide +kernel
theorem dX6_copy_74 : decode cX6_copy 74 = .ok (.ifCond .eq 15, 3) := by decide +kernel
theorem dX6_copy_77 : decode cX6_copy 77 = .ok (.aload 7, 2) := by decide +kernel
theorem dX6_copy_79 : decode cX6_copy 79 = .ok (.iload 4, 2) := by decide +kernel
theorem dX6_copy_81 : decode cX6_copy 81 = .ok (.iload 5, 2) := by decide +kernel
theorem dX6_copy_83 : decode cX6_copy 83 = .ok (.invokevirtual 338, 3) := by decide +kernel
theorem dX6_copy_86 : decode cX6_copy 86 = .ok (.ifCond .ne 6, 3) := by decide +kernel
theorem dX6_copy_89 : decode cX6_copy 89 = .ok (.bipush (-12), 2) := by decide +kernel
theorem dX6_copy_91 : decode cX6_copy 91 = .ok (.ireturn, 1) := by decide +kernel
theorem dX6_copy_92 : decode cX6_copy 92 = .ok (.aload 6, 2) := by decide +kernel
theorem dX6_copy_94 : decode cX6_copy 94 = .ok (.aload 7, 2) := by decide +kernel
theorem dX6_copy_96 : decode cX6_copy 96 = .ok (.iload_n 2, 1) := by decide +kernel
theorem dX6_copy_97 : decode cX6_copy 97 = .ok (.iload 4, 2) := by decide +kernel
theorem dX6_copy_99 : decode cX6_copy 99 = .ok (.iload 5, 2) := by decide +kernel
theorem dX6_copy_101 : decode cX6_copy 101 = .ok (.invokevirtual 341, 3) := by decide +kernel
theorem dX6_copy_104 : decode cX6_copy 104 = .ok (.iload 5, 2) := by decide +kernel
theorem dX6_copy_106 : decode cX6_copy 106 = .ok (.ireturn, 1) := by decide +kernel
theorem dX6_clerksBy_0 : decode cX6_clerksBy 0 = .ok (.iload_n 1, 1) := by decide +kernel
theorem dX6_clerksBy_1 : decode cX6_clerksBy 1 = .ok (.invokestatic 289, 3) := by decide +kernel
theorem dX6_clerksBy_4 : decode cX6_clerksBy 4 = .ok (.ifCond .eq 22, 3) := by decide +kernel
theorem dX6_clerksBy_7 : decode cX6_clerksBy 7 = .ok (.iload_n 2, 1) := by decide +kernel
theorem dX6_clerksBy_8 : decode cX6_clerksBy 8 = .ok (.iconst 0, 1) := by decide +kernel
theorem dX6_clerksBy_9 : decode cX6_clerksBy 9 = .ok (.iconst 2, 1) := by decide +kernel
theorem dX6_clerksBy_10 : decode cX6_clerksBy 10 = .ok (.invokestatic 86, 3) := by decide +kernel
theorem dX6_clerksBy_13 : decode cX6_clerksBy 13 = .ok (.ifCond .eq 13, 3) := by decide +kernel
theorem dX6_clerksBy_16 : decode cX6_clerksBy 16 = .ok (.iload 4, 2) := by decide +kernel
theorem dX6_clerksBy_18 : decode cX6_clerksBy 18 = .ok (.iconst 0, 1) := by decide +kernel
theorem dX6_clerksBy_19 : decode cX6_clerksBy 19 = .ok (.iconst 5, 1) := by decide +kernel
theorem dX6_clerksBy_20 : decode cX6_clerksBy 20 = .ok (.invokestatic 86, 3) := by decide +kernel
theorem dX6_clerksBy_23 : decode cX6_clerksBy 23 = .ok (.ifCond .ne 6, 3) := by decide +kernel
theorem dX6_clerksBy_26 : decode cX6_clerksBy 26 = .ok (.bipush (-2), 2) := by decide +kernel
theorem dX6_clerksBy_28 : decode cX6_clerksBy 28 = .ok (.ireturn, 1) := by decide +kernel
theorem dX6_clerksBy_29 : decode cX6_clerksBy 29 = .ok (.aload_n 0, 1) := by decide +kernel
theorem dX6_clerksBy_30 : decode cX6_clerksBy 30 = .ok (.iload_n 1, 1) := by decide +kernel
theorem dX6_clerksBy_31 : decode cX6_clerksBy 31 = .ok (.invokevirtual 171, 3) := by decide +kernel
theorem dX6_clerksBy_34 : decode cX6_clerksBy 34 = .ok (.astore 5, 2) := by decide +kernel
theorem dX6_clerksBy_36 : decode cX6_clerksBy 36 = .ok (.aload 5, 2) := by decide +kernel
theorem dX6_clerksBy_38 : decode cX6_clerksBy 38 = .ok (.invokevirtual 332, 3) := by decide +kernel
theorem dX6_clerksBy_41 : decode cX6_clerksBy 41 = .ok (.ifCond .eq 6, 3) := by decide +kernel
theorem dX6_clerksBy_44 : decode cX6_clerksBy 44 = .ok (.bipush (-11), 2) := by decide +kernel
theorem dX6_clerksBy_46 : decode cX6_clerksBy 46 = .ok (.ireturn, 1) := by decide +kernel
theorem dX6_clerksBy_47 : decode cX6_clerksBy 47 = .ok (.aload 5, 2) := by decide +kernel
theorem dX6_clerksBy_49 : decode cX6_clerksBy 49 = .ok (.invokevirtual 335, 3) := by decide +kernel
theorem dX6_clerksBy_52 : decode cX6_clerksBy 52 = .ok (.iload_n 2, 1) := by decide +kernel
theorem dX6_clerksBy_53 : decode cX6_clerksBy 53 = .ok (.if_icmp .eq 6, 3) := by decide +kernel
theorem dX6_clerksBy_56 : decode cX6_clerksBy 56 = .ok (.bipush (-13), 2) := by decide +kernel
theorem dX6_clerksBy_58 : decode cX6_clerksBy 58 = .ok (.ireturn, 1) := by decide +kernel
theorem dX6_clerksBy_59 : decode cX6_clerksBy 59 = .ok (.iconst 0, 1) := by decide +kernel
theorem dX6_clerksBy_60 : decode cX6_clerksBy 60 = .ok (.istore 6, 2) := by decide +kernel
theorem dX6_clerksBy_62 : decode cX6_clerksBy 62 = .ok (.iconst 0, 1) := by decide +kernel
theorem dX6_clerksBy_63 : decode cX6_clerksBy 63 = .ok (.istore 7, 2) := by decide +kernel
theorem dX6_clerksBy_65 : decode cX6_clerksBy 65 = .ok (.iload 7, 2) := by decide +kernel
theorem dX6_clerksBy_67 : decode cX6_clerksBy 67 = .ok (.iload 4, 2) := by decide +kernel
theorem dX6_clerksBy_69 : decode cX6_clerksBy 69 = .ok (.if_icmp .ge 68, 3) := by decide +kernel
theorem dX6_clerksBy_72 : decode cX6_clerksBy 72 = .ok (.iload_n 3, 1) := by decide +kernel
theorem dX6_clerksBy_73 : decode cX6_clerksBy 73 = .ok (.iconst 2, 1) := by decide +kernel
theorem dX6_clerksBy_74 : decode cX6_clerksBy 74 = .ok (.iload 7, 2) := by decide +kernel
theorem dX6_clerksBy_76 : decode cX6_clerksBy 76 = .ok (.imul, 1) := by decide +kernel
theorem dX6_clerksBy_77 : decode cX6_clerksBy 77 = .ok (.iadd, 1) := by decide +kernel
theorem dX6_clerksBy_78 : decode cX6_clerksBy 78 = .ok (.istore 8, 2) := by decide +kernel
theorem dX6_clerksBy_80 : decode cX6_clerksBy 80 = .ok (.aload 5, 2) := by decide +kernel
theorem dX6_clerksBy_82 : decode cX6_clerksBy 82 = .ok (.iload 8, 2) := by decide +kernel
theorem dX6_clerksBy_84 : decode cX6_clerksBy 84 = .ok (.invokevirtual 329, 3) := by decide +kernel
theorem dX6_clerksBy_87 : decode cX6_clerksBy 87 = .ok (.ifCond .eq 15, 3) := by decide +kernel
theorem dX6_clerksBy_90 : decode cX6_clerksBy 90 = .ok (.aload 5, 2) := by decide +kernel
theorem dX6_clerksBy_92 : decode cX6_clerksBy 92 = .ok (.iload 8, 2) := by decide +kernel
theorem dX6_clerksBy_94 : decode cX6_clerksBy 94 = .ok (.iconst 1, 1) := by decide +kernel
theorem dX6_clerksBy_95 : decode cX6_clerksBy 95 = .ok (.iadd, 1) := by decide +kernel
theorem dX6_clerksBy_96 : decode cX6_clerksBy 96 = .ok (.invokevirtual 329, 3) := by decide +kernel
theorem dX6_clerksBy_99 : decode cX6_clerksBy 99 = .ok (.ifCond .ne 6, 3) := by decide +kernel
theorem dX6_clerksBy_102 : decode cX6_clerksBy 102 = .ok (.bipush (-12), 2) := by decide +kernel
theorem dX6_clerksBy_104 : decode cX6_clerksBy 104 = .ok (.ireturn, 1) := by decide +kernel
theorem dX6_clerksBy_105 : decode cX6_clerksBy 105 = .ok (.aload_n 0, 1) := by decide +kernel
theorem dX6_clerksBy_106 : decode cX6_clerksBy 106 = .ok (.aload 5, 2) := by decide +kernel
theorem dX6_clerksBy_108 : decode cX6_clerksBy 108 = .ok (.iload 8, 2) := by decide +kernel
theorem dX6_clerksBy_110 : decode cX6_clerksBy 110 = .ok (.invokevirtual 199, 3) := by decide +kernel
theorem dX6_clerksBy_113 : decode cX6_clerksBy 113 = .ok (.aload 5, 2) := by decide +kernel
theorem dX6_clerksBy_115 : decode cX6_clerksBy 115 = .ok (.iload 8, 2) := by decide +kernel
theorem dX6_clerksBy_117 : decode cX6_clerksBy 117 = .ok (.iconst 1, 1) := by decide +kernel
theorem dX6_clerksBy_118 : decode cX6_clerksBy 118 = .ok (.iadd, 1) := by decide +kernel
theorem dX6_clerksBy_119 : decode cX6_clerksBy 119 = .ok (.invokevirtual 199, 3) := by decide +kernel
theorem dX6_clerksBy_122 : decode cX6_clerksBy 122 = .ok (.invokevirtual 345, 3) := by decide +kernel
theorem dX6_clerksBy_125 : decode cX6_clerksBy 125 = .ok (.ifCond .lt 6, 3) := by decide +kernel
theorem dX6_clerksBy_128 : decode cX6_clerksBy 128 = .ok (.iinc 6 1, 3) := by decide +kernel
theorem dX6_clerksBy_131 : decode cX6_clerksBy 131 = .ok (.iinc 7 1, 3) := by decide +kernel
theorem dX6_clerksBy_134 : decode cX6_clerksBy 134 = .ok (.goto (-69), 3) := by decide +kernel
theorem dX6_clerksBy_137 : decode cX6_clerksBy 137 = .ok (.iload 6, 2) := by decide +kernel
theorem dX6_clerksBy_139 : decode cX6_clerksBy 139 = .ok (.ireturn, 1) := by decide +kernel
theorem dX6_taken_0 : decode cX6_taken 0 = .ok (.iload_n 2, 1) := by decide +kernel
theorem dX6_taken_1 : decode cX6_taken 1 = .ok (.iconst 0, 1) := by decide +kernel
theorem dX6_taken_2 : decode cX6_taken 2 = .ok (.bipush 6, 2) := by decide +kernel
theorem dX6_taken_4 : decode cX6_taken 4 = .ok (.invokestatic 86, 3) := by decide +kernel
theorem dX6_taken_7 : decode cX6_taken 7 = .ok (.ifCond .ne 6, 3) := by decide +kernel
theorem dX6_taken_10 : decode cX6_taken 10 = .ok (.bipush (-2), 2) := by decide +kernel
theorem dX6_taken_12 : decode cX6_taken 12 = .ok (.ireturn, 1) := by decide +kernel
theorem dX6_taken_13 : decode cX6_taken 13 = .ok (.iload_n 1, 1) := by decide +kernel
theorem dX6_taken_14 : decode cX6_taken 14 = .ok (.iconst 0, 1) := by decide +kernel
theorem dX6_taken_15 : decode cX6_taken 15 = .ok (.bipush 10, 2) := by decide +kernel
theorem dX6_taken_17 : decode cX6_taken 17 = .ok (.invokestatic 86, 3) := by decide +kernel
theorem dX6_taken_20 : decode cX6_taken 20 = .ok (.ifCond .ne 6, 3) := by decide +kernel
theorem dX6_taken_23 : decode cX6_taken 23 = .ok (.bipush (-12), 2) := by decide +kernel
theorem dX6_taken_25 : decode cX6_taken 25 = .ok (.ireturn, 1) := by decide +kernel
theorem dX6_taken_26 : decode cX6_taken 26 = .ok (.iload_n 1, 1) := by decide +kernel
theorem dX6_taken_27 : decode cX6_taken 27 = .ok (.iconst 5, 1) := by decide +kernel
theorem dX6_taken_28 : decode cX6_taken 28 = .ok (.if_icmp .lt 34, 3) := by decide +kernel
theorem dX6_taken_31 : decode cX6_taken 31 = .ok (.aload_n 0, 1) := by decide +kernel
theorem dX6_taken_32 : decode cX6_taken 32 = .ok (.getfield 55, 3) := by decide +kernel
theorem dX6_taken_35 : decode cX6_taken 35 = .ok (.iload_n 1, 1) := by decide +kernel
theorem dX6_taken_36 : decode cX6_taken 36 = .ok (.iconst 5, 1) := by decide +kernel
theorem dX6_taken_37 : decode cX6_taken 37 = .ok (.isub, 1) := by decide +kernel
theorem dX6_taken_38 : decode cX6_taken 38 = .ok (.invokevirtual 348, 3) := by decide +kernel
theorem dX6_taken_41 : decode cX6_taken 41 = .ok (.istore_n 3, 1) := by decide +kernel
theorem dX6_taken_42 : decode cX6_taken 42 = .ok (.iload_n 3, 1) := by decide +kernel
theorem dX6_taken_43 : decode cX6_taken 43 = .ok (.ifCond .ne 6, 3) := by decide +kernel
theorem dX6_taken_46 : decode cX6_taken 46 = .ok (.bipush (-11), 2) := by decide +kernel
theorem dX6_taken_48 : decode cX6_taken 48 = .ok (.ireturn, 1) := by decide +kernel
theorem dX6_taken_49 : decode cX6_taken 49 = .ok (.iload_n 2, 1) := by decide +kernel
theorem dX6_taken_50 : decode cX6_taken 50 = .ok (.bipush 6, 2) := by decide +kernel
theorem dX6_taken_52 : decode cX6_taken 52 = .ok (.if_icmp .ne 7, 3) := by decide +kernel
theorem dX6_taken_55 : decode cX6_taken 55 = .ok (.iload_n 3, 1) := by decide +kernel
theorem dX6_taken_56 : decode cX6_taken 56 = .ok (.goto 5, 3) := by decide +kernel
theorem dX6_taken_59 : decode cX6_taken 59 = .ok (.bipush (-13), 2) := by decide +kernel
theorem dX6_taken_61 : decode cX6_taken 61 = .ok (.ireturn, 1) := by decide +kernel
theorem dX6_taken_62 : decode cX6_taken 62 = .ok (.aload_n 0, 1) := by decide +kernel
theorem dX6_taken_63 : decode cX6_taken 63 = .ok (.iload_n 1, 1) := by decide +kernel
theorem dX6_taken_64 : decode cX6_taken 64 = .ok (.invokevirtual 115, 3) := by decide +kernel
theorem dX6_taken_67 : decode cX6_taken 67 = .ok (.ifCond .ne 6, 3) := by decide +kernel
theorem dX6_taken_70 : decode cX6_taken 70 = .ok (.bipush (-11), 2) := by decide +kernel
theorem dX6_taken_72 : decode cX6_taken 72 = .ok (.ireturn, 1) := by decide +kernel
theorem dX6_taken_73 : decode cX6_taken 73 = .ok (.aload_n 0, 1) := by decide +kernel
theorem dX6_taken_74 : decode cX6_taken 74 = .ok (.getfield 16, 3) := by decide +kernel
theorem dX6_taken_77 : decode cX6_taken 77 = .ok (.iload_n 1, 1) := by decide +kernel
theorem dX6_taken_78 : decode cX6_taken 78 = .ok (.iaload, 1) := by decide +kernel
theorem dX6_taken_79 : decode cX6_taken 79 = .ok (.iload_n 2, 1) := by decide +kernel
theorem dX6_taken_80 : decode cX6_taken 80 = .ok (.invokestatic 351, 3) := by decide +kernel
theorem dX6_taken_83 : decode cX6_taken 83 = .ok (.ifCond .eq 7, 3) := by decide +kernel
theorem dX6_taken_86 : decode cX6_taken 86 = .ok (.iload_n 1, 1) := by decide +kernel
theorem dX6_taken_87 : decode cX6_taken 87 = .ok (.goto 5, 3) := by decide +kernel
theorem dX6_taken_90 : decode cX6_taken 90 = .ok (.bipush (-13), 2) := by decide +kernel
theorem dX6_taken_92 : decode cX6_taken 92 = .ok (.ireturn, 1) := by decide +kernel
theorem dX6_isWithin_0 : decode cX6_isWithin 0 = .ok (.iload_n 0, 1) := by decide +kernel
theorem dX6_isWithin_1 : decode cX6_isWithin 1 = .ok (.iload_n 1, 1) := by decide +kernel
theorem dX6_isWithin_2 : decode cX6_isWithin 2 = .ok (.if_icmp .lt 12, 3) := by decide +kernel
theorem dX6_isWithin_5 : decode cX6_isWithin 5 = .ok (.iload_n 0, 1) := by decide +kernel
theorem dX6_isWithin_6 : decode cX6_isWithin 6 = .ok (.iload_n 2, 1) := by decide +kernel
theorem dX6_isWithin_7 : decode cX6_isWithin 7 = .ok (.if_icmp .gt 7, 3) := by decide +kernel
theorem dX6_isWithin_10 : decode cX6_isWithin 10 = .ok (.iconst 1, 1) := by decide +kernel
theorem dX6_isWithin_11 : decode cX6_isWithin 11 = .ok (.goto 4, 3) := by decide +kernel
theorem dX6_isWithin_14 : decode cX6_isWithin 14 = .ok (.iconst 0, 1) := by decide +kernel
theorem dX6_isWithin_15 : decode cX6_isWithin 15 = .ok (.ireturn, 1) := by decide +kernel
theorem dX6_isNumber_0 : decode cX6_isNumber 0 = .ok (.iload_n 0, 1) := by decide +kernel
theorem dX6_isNumber_1 : decode cX6_isNumber 1 = .ok (.iconst 0, 1) := by decide +kernel
theorem dX6_isNumber_2 : decode cX6_isNumber 2 = .ok (.ldc_w 354, 3) := by decide +kernel
theorem dX6_isNumber_5 : decode cX6_isNumber 5 = .ok (.invokestatic 86, 3) := by decide +kernel
theorem dX6_isNumber_8 : decode cX6_isNumber 8 = .ok (.ireturn, 1) := by decide +kernel
theorem dX6_isByte_0 : decode cX6_isByte 0 = .ok (.iload_n 0, 1) := by decide +kernel
theorem dX6_isByte_1 : decode cX6_isByte 1 = .ok (.iconst 0, 1) := by decide +kernel
theorem dX6_isByte_2 : decode cX6_isByte 2 = .ok (.sipush 255, 3) := by decide +kernel
theorem dX6_isByte_5 : decode cX6_isByte 5 = .ok (.invokestatic 86, 3) := by decide +kernel
theorem dX6_isByte_8 : decode cX6_isByte 8 = .ok (.ireturn, 1) := by decide +kernel
theorem dX6_isTwofold_0 : decode cX6_isTwofold 0 = .ok (.iload_n 0, 1) := by decide +kernel
theorem dX6_isTwofold_1 : decode cX6_isTwofold 1 = .ok (.ifCond .eq 8, 3) := by decide +kernel
theorem dX6_isTwofold_4 : decode cX6_isTwofold 4 = .ok (.iload_n 0, 1) := by decide +kernel
theorem dX6_isTwofold_5 : decode cX6_isTwofold 5 = .ok (.iconst 1, 1) := by decide +kernel
theorem dX6_isTwofold_6 : decode cX6_isTwofold 6 = .ok (.if_icmp .ne 7, 3) := by decide +kernel
theorem dX6_isTwofold_9 : decode cX6_isTwofold 9 = .ok (.iconst 1, 1) := by decide +kernel
theorem dX6_isTwofold_10 : decode cX6_isTwofold 10 = .ok (.goto 4, 3) := by decide +kernel
theorem dX6_isTwofold_13 : decode cX6_isTwofold 13 = .ok (.iconst 0, 1) := by decide +kernel
theorem dX6_isTwofold_14 : decode cX6_isTwofold 14 = .ok (.ireturn, 1) := by decide +kernel
theorem dX6_isYear_0 : decode cX6_isYear 0 = .ok (.iload_n 0, 1) := by decide +kernel
theorem dX6_isYear_1 : decode cX6_isYear 1 = .ok (.ifCond .eq 20, 3) := by decide +kernel
theorem dX6_isYear_4 : decode cX6_isYear 4 = .ok (.iload_n 0, 1) := by decide +kernel
theorem dX6_isYear_5 : decode cX6_isYear 5 = .ok (.sipush (-999), 3) := by decide +kernel
theorem dX6_isYear_8 : decode cX6_isYear 8 = .ok (.sipush 999, 3) := by decide +kernel
theorem dX6_isYear_11 : decode cX6_isYear 11 = .ok (.invokestatic 86, 3) := by decide +kernel
theorem dX6_isYear_14 : decode cX6_isYear 14 = .ok (.ifCond .eq 7, 3) := by decide +kernel
theorem dX6_isYear_17 : decode cX6_isYear 17 = .ok (.iconst 1, 1) := by decide +kernel
theorem dX6_isYear_18 : decode cX6_isYear 18 = .ok (.goto 4, 3) := by decide +kernel
theorem dX6_isYear_21 : decode cX6_isYear 21 = .ok (.iconst 0, 1) := by decide +kernel
theorem dX6_isYear_22 : decode cX6_isYear 22 = .ok (.ireturn, 1) := by decide +kernel
theorem dX6_isFolk_0 : decode cX6_isFolk 0 = .ok (.iload_n 0, 1) := by decide +kernel
theorem dX6_isFolk_1 : decode cX6_isFolk 1 = .ok (.iconst 0, 1) := by decide +kernel
theorem dX6_isFolk_2 : decode cX6_isFolk 2 = .ok (.iconst 5, 1) := by decide +kernel
theorem dX6_isFolk_3 : decode cX6_isFolk 3 = .ok (.invokestatic 86, 3) := by decide +kernel
theorem dX6_isFolk_6 : decode cX6_isFolk 6 = .ok (.ireturn, 1) := by decide +kernel
theorem dX6_areTwoFolk_0 : decode cX6_areTwoFolk 0 = .ok (.iload_n 0, 1) := by decide +kernel
theorem dX6_areTwoFolk_1 : decode cX6_areTwoFolk 1 = .ok (.invokestatic 355, 3) := by decide +kernel
theorem dX6_areTwoFolk_4 : decode cX6_areTwoFolk 4 = .ok (.ifCond .eq 19, 3) := by decide +kernel
theorem dX6_areTwoFolk_7 : decode cX6_areTwoFolk 7 = .ok (.iload_n 1, 1) := by decide +kernel
theorem dX6_areTwoFolk_8 : decode cX6_areTwoFolk 8 = .ok (.invokestatic 355, 3) := by decide +kernel
theorem dX6_areTwoFolk_11 : decode cX6_areTwoFolk 11 = .ok (.ifCond .eq 12, 3) := by decide +kernel
theorem dX6_areTwoFolk_14 : decode cX6_areTwoFolk 14 = .ok (.iload_n 0, 1) := by decide +kernel
theorem dX6_areTwoFolk_15 : decode cX6_areTwoFolk 15 = .ok (.iload_n 1, 1) := by decide +kernel
theorem dX6_areTwoFolk_16 : decode cX6_areTwoFolk 16 = .ok (.if_icmp .eq 7, 3) := by decide +kernel
theorem dX6_areTwoFolk_19 : decode cX6_areTwoFolk 19 = .ok (.iconst 1, 1) := by decide +kernel
theorem dX6_areTwoFolk_20 : decode cX6_areTwoFolk 20 = .ok (.goto 4, 3) := by decide +kernel
theorem dX6_areTwoFolk_23 : decode cX6_areTwoFolk 23 = .ok (.iconst 0, 1) := by decide +kernel
theorem dX6_areTwoFolk_24 : decode cX6_areTwoFolk 24 = .ok (.ireturn, 1) := by decide +kernel
theorem dX6_isSheet_0 : decode cX6_isSheet 0 = .ok (.iload_n 0, 1) := by decide +kernel
theorem dX6_isSheet_1 : decode cX6_isSheet 1 = .ok (.iconst 0, 1) := by decide +kernel
theorem dX6_isSheet_2 : decode cX6_isSheet 2 = .ok (.iconst 3, 1) := by decide +kernel
theorem dX6_isSheet_3 : decode cX6_isSheet 3 = .ok (.invokestatic 86, 3) := by decide +kernel
theorem dX6_isSheet_6 : decode cX6_isSheet 6 = .ok (.ireturn, 1) := by decide +kernel
theorem dX6_isClerk_0 : decode cX6_isClerk 0 = .ok (.iload_n 1, 1) := by decide +kernel
theorem dX6_isClerk_1 : decode cX6_isClerk 1 = .ok (.ifCond .lt 20, 3) := by decide +kernel
theorem dX6_isClerk_4 : decode cX6_isClerk 4 = .ok (.iload_n 1, 1) := by decide +kernel
theorem dX6_isClerk_5 : decode cX6_isClerk 5 = .ok (.aload_n 0, 1) := by decide +kernel
theorem dX6_isClerk_6 : decode cX6_isClerk 6 = .ok (.getfield 76, 3) := by decide +kernel
theorem dX6_isClerk_9 : decode cX6_isClerk 9 = .ok (.if_icmp .ge 12, 3) := by decide +kernel
theorem dX6_isClerk_12 : decode cX6_isClerk 12 = .ok (.iload_n 1, 1) := by decide +kernel
theorem dX6_isClerk_13 : decode cX6_isClerk 13 = .ok (.iconst 5, 1) := by decide +kernel
theorem dX6_isClerk_14 : decode cX6_isClerk 14 = .ok (.if_icmp .ge 7, 3) := by decide +kernel
theorem dX6_isClerk_17 : decode cX6_isClerk 17 = .ok (.iconst 1, 1) := by decide +kernel
theorem dX6_isClerk_18 : decode cX6_isClerk 18 = .ok (.goto 4, 3) := by decide +kernel
theorem dX6_isClerk_21 : decode cX6_isClerk 21 = .ok (.iconst 0, 1) := by decide +kernel
theorem dX6_isClerk_22 : decode cX6_isClerk 22 = .ok (.ireturn, 1) := by decide +kernel
theorem dX6_isOfKind_0 : decode cX6_isOfKind 0 = .ok (.iload_n 0, 1) := by decide +kernel
theorem dX6_isOfKind_1 : decode cX6_isOfKind 1 = .ok (.istore_n 2, 1) := by decide +kernel
theorem dX6_isOfKind_2 : decode cX6_isOfKind 2 = .ok (.iconst 0, 1) := by decide +kernel
theorem dX6_isOfKind_3 : decode cX6_isOfKind 3 = .ok (.istore_n 3, 1) := by decide +kernel
theorem dX6_isOfKind_4 : decode cX6_isOfKind 4 = .ok (.iload_n 3, 1) := by decide +kernel
theorem dX6_isOfKind_5 : decode cX6_isOfKind 5 = .ok (.getstatic 358, 3) := by decide +kernel
theorem dX6_isOfKind_8 : decode cX6_isOfKind 8 = .ok (.arraylength, 1) := by decide +kernel
theorem dX6_isOfKind_9 : decode cX6_isOfKind 9 = .ok (.if_icmp .ge 34, 3) := by decide +kernel
theorem dX6_isOfKind_12 : decode cX6_isOfKind 12 = .ok (.iload_n 2, 1) := by decide +kernel
theorem dX6_isOfKind_13 : decode cX6_isOfKind 13 = .ok (.ifCond .lt 30, 3) := by decide +kernel
theorem dX6_isOfKind_16 : decode cX6_isOfKind 16 = .ok (.iload_n 2, 1) := by decide +kernel
theorem dX6_isOfKind_17 : decode cX6_isOfKind 17 = .ok (.getstatic 358, 3) := by decide +kernel
theorem dX6_isOfKind_20 : decode cX6_isOfKind 20 = .ok (.arraylength, 1) := by decide +kernel
theorem dX6_isOfKind_21 : decode cX6_isOfKind 21 = .ok (.if_icmp .ge 22, 3) := by decide +kernel
theorem dX6_isOfKind_24 : decode cX6_isOfKind 24 = .ok (.iload_n 2, 1) := by decide +kernel
theorem dX6_isOfKind_25 : decode cX6_isOfKind 25 = .ok (.iload_n 1, 1) := by decide +kernel
theorem dX6_isOfKind_26 : decode cX6_isOfKind 26 = .ok (.if_icmp .ne 5, 3) := by decide +kernel
theorem dX6_isOfKind_29 : decode cX6_isOfKind 29 = .ok (.iconst 1, 1) := by decide +kernel
theorem dX6_isOfKind_30 : decode cX6_isOfKind 30 = .ok (.ireturn, 1) := by decide +kernel
theorem dX6_isOfKind_31 : decode cX6_isOfKind 31 = .ok (.getstatic 358, 3) := by decide +kernel
theorem dX6_isOfKind_34 : decode cX6_isOfKind 34 = .ok (.iload_n 2, 1) := by decide +kernel
theorem dX6_isOfKind_35 : decode cX6_isOfKind 35 = .ok (.iaload, 1) := by decide +kernel
theorem dX6_isOfKind_36 : decode cX6_isOfKind 36 = .ok (.istore_n 2, 1) := by decide +kernel
theorem dX6_isOfKind_37 : decode cX6_isOfKind 37 = .ok (.iinc 3 1, 3) := by decide +kernel
theorem dX6_isOfKind_40 : decode cX6_isOfKind 40 = .ok (.goto (-36), 3) := by decide +kernel
theorem dX6_isOfKind_43 : decode cX6_isOfKind 43 = .ok (.iconst 0, 1) := by decide +kernel
theorem dX6_isOfKind_44 : decode cX6_isOfKind 44 = .ok (.ireturn, 1) := by decide +kernel
theorem dX6_refusalOfSheet_0 : decode cX6_refusalOfSheet 0 = .ok (.iload_n 1, 1) := by decide +kernel
theorem dX6_refusalOfSheet_1 : decode cX6_refusalOfSheet 1 = .ok (.invokestatic 289, 3) := by decide +kernel
theorem dX6_refusalOfSheet_4 : decode cX6_refusalOfSheet 4 = .ok (.ifCond .ne 6, 3) := by decide +kernel
theorem dX6_refusalOfSheet_7 : decode cX6_refusalOfSheet 7 = .ok (.bipush (-2), 2) := by decide +kernel
theorem dX6_refusalOfSheet_9 : decode cX6_refusalOfSheet 9 = .ok (.ireturn, 1) := by decide +kernel
theorem dX6_refusalOfSheet_10 : decode cX6_refusalOfSheet 10 = .ok (.aload_n 0, 1) := by decide +kernel
theorem dX6_refusalOfSheet_11 : decode cX6_refusalOfSheet 11 = .ok (.iload_n 1, 1) := by decide +kernel
theorem dX6_refusalOfSheet_12 : decode cX6_refusalOfSheet 12 = .ok (.invokevirtual 171, 3) := by decide +kernel
theorem dX6_refusalOfSheet_15 : decode cX6_refusalOfSheet 15 = .ok (.invokevirtual 332, 3) := by decide +kernel
theorem dX6_refusalOfSheet_18 : decode cX6_refusalOfSheet 18 = .ok (.ifCond .eq 8, 3) := by decide +kernel
theorem dX6_refusalOfSheet_21 : decode cX6_refusalOfSheet 21 = .ok (.bipush (-11), 2) := by decide +kernel
theorem dX6_refusalOfSheet_23 : decode cX6_refusalOfSheet 23 = .ok (.goto 4, 3) := by decide +kernel
theorem dX6_refusalOfSheet_26 : decode cX6_refusalOfSheet 26 = .ok (.iconst 0, 1) := by decide +kernel
theorem dX6_refusalOfSheet_27 : decode cX6_refusalOfSheet 27 = .ok (.ireturn, 1) := by decide +kernel
theorem dX6_sheetAt_0 : decode cX6_sheetAt 0 = .ok (.aload_n 0, 1) := by decide +kernel
theorem dX6_sheetAt_1 : decode cX6_sheetAt 1 = .ok (.getfield 48, 3) := by decide +kernel
theorem dX6_sheetAt_4 : decode cX6_sheetAt 4 = .ok (.iload_n 1, 1) := by decide +kernel
theorem dX6_sheetAt_5 : decode cX6_sheetAt 5 = .ok (.invokestatic 289, 3) := by decide +kernel
theorem dX6_sheetAt_8 : decode cX6_sheetAt 8 = .ok (.ifCond .eq 7, 3) := by decide +kernel
theorem dX6_sheetAt_11 : decode cX6_sheetAt 11 = .ok (.iload_n 1, 1) := by decide +kernel
theorem dX6_sheetAt_12 : decode cX6_sheetAt 12 = .ok (.goto 4, 3) := by decide +kernel
theorem dX6_sheetAt_15 : decode cX6_sheetAt 15 = .ok (.iconst 0, 1) := by decide +kernel
theorem dX6_sheetAt_16 : decode cX6_sheetAt 16 = .ok (.aaload, 1) := by decide +kernel
theorem dX6_sheetAt_17 : decode cX6_sheetAt 17 = .ok (.areturn, 1) := by decide +kernel
theorem dX6_textAt_0 : decode cX6_textAt 0 = .ok (.iload_n 1, 1) := by decide +kernel
theorem dX6_textAt_1 : decode cX6_textAt 1 = .ok (.ifCond .lt 21, 3) := by decide +kernel
theorem dX6_textAt_4 : decode cX6_textAt 4 = .ok (.iload_n 1, 1) := by decide +kernel
theorem dX6_textAt_5 : decode cX6_textAt 5 = .ok (.aload_n 0, 1) := by decide +kernel
theorem dX6_textAt_6 : decode cX6_textAt 6 = .ok (.getfield 32, 3) := by decide +kernel
theorem dX6_textAt_9 : decode cX6_textAt 9 = .ok (.arraylength, 1) := by decide +kernel
theorem dX6_textAt_10 : decode cX6_textAt 10 = .ok (.if_icmp .ge 12, 3) := by decide +kernel
theorem dX6_textAt_13 : decode cX6_textAt 13 = .ok (.aload_n 0, 1) := by decide +kernel
theorem dX6_textAt_14 : decode cX6_textAt 14 = .ok (.getfield 32, 3) := by decide +kernel
theorem dX6_textAt_17 : decode cX6_textAt 17 = .ok (.iload_n 1, 1) := by decide +kernel
theorem dX6_textAt_18 : decode cX6_textAt 18 = .ok (.aaload, 1) := by decide +kernel
theorem dX6_textAt_19 : decode cX6_textAt 19 = .ok (.goto 4, 3) := by decide +kernel
theorem dX6_textAt_22 : decode cX6_textAt 22 = .ok (.aconst_null, 1) := by decide +kernel
theorem dX6_textAt_23 : decode cX6_textAt 23 = .ok (.astore_n 2, 1) := by decide +kernel
theorem dX6_textAt_24 : decode cX6_textAt 24 = .ok (.aload_n 2, 1) := by decide +kernel
theorem dX6_textAt_25 : decode cX6_textAt 25 = .ok (.ifnonnull 10, 3) := by decide +kernel
theorem dX6_textAt_28 : decode cX6_textAt 28 = .ok (.aload_n 0, 1) := by decide +kernel
theorem dX6_textAt_29 : decode cX6_textAt 29 = .ok (.getfield 28, 3) := by decide +kernel
theorem dX6_textAt_32 : decode cX6_textAt 32 = .ok (.goto 4, 3) := by decide +kernel
theorem dX6_textAt_35 : decode cX6_textAt 35 = .ok (.aload_n 2, 1) := by decide +kernel
theorem dX6_textAt_36 : decode cX6_textAt 36 = .ok (.areturn, 1) := by decide +kernel
theorem dX6_handOf_0 : decode cX6_handOf 0 = .ok (.aload_n 0, 1) := by decide +kernel
theorem dX6_handOf_1 : decode cX6_handOf 1 = .ok (.iload_n 1, 1) := by decide +kernel
theorem dX6_handOf_2 : decode cX6_handOf 2 = .ok (.invokevirtual 115, 3) := by decide +kernel
theorem dX6_handOf_5 : decode cX6_handOf 5 = .ok (.ifCond .eq 7, 3) := by decide +kernel
theorem dX6_handOf_8 : decode cX6_handOf 8 = .ok (.iload_n 1, 1) := by decide +kernel
theorem dX6_handOf_9 : decode cX6_handOf 9 = .ok (.goto 4, 3) := by decide +kernel
theorem dX6_handOf_12 : decode cX6_handOf 12 = .ok (.iconst 0, 1) := by decide +kernel
theorem dX6_handOf_13 : decode cX6_handOf 13 = .ok (.istore_n 2, 1) := by decide +kernel
theorem dX6_handOf_14 : decode cX6_handOf 14 = .ok (.aload_n 0, 1) := by decide +kernel
theorem dX6_handOf_15 : decode cX6_handOf 15 = .ok (.getfield 71, 3) := by decide +kernel
theorem dX6_handOf_18 : decode cX6_handOf 18 = .ok (.iload_n 2, 1) := by decide +kernel
theorem dX6_handOf_19 : decode cX6_handOf 19 = .ok (.aload_n 0, 1) := by decide +kernel
theorem dX6_handOf_20 : decode cX6_handOf 20 = .ok (.getfield 16, 3) := by decide +kernel
theorem dX6_handOf_23 : decode cX6_handOf 23 = .ok (.iload_n 2, 1) := by decide +kernel
theorem dX6_handOf_24 : decode cX6_handOf 24 = .ok (.iaload, 1) := by decide +kernel
theorem dX6_handOf_25 : decode cX6_handOf 25 = .ok (.aload_n 0, 1) := by decide +kernel
theorem dX6_handOf_26 : decode cX6_handOf 26 = .ok (.getfield 20, 3) := by decide +kernel
theorem dX6_handOf_29 : decode cX6_handOf 29 = .ok (.iload_n 2, 1) := by decide +kernel
theorem dX6_handOf_30 : decode cX6_handOf 30 = .ok (.iaload, 1) := by decide +kernel
theorem dX6_handOf_31 : decode cX6_handOf 31 = .ok (.invokevirtual 281, 3) := by decide +kernel
theorem dX6_handOf_34 : decode cX6_handOf 34 = .ok (.aload_n 0, 1) := by decide +kernel
theorem dX6_handOf_35 : decode cX6_handOf 35 = .ok (.getfield 71, 3) := by decide +kernel
theorem dX6_handOf_38 : decode cX6_handOf 38 = .ok (.aload_n 0, 1) := by decide +kernel
theorem dX6_handOf_39 : decode cX6_handOf 39 = .ok (.getfield 7, 3) := by decide +kernel
theorem dX6_handOf_42 : decode cX6_handOf 42 = .ok (.aload_n 0, 1) := by decide +kernel
theorem dX6_handOf_43 : decode cX6_handOf 43 = .ok (.getfield 13, 3) := by decide +kernel
theorem dX6_handOf_46 : decode cX6_handOf 46 = .ok (.aload_n 0, 1) := by decide +kernel
theorem dX6_handOf_47 : decode cX6_handOf 47 = .ok (.aload_n 0, 1) := by decide +kernel
theorem dX6_handOf_48 : decode cX6_handOf 48 = .ok (.getfield 79, 3) := by decide +kernel
theorem dX6_handOf_51 : decode cX6_handOf 51 = .ok (.invokevirtual 216, 3) := by decide +kernel
theorem dX6_handOf_54 : decode cX6_handOf 54 = .ok (.invokevirtual 220, 3) := by decide +kernel
theorem dX6_handOf_57 : decode cX6_handOf 57 = .ok (.aload_n 0, 1) := by decide +kernel
theorem dX6_handOf_58 : decode cX6_handOf 58 = .ok (.getfield 71, 3) := by decide +kernel
theorem dX6_handOf_61 : decode cX6_handOf 61 = .ok (.areturn, 1) := by decide +kernel
