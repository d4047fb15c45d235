theorem dX7_unlike_25 : decode cX7_unlike 25 = .ok (.iload_n 3, 1) := by decide +kernel
theorem dX7_unlike_26 : decode cX7_unlike 26 = .ok (.imul, 1) := by decide +kernel
theorem dX7_unlike_27 : decode cX7_unlike 27 = .ok (.iadd, 1) := by decide +kernel
theorem dX7_unlike_28 : decode cX7_unlike 28 = .ok (.iaload, 1) := by decide +kernel
theorem dX7_unlike_29 : decode cX7_unlike 29 = .ok (.invokevirtual 198, 3) := by decide +kernel
theorem dX7_unlike_32 : decode cX7_unlike 32 = .ok (.aload_n 0, 1) := by decide +kernel
theorem dX7_unlike_33 : decode cX7_unlike 33 = .ok (.getfield 44, 3) := by decide +kernel
theorem dX7_unlike_36 : decode cX7_unlike 36 = .ok (.bipush 40, 2) := by decide +kernel
theorem dX7_unlike_38 : decode cX7_unlike 38 = .ok (.iload_n 1, 1) := by decide +kernel
theorem dX7_unlike_39 : decode cX7_unlike 39 = .ok (.imul, 1) := by decide +kernel
theorem dX7_unlike_40 : decode cX7_unlike 40 = .ok (.iconst 2, 1) := by decide +kernel
theorem dX7_unlike_41 : decode cX7_unlike 41 = .ok (.iload_n 3, 1) := by decide +kernel
theorem dX7_unlike_42 : decode cX7_unlike 42 = .ok (.imul, 1) := by decide +kernel
theorem dX7_unlike_43 : decode cX7_unlike 43 = .ok (.iadd, 1) := by decide +kernel
theorem dX7_unlike_44 : decode cX7_unlike 44 = .ok (.iconst 1, 1) := by decide +kernel
theorem dX7_unlike_45 : decode cX7_unlike 45 = .ok (.iadd, 1) := by decide +kernel
theorem dX7_unlike_46 : decode cX7_unlike 46 = .ok (.iaload, 1) := by decide +kernel
theorem dX7_unlike_47 : decode cX7_unlike 47 = .ok (.i2l, 1) := by decide +kernel
theorem dX7_unlike_48 : decode cX7_unlike 48 = .ok (.lcmp, 1) := by decide +kernel
theorem dX7_unlike_49 : decode cX7_unlike 49 = .ok (.ifCond .eq 5, 3) := by decide +kernel
theorem dX7_unlike_52 : decode cX7_unlike 52 = .ok (.iload_n 3, 1) := by decide +kernel
theorem dX7_unlike_53 : decode cX7_unlike 53 = .ok (.ireturn, 1) := by decide +kernel
theorem dX7_unlike_54 : decode cX7_unlike 54 = .ok (.iinc 3 1, 3) := by decide +kernel
theorem dX7_unlike_57 : decode cX7_unlike 57 = .ok (.goto (-55), 3) := by decide +kernel
theorem dX7_unlike_60 : decode cX7_unlike 60 = .ok (.iconst (-1), 1) := by decide +kernel
theorem dX7_unlike_61 : decode cX7_unlike 61 = .ok (.ireturn, 1) := by decide +kernel
theorem dX7_judge_0 : decode cX7_judge 0 = .ok (.aload_n 0, 1) := by decide +kernel
theorem dX7_judge_1 : decode cX7_judge 1 = .ok (.iload_n 1, 1) := by decide +kernel
theorem dX7_judge_2 : decode cX7_judge 2 = .ok (.iload_n 2, 1) := by decide +kernel
theorem dX7_judge_3 : decode cX7_judge 3 = .ok (.invokevirtual 272, 3) := by decide +kernel
theorem dX7_judge_6 : decode cX7_judge 6 = .ok (.istore_n 3, 1) := by decide +kernel
theorem dX7_judge_7 : decode cX7_judge 7 = .ok (.iload_n 3, 1) := by decide +kernel
theorem dX7_judge_8 : decode cX7_judge 8 = .ok (.ifCond .ne 12, 3) := by decide +kernel
theorem dX7_judge_11 : decode cX7_judge 11 = .ok (.aload_n 0, 1) := by decide +kernel
theorem dX7_judge_12 : decode cX7_judge 12 = .ok (.iload_n 1, 1) := by decide +kernel
theorem dX7_judge_13 : decode cX7_judge 13 = .ok (.iload_n 2, 1) := by decide +kernel
theorem dX7_judge_14 : decode cX7_judge 14 = .ok (.invokevirtual 275, 3) := by decide +kernel
theorem dX7_judge_17 : decode cX7_judge 17 = .ok (.goto 4, 3) := by decide +kernel
theorem dX7_judge_20 : decode cX7_judge 20 = .ok (.iload_n 3, 1) := by decide +kernel
theorem dX7_judge_21 : decode cX7_judge 21 = .ok (.ireturn, 1) := by decide +kernel
theorem dX7_kinds_0 : decode cX7_kinds 0 = .ok (.aload_n 0, 1) := by decide +kernel
theorem dX7_kinds_1 : decode cX7_kinds 1 = .ok (.iload_n 1, 1) := by decide +kernel
theorem dX7_kinds_2 : decode cX7_kinds 2 = .ok (.iload_n 2, 1) := by decide +kernel
theorem dX7_kinds_3 : decode cX7_kinds 3 = .ok (.invokevirtual 272, 3) := by decide +kernel
theorem dX7_kinds_6 : decode cX7_kinds 6 = .ok (.istore 4, 2) := by decide +kernel
theorem dX7_kinds_8 : decode cX7_kinds 8 = .ok (.iload 4, 2) := by decide +kernel
theorem dX7_kinds_10 : decode cX7_kinds 10 = .ok (.ifCond .eq 6, 3) := by decide +kernel
theorem dX7_kinds_13 : decode cX7_kinds 13 = .ok (.iload 4, 2) := by decide +kernel
theorem dX7_kinds_15 : decode cX7_kinds 15 = .ok (.ireturn, 1) := by decide +kernel
theorem dX7_kinds_16 : decode cX7_kinds 16 = .ok (.iload_n 3, 1) := by decide +kernel
theorem dX7_kinds_17 : decode cX7_kinds 17 = .ok (.iconst 0, 1) := by decide +kernel
theorem dX7_kinds_18 : decode cX7_kinds 18 = .ok (.iconst 2, 1) := by decide +kernel
theorem dX7_kinds_19 : decode cX7_kinds 19 = .ok (.invokestatic 75, 3) := by decide +kernel
theorem dX7_kinds_22 : decode cX7_kinds 22 = .ok (.ifCond .ne 6, 3) := by decide +kernel
theorem dX7_kinds_25 : decode cX7_kinds 25 = .ok (.bipush (-7), 2) := by decide +kernel
theorem dX7_kinds_27 : decode cX7_kinds 27 = .ok (.ireturn, 1) := by decide +kernel
theorem dX7_kinds_28 : decode cX7_kinds 28 = .ok (.aload_n 0, 1) := by decide +kernel
theorem dX7_kinds_29 : decode cX7_kinds 29 = .ok (.getfield 16, 3) := by decide +kernel
theorem dX7_kinds_32 : decode cX7_kinds 32 = .ok (.iload_n 2, 1) := by decide +kernel
theorem dX7_kinds_33 : decode cX7_kinds 33 = .ok (.iaload, 1) := by decide +kernel
theorem dX7_kinds_34 : decode cX7_kinds 34 = .ok (.istore 5, 2) := by decide +kernel
theorem dX7_kinds_36 : decode cX7_kinds 36 = .ok (.aload_n 0, 1) := by decide +kernel
theorem dX7_kinds_37 : decode cX7_kinds 37 = .ok (.getfield 20, 3) := by decide +kernel
theorem dX7_kinds_40 : decode cX7_kinds 40 = .ok (.iload_n 2, 1) := by decide +kernel
theorem dX7_kinds_41 : decode cX7_kinds 41 = .ok (.iaload, 1) := by decide +kernel
theorem dX7_kinds_42 : decode cX7_kinds 42 = .ok (.istore 6, 2) := by decide +kernel
theorem dX7_kinds_44 : decode cX7_kinds 44 = .ok (.aload_n 0, 1) := by decide +kernel
theorem dX7_kinds_45 : decode cX7_kinds 45 = .ok (.getfield 7, 3) := by decide +kernel
theorem dX7_kinds_48 : decode cX7_kinds 48 = .ok (.istore 7, 2) := by decide +kernel
theorem dX7_kinds_50 : decode cX7_kinds 50 = .ok (.iconst 0, 1) := by decide +kernel
theorem dX7_kinds_51 : decode cX7_kinds 51 = .ok (.istore 8, 2) := by decide +kernel
theorem dX7_kinds_53 : decode cX7_kinds 53 = .ok (.iload_n 3, 1) := by decide +kernel
theorem dX7_kinds_54 : decode cX7_kinds 54 = .ok (.iconst 2, 1) := by decide +kernel
theorem dX7_kinds_55 : decode cX7_kinds 55 = .ok (.if_icmp .ne 7, 3) := by decide +kernel
theorem dX7_kinds_58 : decode cX7_kinds 58 = .ok (.iconst 2, 1) := by decide +kernel
theorem dX7_kinds_59 : decode cX7_kinds 59 = .ok (.goto 4, 3) := by decide +kernel
theorem dX7_kinds_62 : decode cX7_kinds 62 = .ok (.iconst 0, 1) := by decide +kernel
theorem dX7_kinds_63 : decode cX7_kinds 63 = .ok (.istore 9, 2) := by decide +kernel
theorem dX7_kinds_65 : decode cX7_kinds 65 = .ok (.iload 9, 2) := by decide +kernel
theorem dX7_kinds_67 : decode cX7_kinds 67 = .ok (.iload_n 3, 1) := by decide +kernel
theorem dX7_kinds_68 : decode cX7_kinds 68 = .ok (.ifCond .ne 8, 3) := by decide +kernel
theorem dX7_kinds_71 : decode cX7_kinds 71 = .ok (.bipush 6, 2) := by decide +kernel
theorem dX7_kinds_73 : decode cX7_kinds 73 = .ok (.goto 15, 3) := by decide +kernel
theorem dX7_kinds_76 : decode cX7_kinds 76 = .ok (.iload_n 3, 1) := by decide +kernel
theorem dX7_kinds_77 : decode cX7_kinds 77 = .ok (.iconst 1, 1) := by decide +kernel
theorem dX7_kinds_78 : decode cX7_kinds 78 = .ok (.if_icmp .ne 8, 3) := by decide +kernel
theorem dX7_kinds_81 : decode cX7_kinds 81 = .ok (.bipush 10, 2) := by decide +kernel
theorem dX7_kinds_83 : decode cX7_kinds 83 = .ok (.goto 5, 3) := by decide +kernel
theorem dX7_kinds_86 : decode cX7_kinds 86 = .ok (.bipush 13, 2) := by decide +kernel
theorem dX7_kinds_88 : decode cX7_kinds 88 = .ok (.if_icmp .ge 83, 3) := by decide +kernel
theorem dX7_kinds_91 : decode cX7_kinds 91 = .ok (.aload_n 0, 1) := by decide +kernel
theorem dX7_kinds_92 : decode cX7_kinds 92 = .ok (.getfield 16, 3) := by decide +kernel
theorem dX7_kinds_95 : decode cX7_kinds 95 = .ok (.iload_n 2, 1) := by decide +kernel
theorem dX7_kinds_96 : decode cX7_kinds 96 = .ok (.iload_n 3, 1) := by decide +kernel
theorem dX7_kinds_97 : decode cX7_kinds 97 = .ok (.ifCond .ne 8, 3) := by decide +kernel
theorem dX7_kinds_100 : decode cX7_kinds 100 = .ok (.iload 9, 2) := by decide +kernel
theorem dX7_kinds_102 : decode cX7_kinds 102 = .ok (.goto 5, 3) := by decide +kernel
theorem dX7_kinds_105 : decode cX7_kinds 105 = .ok (.iload 5, 2) := by decide +kernel
theorem dX7_kinds_107 : decode cX7_kinds 107 = .ok (.iastore, 1) := by decide +kernel
theorem dX7_kinds_108 : decode cX7_kinds 108 = .ok (.aload_n 0, 1) := by decide +kernel
theorem dX7_kinds_109 : decode cX7_kinds 109 = .ok (.getfield 20, 3) := by decide +kernel
theorem dX7_kinds_112 : decode cX7_kinds 112 = .ok (.iload_n 2, 1) := by decide +kernel
theorem dX7_kinds_113 : decode cX7_kinds 113 = .ok (.iload_n 3, 1) := by decide +kernel
theorem dX7_kinds_114 : decode cX7_kinds 114 = .ok (.iconst 1, 1) := by decide +kernel
theorem dX7_kinds_115 : decode cX7_kinds 115 = .ok (.if_icmp .ne 8, 3) := by decide +kernel
theorem dX7_kinds_118 : decode cX7_kinds 118 = .ok (.iload 9, 2) := by decide +kernel
theorem dX7_kinds_120 : decode cX7_kinds 120 = .ok (.goto 5, 3) := by decide +kernel
theorem dX7_kinds_123 : decode cX7_kinds 123 = .ok (.iload 6, 2) := by decide +kernel
theorem dX7_kinds_125 : decode cX7_kinds 125 = .ok (.iastore, 1) := by decide +kernel
theorem dX7_kinds_126 : decode cX7_kinds 126 = .ok (.aload_n 0, 1) := by decide +kernel
theorem dX7_kinds_127 : decode cX7_kinds 127 = .ok (.iload_n 3, 1) := by decide +kernel
theorem dX7_kinds_128 : decode cX7_kinds 128 = .ok (.iconst 2, 1) := by decide +kernel
theorem dX7_kinds_129 : decode cX7_kinds 129 = .ok (.if_icmp .ne 8, 3) := by decide +kernel
theorem dX7_kinds_132 : decode cX7_kinds 132 = .ok (.iload 9, 2) := by decide +kernel
theorem dX7_kinds_134 : decode cX7_kinds 134 = .ok (.goto 5, 3) := by decide +kernel
theorem dX7_kinds_137 : decode cX7_kinds 137 = .ok (.iload 7, 2) := by decide +kernel
theorem dX7_kinds_139 : decode cX7_kinds 139 = .ok (.putfield 7, 3) := by decide +kernel
theorem dX7_kinds_142 : decode cX7_kinds 142 = .ok (.iload 8, 2) := by decide +kernel
theorem dX7_kinds_144 : decode cX7_kinds 144 = .ok (.aload_n 0, 1) := by decide +kernel
theorem dX7_kinds_145 : decode cX7_kinds 145 = .ok (.iload_n 1, 1) := by decide +kernel
theorem dX7_kinds_146 : decode cX7_kinds 146 = .ok (.iload_n 2, 1) := by decide +kernel
theorem dX7_kinds_147 : decode cX7_kinds 147 = .ok (.invokevirtual 275, 3) := by decide +kernel
theorem dX7_kinds_150 : decode cX7_kinds 150 = .ok (.iconst (-1), 1) := by decide +kernel
theorem dX7_kinds_151 : decode cX7_kinds 151 = .ok (.if_icmp .ne 10, 3) := by decide +kernel
theorem dX7_kinds_154 : decode cX7_kinds 154 = .ok (.iconst 1, 1) := by decide +kernel
theorem dX7_kinds_155 : decode cX7_kinds 155 = .ok (.iload 9, 2) := by decide +kernel
theorem dX7_kinds_157 : decode cX7_kinds 157 = .ok (.ishl, 1) := by decide +kernel
theorem dX7_kinds_158 : decode cX7_kinds 158 = .ok (.goto 4, 3) := by decide +kernel
theorem dX7_kinds_161 : decode cX7_kinds 161 = .ok (.iconst 0, 1) := by decide +kernel
theorem dX7_kinds_162 : decode cX7_kinds 162 = .ok (.ior, 1) := by decide +kernel
theorem dX7_kinds_163 : decode cX7_kinds 163 = .ok (.istore 8, 2) := by decide +kernel
theorem dX7_kinds_165 : decode cX7_kinds 165 = .ok (.iinc 9 1, 3) := by decide +kernel
theorem dX7_kinds_168 : decode cX7_kinds 168 = .ok (.goto (-103), 3) := by decide +kernel
theorem dX7_kinds_171 : decode cX7_kinds 171 = .ok (.aload_n 0, 1) := by decide +kernel
theorem dX7_kinds_172 : decode cX7_kinds 172 = .ok (.getfield 16, 3) := by decide +kernel
theorem dX7_kinds_175 : decode cX7_kinds 175 = .ok (.iload_n 2, 1) := by decide +kernel
theorem dX7_kinds_176 : decode cX7_kinds 176 = .ok (.iload 5, 2) := by decide +kernel
theorem dX7_kinds_178 : decode cX7_kinds 178 = .ok (.iastore, 1) := by decide +kernel
theorem dX7_kinds_179 : decode cX7_kinds 179 = .ok (.aload_n 0, 1) := by decide +kernel
theorem dX7_kinds_180 : decode cX7_kinds 180 = .ok (.getfield 20, 3) := by decide +kernel
theorem dX7_kinds_183 : decode cX7_kinds 183 = .ok (.iload_n 2, 1) := by decide +kernel
theorem dX7_kinds_184 : decode cX7_kinds 184 = .ok (.iload 6, 2) := by decide +kernel
theorem dX7_kinds_186 : decode cX7_kinds 186 = .ok (.iastore, 1) := by decide +kernel
theorem dX7_kinds_187 : decode cX7_kinds 187 = .ok (.aload_n 0, 1) := by decide +kernel
theorem dX7_kinds_188 : decode cX7_kinds 188 = .ok (.iload 7, 2) := by decide +kernel
theorem dX7_kinds_190 : decode cX7_kinds 190 = .ok (.putfield 7, 3) := by decide +kernel
theorem dX7_kinds_193 : decode cX7_kinds 193 = .ok (.iload 8, 2) := by decide +kernel
theorem dX7_kinds_195 : decode cX7_kinds 195 = .ok (.ireturn, 1) := by decide +kernel
theorem dX7_whose_0 : decode cX7_whose 0 = .ok (.aload_n 0, 1) := by decide +kernel
theorem dX7_whose_1 : decode cX7_whose 1 = .ok (.iload_n 1, 1) := by decide +kernel
theorem dX7_whose_2 : decode cX7_whose 2 = .ok (.invokevirtual 269, 3) := by decide +kernel
theorem dX7_whose_5 : decode cX7_whose 5 = .ok (.istore_n 2, 1) := by decide +kernel
theorem dX7_whose_6 : decode cX7_whose 6 = .ok (.iload_n 2, 1) := by decide +kernel
theorem dX7_whose_7 : decode cX7_whose 7 = .ok (.ifCond .eq 5, 3) := by decide +kernel
theorem dX7_whose_10 : decode cX7_whose 10 = .ok (.iload_n 2, 1) := by decide +kernel
theorem dX7_whose_11 : decode cX7_whose 11 = .ok (.ireturn, 1) := by decide +kernel
theorem dX7_whose_12 : decode cX7_whose 12 = .ok (.iconst 0, 1) := by decide +kernel
theorem dX7_whose_13 : decode cX7_whose 13 = .ok (.istore_n 3, 1) := by decide +kernel
theorem dX7_whose_14 : decode cX7_whose 14 = .ok (.iconst 0, 1) := by decide +kernel
theorem dX7_whose_15 : decode cX7_whose 15 = .ok (.istore 4, 2) := by decide +kernel
theorem dX7_whose_17 : decode cX7_whose 17 = .ok (.iload 4, 2) := by decide +kernel
theorem dX7_whose_19 : decode cX7_whose 19 = .ok (.aload_n 0, 1) := by decide +kernel
theorem dX7_whose_20 : decode cX7_whose 20 = .ok (.getfield 72, 3) := by decide +kernel
theorem dX7_whose_23 : decode cX7_whose 23 = .ok (.if_icmp .ge 31, 3) := by decide +kernel
theorem dX7_whose_26 : decode cX7_whose 26 = .ok (.iload_n 3, 1) := by decide +kernel
theorem dX7_whose_27 : decode cX7_whose 27 = .ok (.aload_n 0, 1) := by decide +kernel
theorem dX7_whose_28 : decode cX7_whose 28 = .ok (.iload_n 1, 1) := by decide +kernel
theorem dX7_whose_29 : decode cX7_whose 29 = .ok (.iload 4, 2) := by decide +kernel
theorem dX7_whose_31 : decode cX7_whose 31 = .ok (.invokevirtual 275, 3) := by decide +kernel
theorem dX7_whose_34 : decode cX7_whose 34 = .ok (.iconst (-1), 1) := by decide +kernel
theorem dX7_whose_35 : decode cX7_whose 35 = .ok (.if_icmp .ne 10, 3) := by decide +kernel
theorem dX7_whose_38 : decode cX7_whose 38 = .ok (.iconst 1, 1) := by decide +kernel
theorem dX7_whose_39 : decode cX7_whose 39 = .ok (.iload 4, 2) := by decide +kernel
theorem dX7_whose_41 : decode cX7_whose 41 = .ok (.ishl, 1) := by decide +kernel
theorem dX7_whose_42 : decode cX7_whose 42 = .ok (.goto 4, 3) := by decide +kernel
theorem dX7_whose_45 : decode cX7_whose 45 = .ok (.iconst 0, 1) := by decide +kernel
theorem dX7_whose_46 : decode cX7_whose 46 = .ok (.ior, 1) := by decide +kernel
theorem dX7_whose_47 : decode cX7_whose 47 = .ok (.istore_n 3, 1) := by decide +kernel
theorem dX7_whose_48 : decode cX7_whose 48 = .ok (.iinc 4 1, 3) := by decide +kernel
theorem dX7_whose_51 : decode cX7_whose 51 = .ok (.goto (-34), 3) := by decide +kernel
theorem dX7_whose_54 : decode cX7_whose 54 = .ok (.iload_n 3, 1) := by decide +kernel
theorem dX7_whose_55 : decode cX7_whose 55 = .ok (.ireturn, 1) := by decide +kernel
theorem dX7_laws_0 : decode cX7_laws 0 = .ok (.aload_n 0, 1) := by decide +kernel
theorem dX7_laws_1 : decode cX7_laws 1 = .ok (.iload_n 1, 1) := by decide +kernel
theorem dX7_laws_2 : decode cX7_laws 2 = .ok (.iload_n 2, 1) := by decide +kernel
theorem dX7_laws_3 : decode cX7_laws 3 = .ok (.invokevirtual 272, 3) := by decide +kernel
theorem dX7_laws_6 : decode cX7_laws 6 = .ok (.istore_n 3, 1) := by decide +kernel
theorem dX7_laws_7 : decode cX7_laws 7 = .ok (.iload_n 3, 1) := by decide +kernel
theorem dX7_laws_8 : decode cX7_laws 8 = .ok (.ifCond .eq 5, 3) := by decide +kernel
theorem dX7_laws_11 : decode cX7_laws 11 = .ok (.iload_n 3, 1) := by decide +kernel
theorem dX7_laws_12 : decode cX7_laws 12 = .ok (.ireturn, 1) := by decide +kernel
theorem dX7_laws_13 : decode cX7_laws 13 = .ok (.aload_n 0, 1) := by decide +kernel
theorem dX7_laws_14 : decode cX7_laws 14 = .ok (.getfield 83, 3) := by decide +kernel
theorem dX7_laws_17 : decode cX7_laws 17 = .ok (.istore 4, 2) := by decide +kernel
theorem dX7_laws_19 : decode cX7_laws 19 = .ok (.iconst 0, 1) := by decide +kernel
theorem dX7_laws_20 : decode cX7_laws 20 = .ok (.istore 5, 2) := by decide +kernel
theorem dX7_laws_22 : decode cX7_laws 22 = .ok (.iconst 0, 1) := by decide +kernel
theorem dX7_laws_23 : decode cX7_laws 23 = .ok (.istore 6, 2) := by decide +kernel
theorem dX7_laws_25 : decode cX7_laws 25 = .ok (.iload 6, 2) := by decide +kernel
theorem dX7_laws_27 : decode cX7_laws 27 = .ok (.aload_n 0, 1) := by decide +kernel
theorem dX7_laws_28 : decode cX7_laws 28 = .ok (.getfield 80, 3) := by decide +kernel
theorem dX7_laws_31 : decode cX7_laws 31 = .ok (.if_icmp .ge 38, 3) := by decide +kernel
theorem dX7_laws_34 : decode cX7_laws 34 = .ok (.aload_n 0, 1) := by decide +kernel
theorem dX7_laws_35 : decode cX7_laws 35 = .ok (.iload 6, 2) := by decide +kernel
theorem dX7_laws_37 : decode cX7_laws 37 = .ok (.putfield 83, 3) := by decide +kernel
theorem dX7_laws_40 : decode cX7_laws 40 = .ok (.iload 5, 2) := by decide +kernel
theorem dX7_laws_42 : decode cX7_laws 42 = .ok (.aload_n 0, 1) := by decide +kernel
theorem dX7_laws_43 : decode cX7_laws 43 = .ok (.iload_n 1, 1) := by decide +kernel
theorem dX7_laws_44 : decode cX7_laws 44 = .ok (.iload_n 2, 1) := by decide +kernel
theorem dX7_laws_45 : decode cX7_laws 45 = .ok (.invokevirtual 275, 3) := by decide +kernel
theorem dX7_laws_48 : decode cX7_laws 48 = .ok (.iconst (-1), 1) := by decide +kernel
theorem dX7_laws_49 : decode cX7_laws 49 = .ok (.if_icmp .ne 10, 3) := by decide +kernel
theorem dX7_laws_52 : decode cX7_laws 52 = .ok (.iconst 1, 1) := by decide +kernel
theorem dX7_laws_53 : decode cX7_laws 53 = .ok (.iload 6, 2) := by decide +kernel
theorem dX7_laws_55 : decode cX7_laws 55 = .ok (.ishl, 1) := by decide +kernel
theorem dX7_laws_56 : decode cX7_laws 56 = .ok (.goto 4, 3) := by decide +kernel
theorem dX7_laws_59 : decode cX7_laws 59 = .ok (.iconst 0, 1) := by decide +kernel
theorem dX7_laws_60 : decode cX7_laws 60 = .ok (.ior, 1) := by decide +kernel
theorem dX7_laws_61 : decode cX7_laws 61 = .ok (.istore 5, 2) := by decide +kernel
theorem dX7_laws_63 : decode cX7_laws 63 = .ok (.iinc 6 1, 3) := by decide +kernel
theorem dX7_laws_66 : decode cX7_laws 66 = .ok (.goto (-41), 3) := by decide +kernel
theorem dX7_laws_69 : decode cX7_laws 69 = .ok (.aload_n 0, 1) := by decide +kernel
theorem dX7_laws_70 : decode cX7_laws 70 = .ok (.iload 4, 2) := by decide +kernel
theorem dX7_laws_72 : decode cX7_laws 72 = .ok (.putfield 83, 3) := by decide +kernel
theorem dX7_laws_75 : decode cX7_laws 75 = .ok (.iload 5, 2) := by decide +kernel
theorem dX7_laws_77 : decode cX7_laws 77 = .ok (.ireturn, 1) := by decide +kernel
theorem dX7_film_0 : decode cX7_film 0 = .ok (.iload_n 1, 1) := by decide +kernel
theorem dX7_film_1 : decode cX7_film 1 = .ok (.iconst 0, 1) := by decide +kernel
theorem dX7_film_2 : decode cX7_film 2 = .ok (.iconst 3, 1) := by decide +kernel
theorem dX7_film_3 : decode cX7_film 3 = .ok (.invokestatic 75, 3) := by decide +kernel
theorem dX7_film_6 : decode cX7_film 6 = .ok (.ifCond .ne 6, 3) := by decide +kernel
theorem dX7_film_9 : decode cX7_film 9 = .ok (.bipush (-2), 2) := by decide +kernel
theorem dX7_film_11 : decode cX7_film 11 = .ok (.ireturn, 1) := by decide +kernel
theorem dX7_film_12 : decode cX7_film 12 = .ok (.aload_n 0, 1) := by decide +kernel
theorem dX7_film_13 : decode cX7_film 13 = .ok (.iload_n 2, 1) := by decide +kernel
theorem dX7_film_14 : decode cX7_film 14 = .ok (.invokevirtual 159, 3) := by decide +kernel
theorem dX7_film_17 : decode cX7_film 17 = .ok (.ifCond .ne 6, 3) := by decide +kernel
theorem dX7_film_20 : decode cX7_film 20 = .ok (.bipush (-5), 2) := by decide +kernel
theorem dX7_film_22 : decode cX7_film 22 = .ok (.ireturn, 1) := by decide +kernel
theorem dX7_film_23 : decode cX7_film 23 = .ok (.iload_n 3, 1) := by decide +kernel
theorem dX7_film_24 : decode cX7_film 24 = .ok (.iconst 0, 1) := by decide +kernel
theorem dX7_film_25 : decode cX7_film 25 = .ok (.sipush 999, 3) := by decide +kernel
theorem dX7_film_28 : decode cX7_film 28 = .ok (.invokestatic 75, 3) := by decide +kernel
theorem dX7_film_31 : decode cX7_film 31 = .ok (.ifCond .eq 25, 3) := by decide +kernel
theorem dX7_film_34 : decode cX7_film 34 = .ok (.iload 4, 2) := by decide +kernel
theorem dX7_film_36 : decode cX7_film 36 = .ok (.iconst 0, 1) := by decide +kernel
theorem dX7_film_37 : decode cX7_film 37 = .ok (.sipush 9920, 3) := by decide +kernel
theorem dX7_film_40 : decode cX7_film 40 = .ok (.invokestatic 75, 3) := by decide +kernel
theorem dX7_film_43 : decode cX7_film 43 = .ok (.ifCond .eq 13, 3) := by decide +kernel
theorem dX7_film_46 : decode cX7_film 46 = .ok (.iload 4, 2) := by decide +kernel
theorem dX7_film_48 : decode cX7_film 48 = .ok (.bipush 100, 2) := by decide +kernel
theorem dX7_film_50 : decode cX7_film 50 = .ok (.irem, 1) := by decide +kernel
theorem dX7_film_51 : decode cX7_film 51 = .ok (.bipush 20, 2) := by decide +kernel
theorem dX7_film_53 : decode cX7_film 53 = .ok (.if_icmp .le 6, 3) := by decide +kernel
theorem dX7_film_56 : decode cX7_film 56 = .ok (.bipush (-7), 2) := by decide +kernel
theorem dX7_film_58 : decode cX7_film 58 = .ok (.ireturn, 1) := by decide +kernel
theorem dX7_film_59 : decode cX7_film 59 = .ok (.iload 4, 2) := by decide +kernel
theorem dX7_film_61 : decode cX7_film 61 = .ok (.bipush 100, 2) := by decide +kernel
theorem dX7_film_63 : decode cX7_film 63 = .ok (.irem, 1) := by decide +kernel
theorem dX7_film_64 : decode cX7_film 64 = .ok (.istore 5, 2) := by decide +kernel
theorem dX7_film_66 : decode cX7_film 66 = .ok (.aload_n 0, 1) := by decide +kernel
theorem dX7_film_67 : decode cX7_film 67 = .ok (.getfield 38, 3) := by decide +kernel
theorem dX7_film_70 : decode cX7_film 70 = .ok (.iload_n 1, 1) := by decide +kernel
theorem dX7_film_71 : decode cX7_film 71 = .ok (.iconst 2, 1) := by decide +kernel
theorem dX7_film_72 : decode cX7_film 72 = .ok (.iastore, 1) := by decide +kernel
theorem dX7_film_73 : decode cX7_film 73 = .ok (.aload_n 0, 1) := by decide +kernel
theorem dX7_film_74 : decode cX7_film 74 = .ok (.getfield 41, 3) := by decide +kernel
theorem dX7_film_77 : decode cX7_film 77 = .ok (.iload_n 1, 1) := by decide +kernel
theorem dX7_film_78 : decode cX7_film 78 = .ok (.iconst 2, 1) := by decide +kernel
theorem dX7_film_79 : decode cX7_film 79 = .ok (.iload 5, 2) := by decide +kernel
theorem dX7_film_81 : decode cX7_film 81 = .ok (.imul, 1) := by decide +kernel
theorem dX7_film_82 : decode cX7_film 82 = .ok (.iastore, 1) := by decide +kernel
theorem dX7_film_83 : decode cX7_film 83 = .ok (.iconst 0, 1) := by decide +kernel
theorem dX7_film_84 : decode cX7_film 84 = .ok (.istore 6, 2) := by decide +kernel
theorem dX7_film_86 : decode cX7_film 86 = .ok (.iload 6, 2) := by decide +kernel
theorem dX7_film_88 : decode cX7_film 88 = .ok (.bipush 40, 2) := by decide +kernel
theorem dX7_film_90 : decode cX7_film 90 = .ok (.if_icmp .ge 22, 3) := by decide +kernel
theorem dX7_film_93 : decode cX7_film 93 = .ok (.aload_n 0, 1) := by decide +kernel
theorem dX7_film_94 : decode cX7_film 94 = .ok (.getfield 44, 3) := by decide +kernel
theorem dX7_film_97 : decode cX7_film 97 = .ok (.bipush 40, 2) := by decide +kernel
theorem dX7_film_99 : decode cX7_film 99 = .ok (.iload_n 1, 1) := by decide +kernel
theorem dX7_film_100 : decode cX7_film 100 = .ok (.imul, 1) := by decide +kernel
theorem dX7_film_101 : decode cX7_film 101 = .ok (.iload 6, 2) := by decide +kernel
theorem dX7_film_103 : decode cX7_film 103 = .ok (.iadd, 1) := by decide +kernel
theorem dX7_film_104 : decode cX7_film 104 = .ok (.iconst 0, 1) := by decide +kernel
theorem dX7_film_105 : decode cX7_film 105 = .ok (.iastore, 1) := by decide +kernel
theorem dX7_film_106 : decode cX7_film 106 = .ok (.iinc 6 1, 3) := by decide +kernel
theorem dX7_film_109 : decode cX7_film 109 = .ok (.goto (-23), 3) := by decide +kernel
theorem dX7_film_112 : decode cX7_film 112 = .ok (.iconst 0, 1) := by decide +kernel
theorem dX7_film_113 : decode cX7_film 113 = .ok (.istore 6, 2) := by decide +kernel
theorem dX7_film_115 : decode cX7_film 115 = .ok (.iload 6, 2) := by decide +kernel
theorem dX7_film_117 : decode cX7_film 117 = .ok (.iload 5, 2) := by decide +kernel
theorem dX7_film_119 : decode cX7_film 119 = .ok (.if_icmp .ge 80, 3) := by decide +kernel
theorem dX7_film_122 : decode cX7_film 122 = .ok (.iload_n 3, 1) := by decide +kernel
theorem dX7_film_123 : decode cX7_film 123 = .ok (.iload 6, 2) := by decide +kernel
theorem dX7_film_125 : decode cX7_film 125 = .ok (.iload 4, 2) := by decide +kernel
theorem dX7_film_127 : decode cX7_film 127 = .ok (.bipush 100, 2) := by decide +kernel
theorem dX7_film_129 : decode cX7_film 129 = .ok (.idiv, 1) := by decide +kernel
theorem dX7_film_130 : decode cX7_film 130 = .ok (.imul, 1) := by decide +kernel
theorem dX7_film_131 : decode cX7_film 131 = .ok (.iadd, 1) := by decide +kernel
theorem dX7_film_132 : decode cX7_film 132 = .ok (.istore 7, 2) := by decide +kernel
theorem dX7_film_134 : decode cX7_film 134 = .ok (.aload_n 0, 1) := by decide +kernel
theorem dX7_film_135 : decode cX7_film 135 = .ok (.iload_n 2, 1) := by decide +kernel
theorem dX7_film_136 : decode cX7_film 136 = .ok (.iload 7, 2) := by decide +kernel
theorem dX7_film_138 : decode cX7_film 138 = .ok (.invokevirtual 198, 3) := by decide +kernel
theorem dX7_film_141 : decode cX7_film 141 = .ok (.lstore 8, 2) := by decide +kernel
theorem dX7_film_143 : decode cX7_film 143 = .ok (.aload_n 0, 1) := by decide +kernel
theorem dX7_film_144 : decode cX7_film 144 = .ok (.getfield 44, 3) := by decide +kernel
theorem dX7_film_147 : decode cX7_film 147 = .ok (.bipush 40, 2) := by decide +kernel
theorem dX7_film_149 : decode cX7_film 149 = .ok (.iload_n 1, 1) := by decide +kernel
theorem dX7_film_150 : decode cX7_film 150 = .ok (.imul, 1) := by decide +kernel
theorem dX7_film_151 : decode cX7_film 151 = .ok (.iconst 2, 1) := by decide +kernel
theorem dX7_film_152 : decode cX7_film 152 = .ok (.iload 6, 2) := by decide +kernel
theorem dX7_film_154 : decode cX7_film 154 = .ok (.imul, 1) := by decide +kernel
theorem dX7_film_155 : decode cX7_film 155 = .ok (.iadd, 1) := by decide +kernel
theorem dX7_film_156 : decode cX7_film 156 = .ok (.iload 7, 2) := by decide +kernel
theorem dX7_film_158 : decode cX7_film 158 = .ok (.iastore, 1) := by decide +kernel
theorem dX7_film_159 : decode cX7_film 159 = .ok (.aload_n 0, 1) := by decide +kernel
theorem dX7_film_160 : decode cX7_film 160 = .ok (.getfield 44, 3) := by decide +kernel
theorem dX7_film_163 : decode cX7_film 163 = .ok (.bipush 40, 2) := by decide +kernel
theorem dX7_film_165 : decode cX7_film 165 = .ok (.iload_n 1, 1) := by decide +kernel
theorem dX7_film_166 : decode cX7_film 166 = .ok (.imul, 1) := by decide +kernel
theorem dX7_film_167 : decode cX7_film 167 = .ok (.iconst 2, 1) := by decide +kernel
theorem dX7_film_168 : decode cX7_film 168 = .ok (.iload 6, 2) := by decide +kernel
theorem dX7_film_170 : decode cX7_film 170 = .ok (.imul, 1) := by decide +kernel
theorem dX7_film_171 : decode cX7_film 171 = .ok (.iadd, 1) := by decide +kernel
theorem dX7_film_172 : decode cX7_film 172 = .ok (.iconst 1, 1) := by decide +kernel
theorem dX7_film_173 : decode cX7_film 173 = .ok (.iadd, 1) := by decide +kernel
theorem dX7_film_174 : decode cX7_film 174 = .ok (.lload 8, 2) := by decide +kernel
theorem dX7_film_176 : decode cX7_film 176 = .ok (.ldc2_w 278, 3) := by decide +kernel
theorem dX7_film_179 : decode cX7_film 179 = .ok (.lcmp, 1) := by decide +kernel
theorem dX7_film_180 : decode cX7_film 180 = .ok (.ifCond .le 9, 3) := by decide +kernel
theorem dX7_film_183 : decode cX7_film 183 = .ok (.ldc_w 280, 3) := by decide +kernel
theorem dX7_film_186 : decode cX7_film 186 = .ok (.goto 6, 3) := by decide +kernel
theorem dX7_film_189 : decode cX7_film 189 = .ok (.lload 8, 2) := by decide +kernel
theorem dX7_film_191 : decode cX7_film 191 = .ok (.l2i, 1) := by decide +kernel
theorem dX7_film_192 : decode cX7_film 192 = .ok (.iastore, 1) := by decide +kernel
theorem dX7_film_193 : decode cX7_film 193 = .ok (.iinc 6 1, 3) := by decide +kernel
theorem dX7_film_196 : decode cX7_film 196 = .ok (.goto (-81), 3) := by decide +kernel
theorem dX7_film_199 : decode cX7_film 199 = .ok (.iload 5, 2) := by decide +kernel
theorem dX7_film_201 : decode cX7_film 201 = .ok (.ireturn, 1) := by decide +kernel
theorem dX7_slipsBy_0 : decode cX7_slipsBy 0 = .ok (.iload_n 1, 1) := by decide +kernel
theorem dX7_slipsBy_1 : decode cX7_slipsBy 1 = .ok (.i2l, 1) := by decide +kernel
theorem dX7_slipsBy_2 : decode cX7_slipsBy 2 = .ok (.lconst 1, 1) := by decide +kernel
theorem dX7_slipsBy_3 : decode cX7_slipsBy 3 = .ok (.ladd, 1) := by decide +kernel
theorem dX7_slipsBy_4 : decode cX7_slipsBy 4 = .ok (.lstore 4, 2) := by decide +kernel
theorem dX7_slipsBy_6 : decode cX7_slipsBy 6 = .ok (.aload_n 0, 1) := by decide +kernel
theorem dX7_slipsBy_7 : decode cX7_slipsBy 7 = .ok (.iconst 1, 1) := by decide +kernel
theorem dX7_slipsBy_8 : decode cX7_slipsBy 8 = .ok (.iload_n 2, 1) := by decide +kernel
theorem dX7_slipsBy_9 : decode cX7_slipsBy 9 = .ok (.iload_n 3, 1) := by decide +kernel
theorem dX7_slipsBy_10 : decode cX7_slipsBy 10 = .ok (.iconst 0, 1) := by decide +kernel
theorem dX7_slipsBy_11 : decode cX7_slipsBy 11 = .ok (.invokevirtual 165, 3) := by decide +kernel
theorem dX7_slipsBy_14 : decode cX7_slipsBy 14 = .ok (.istore 6, 2) := by decide +kernel
theorem dX7_slipsBy_16 : decode cX7_slipsBy 16 = .ok (.aload_n 0, 1) := by decide +kernel
theorem dX7_slipsBy_17 : decode cX7_slipsBy 17 = .ok (.iload_n 2, 1) := by decide +kernel
theorem dX7_slipsBy_18 : decode cX7_slipsBy 18 = .ok (.iload_n 3, 1) := by decide +kernel
theorem dX7_slipsBy_19 : decode cX7_slipsBy 19 = .ok (.invokevirtual 186, 3) := by decide +kernel
theorem dX7_slipsBy_22 : decode cX7_slipsBy 22 = .ok (.iconst 0, 1) := by decide +kernel
theorem dX7_slipsBy_23 : decode cX7_slipsBy 23 = .ok (.istore 7, 2) := by decide +kernel
theorem dX7_slipsBy_25 : decode cX7_slipsBy 25 = .ok (.iload 7, 2) := by decide +kernel
theorem dX7_slipsBy_27 : decode cX7_slipsBy 27 = .ok (.aload_n 0, 1) := by decide +kernel
theorem dX7_slipsBy_28 : decode cX7_slipsBy 28 = .ok (.getfield 175, 3) := by decide +kernel
theorem dX7_slipsBy_31 : decode cX7_slipsBy 31 = .ok (.if_icmp .ge 63, 3) := by decide +kernel
theorem dX7_slipsBy_34 : decode cX7_slipsBy 34 = .ok (.lload 4, 2) := by decide +kernel
theorem dX7_slipsBy_36 : decode cX7_slipsBy 36 = .ok (.ldc2_w 281, 3) := by decide +kernel
theorem dX7_slipsBy_39 : decode cX7_slipsBy 39 = .ok (.lmul, 1) := by decide +kernel
theorem dX7_slipsBy_40 : decode cX7_slipsBy 40 = .ok (.ldc2_w 278, 3) := by decide +kernel
theorem dX7_slipsBy_43 : decode cX7_slipsBy 43 = .ok (.lrem, 1) := by decide +kernel
theorem dX7_slipsBy_44 : decode cX7_slipsBy 44 = .ok (.lstore 4, 2) := by decide +kernel
theorem dX7_slipsBy_46 : decode cX7_slipsBy 46 = .ok (.aload_n 0, 1) := by decide +kernel
theorem dX7_slipsBy_47 : decode cX7_slipsBy 47 = .ok (.getfield 62, 3) := by decide +kernel
theorem dX7_slipsBy_50 : decode cX7_slipsBy 50 = .ok (.iload 7, 2) := by decide +kernel
theorem dX7_slipsBy_52 : decode cX7_slipsBy 52 = .ok (.lload 4, 2) := by decide +kernel
theorem dX7_slipsBy_54 : decode cX7_slipsBy 54 = .ok (.ldc2_w 235, 3) := by decide +kernel
theorem dX7_slipsBy_57 : decode cX7_slipsBy 57 = .ok (.lrem, 1) := by decide +kernel
theorem dX7_slipsBy_58 : decode cX7_slipsBy 58 = .ok (.iload 6, 2) := by decide +kernel
theorem dX7_slipsBy_60 : decode cX7_slipsBy 60 = .ok (.i2l, 1) := by decide +kernel
theorem dX7_slipsBy_61 : decode cX7_slipsBy 61 = .ok (.lcmp, 1) := by decide +kernel
theorem dX7_slipsBy_62 : decode cX7_slipsBy 62 = .ok (.ifCond .ge 18, 3) := by decide +kernel
theorem dX7_slipsBy_65 : decode cX7_slipsBy 65 = .ok (.aload_n 0, 1) := by decide +kernel
theorem dX7_slipsBy_66 : decode cX7_slipsBy 66 = .ok (.iload_n 2, 1) := by decide +kernel
theorem dX7_slipsBy_67 : decode cX7_slipsBy 67 = .ok (.aload_n 0, 1) := by decide +kernel
theorem dX7_slipsBy_68 : decode cX7_slipsBy 68 = .ok (.getfield 62, 3) := by decide +kernel
theorem dX7_slipsBy_71 : decode cX7_slipsBy 71 = .ok (.iload 7, 2) := by decide +kernel
theorem dX7_slipsBy_73 : decode cX7_slipsBy 73 = .ok (.iaload, 1) := by decide +kernel
theorem dX7_slipsBy_74 : decode cX7_slipsBy 74 = .ok (.invokevirtual 230, 3) := by decide +kernel
theorem dX7_slipsBy_77 : decode cX7_slipsBy 77 = .ok (.goto 10, 3) := by decide +kernel
theorem dX7_slipsBy_80 : decode cX7_slipsBy 80 = .ok (.aload_n 0, 1) := by decide +kernel
theorem dX7_slipsBy_81 : decode cX7_slipsBy 81 = .ok (.getfield 62, 3) := by decide +kernel
theorem dX7_slipsBy_84 : decode cX7_slipsBy 84 = .ok (.iload 7, 2) := by decide +kernel
theorem dX7_slipsBy_86 : decode cX7_slipsBy 86 = .ok (.iaload, 1) := by decide +kernel
theorem dX7_slipsBy_87 : decode cX7_slipsBy 87 = .ok (.iastore, 1) := by decide +kernel
theorem dX7_slipsBy_88 : decode cX7_slipsBy 88 = .ok (.iinc 7 1, 3) := by decide +kernel
theorem dX7_slipsBy_91 : decode cX7_slipsBy 91 = .ok (.goto (-66), 3) := by decide +kernel
theorem dX7_slipsBy_94 : decode cX7_slipsBy 94 = .ok (.aload_n 0, 1) := by decide +kernel
theorem dX7_slipsBy_95 : decode cX7_slipsBy 95 = .ok (.aload_n 0, 1) := by decide +kernel
theorem dX7_slipsBy_96 : decode cX7_slipsBy 96 = .ok (.iload_n 2, 1) := by decide +kernel
theorem dX7_slipsBy_97 : decode cX7_slipsBy 97 = .ok (.invokevirtual 169, 3) := by decide +kernel
theorem dX7_slipsBy_100 : decode cX7_slipsBy 100 = .ok (.aload_n 0, 1) := by decide +kernel
theorem dX7_slipsBy_101 : decode cX7_slipsBy 101 = .ok (.iload_n 2, 1) := by decide +kernel
theorem dX7_slipsBy_102 : decode cX7_slipsBy 102 = .ok (.invokevirtual 172, 3) := by decide +kernel
theorem dX7_slipsBy_105 : decode cX7_slipsBy 105 = .ok (.invokevirtual 194, 3) := by decide +kernel
theorem dX7_slipsBy_108 : decode cX7_slipsBy 108 = .ok (.lreturn, 1) := by decide +kernel
theorem dX7_drawn_0 : decode cX7_drawn 0 = .ok (.aload_n 0, 1) := by decide +kernel
theorem dX7_drawn_1 : decode cX7_drawn 1 = .ok (.iload_n 2, 1) := by decide +kernel
theorem dX7_drawn_2 : decode cX7_drawn 2 = .ok (.invokevirtual 159, 3) := by decide +kernel
theorem dX7_drawn_5 : decode cX7_drawn 5 = .ok (.ifCond .ne 7, 3) := by decide +kernel
theorem dX7_drawn_8 : decode cX7_drawn 8 = .ok (.ldc2_w 190, 3) := by decide +kernel
theorem dX7_drawn_11 : decode cX7_drawn 11 = .ok (.lreturn, 1) := by decide +kernel
theorem dX7_drawn_12 : decode cX7_drawn 12 = .ok (.iload_n 1, 1) := by decide +kernel
theorem dX7_drawn_13 : decode cX7_drawn 13 = .ok (.iconst 0, 1) := by decide +kernel
theorem dX7_drawn_14 : decode cX7_drawn 14 = .ok (.ldc 79, 2) := by decide +kernel
theorem dX7_drawn_16 : decode cX7_drawn 16 = .ok (.invokestatic 75, 3) := by decide +kernel
theorem dX7_drawn_19 : decode cX7_drawn 19 = .ok (.ifCond .eq 20, 3) := by decide +kernel
theorem dX7_drawn_22 : decode cX7_drawn 22 = .ok (.iload_n 3, 1) := by decide +kernel
theorem dX7_drawn_23 : decode cX7_drawn 23 = .ok (.invokestatic 162, 3) := by decide +kernel
theorem dX7_drawn_26 : decode cX7_drawn 26 = .ok (.ifCond .eq 13, 3) := by decide +kernel
theorem dX7_drawn_29 : decode cX7_drawn 29 = .ok (.aload_n 0, 1) := by decide +kernel
theorem dX7_drawn_30 : decode cX7_drawn 30 = .ok (.iload_n 1, 1) := by decide +kernel
theorem dX7_drawn_31 : decode cX7_drawn 31 = .ok (.iload_n 2, 1) := by decide +kernel
theorem dX7_drawn_32 : decode cX7_drawn 32 = .ok (.iload_n 3, 1) := by decide +kernel
theorem dX7_drawn_33 : decode cX7_drawn 33 = .ok (.invokevirtual 283, 3) := by decide +kernel
theorem dX7_drawn_36 : decode cX7_drawn 36 = .ok (.goto 6, 3) := by decide +kernel
theorem dX7_drawn_39 : decode cX7_drawn 39 = .ok (.ldc2_w 192, 3) := by decide +kernel
theorem dX7_drawn_42 : decode cX7_drawn 42 = .ok (.lreturn, 1) := by decide +kernel
theorem dX7_lowest_0 : decode cX7_lowest 0 = .ok (.lload_n 0, 1) := by decide +kernel
theorem dX7_lowest_1 : decode cX7_lowest 1 = .ok (.lconst 0, 1) := by decide +kernel
theorem dX7_lowest_2 : decode cX7_lowest 2 = .ok (.lcmp, 1) := by decide +kernel
theorem dX7_lowest_3 : decode cX7_lowest 3 = .ok (.ifCond .ne 7, 3) := by decide +kernel
theorem dX7_lowest_6 : decode cX7_lowest 6 = .ok (.iload 4, 2) := by decide +kernel
theorem dX7_lowest_8 : decode cX7_lowest 8 = .ok (.i2l, 1) := by decide +kernel
theorem dX7_lowest_9 : decode cX7_lowest 9 = .ok (.lreturn, 1) := by decide +kernel
theorem dX7_lowest_10 : decode cX7_lowest 10 = .ok (.lload_n 0, 1) := by decide +kernel
theorem dX7_lowest_11 : decode cX7_lowest 11 = .ok (.lstore 5, 2) := by decide +kernel
theorem dX7_lowest_13 : decode cX7_lowest 13 = .ok (.lload_n 2, 1) := by decide +kernel
theorem dX7_lowest_14 : decode cX7_lowest 14 = .ok (.lstore 7, 2) := by decide +kernel
theorem dX7_lowest_16 : decode cX7_lowest 16 = .ok (.lload 7, 2) := by decide +kernel
theorem dX7_lowest_18 : decode cX7_lowest 18 = .ok (.lconst 0, 1) := by decide +kernel
theorem dX7_lowest_19 : decode cX7_lowest 19 = .ok (.lcmp, 1) := by decide +kernel
theorem dX7_lowest_20 : decode cX7_lowest 20 = .ok (.ifCond .eq 21, 3) := by decide +kernel
theorem dX7_lowest_23 : decode cX7_lowest 23 = .ok (.lload 5, 2) := by decide +kernel
theorem dX7_lowest_25 : decode cX7_lowest 25 = .ok (.lload 7, 2) := by decide +kernel
theorem dX7_lowest_27 : decode cX7_lowest 27 = .ok (.lrem, 1) := by decide +kernel
theorem dX7_lowest_28 : decode cX7_lowest 28 = .ok (.lstore 9, 2) := by decide +kernel
theorem dX7_lowest_30 : decode cX7_lowest 30 = .ok (.lload 7, 2) := by decide +kernel
theorem dX7_lowest_32 : decode cX7_lowest 32 = .ok (.lstore 5, 2) := by decide +kernel
theorem dX7_lowest_34 : decode cX7_lowest 34 = .ok (.lload 9, 2) := by decide +kernel
theorem dX7_lowest_36 : decode cX7_lowest 36 = .ok (.lstore 7, 2) := by decide +kernel
theorem dX7_lowest_38 : decode cX7_lowest 38 = .ok (.goto (-22), 3) := by decide +kernel
theorem dX7_lowest_41 : decode cX7_lowest 41 = .ok (.iload 4, 2) := by decide +kernel
theorem dX7_lowest_43 : decode cX7_lowest 43 = .ok (.ifCond .ne 7, 3) := by decide +kernel
theorem dX7_lowest_46 : decode cX7_lowest 46 = .ok (.lload_n 0, 1) := by decide +kernel
theorem dX7_lowest_47 : decode cX7_lowest 47 = .ok (.goto 4, 3) := by decide +kernel
theorem dX7_lowest_50 : decode cX7_lowest 50 = .ok (.lload_n 2, 1) := by decide +kernel
theorem dX7_lowest_51 : decode cX7_lowest 51 = .ok (.lload 5, 2) := by decide +kernel
theorem dX7_lowest_53 : decode cX7_lowest 53 = .ok (.ldiv, 1) := by decide +kernel
theorem dX7_lowest_54 : decode cX7_lowest 54 = .ok (.lreturn, 1) := by decide +kernel
theorem dX7_odds_0 : decode cX7_odds 0 = .ok (.iload_n 1, 1) := by decide +kernel
theorem dX7_odds_1 : decode cX7_odds 1 = .ok (.iconst 0, 1) := by decide +kernel
theorem dX7_odds_2 : decode cX7_odds 2 = .ok (.ldc 79, 2) := by decide +kernel
theorem dX7_odds_4 : decode cX7_odds 4 = .ok (.invokestatic 75, 3) := by decide +kernel
theorem dX7_odds_7 : decode cX7_odds 7 = .ok (.ifCond .eq 39, 3) := by decide +kernel
theorem dX7_odds_10 : decode cX7_odds 10 = .ok (.iload_n 2, 1) := by decide +kernel
theorem dX7_odds_11 : decode cX7_odds 11 = .ok (.iconst 1, 1) := by decide +kernel
theorem dX7_odds_12 : decode cX7_odds 12 = .ok (.bipush 60, 2) := by decide +kernel
theorem dX7_odds_14 : decode cX7_odds 14 = .ok (.invokestatic 75, 3) := by decide +kernel
theorem dX7_odds_17 : decode cX7_odds 17 = .ok (.ifCond .eq 29, 3) := by decide +kernel
theorem dX7_odds_20 : decode cX7_odds 20 = .ok (.aload_n 0, 1) := by decide +kernel
theorem dX7_odds_21 : decode cX7_odds 21 = .ok (.iload_n 3, 1) := by decide +kernel
theorem dX7_odds_22 : decode cX7_odds 22 = .ok (.invokevirtual 159, 3) := by decide +kernel
theorem dX7_odds_25 : decode cX7_odds 25 = .ok (.ifCond .eq 21, 3) := by decide +kernel
theorem dX7_odds_28 : decode cX7_odds 28 = .ok (.iload 4, 2) := by decide +kernel
theorem dX7_odds_30 : decode cX7_odds 30 = .ok (.invokestatic 162, 3) := by decide +kernel
theorem dX7_odds_33 : decode cX7_odds 33 = .ok (.ifCond .eq 13, 3) := by decide +kernel
theorem dX7_odds_36 : decode cX7_odds 36 = .ok (.iload 5, 2) := by decide +kernel
theorem dX7_odds_38 : decode cX7_odds 38 = .ok (.iconst 0, 1) := by decide +kernel
theorem dX7_odds_39 : decode cX7_odds 39 = .ok (.iconst 1, 1) := by decide +kernel
theorem dX7_odds_40 : decode cX7_odds 40 = .ok (.invokestatic 75, 3) := by decide +kernel
theorem dX7_odds_43 : decode cX7_odds 43 = .ok (.ifCond .ne 7, 3) := by decide +kernel
theorem dX7_odds_46 : decode cX7_odds 46 = .ok (.ldc2_w 286, 3) := by decide +kernel
theorem dX7_odds_49 : decode cX7_odds 49 = .ok (.lreturn, 1) := by decide +kernel
theorem dX7_odds_50 : decode cX7_odds 50 = .ok (.aload_n 0, 1) := by decide +kernel
theorem dX7_odds_51 : decode cX7_odds 51 = .ok (.iload_n 3, 1) := by decide +kernel
theorem dX7_odds_52 : decode cX7_odds 52 = .ok (.iload 4, 2) := by decide +kernel
theorem dX7_odds_54 : decode cX7_odds 54 = .ok (.invokevirtual 186, 3) := by decide +kernel
theorem dX7_odds_57 : decode cX7_odds 57 = .ok (.aload_n 0, 1) := by decide +kernel
theorem dX7_odds_58 : decode cX7_odds 58 = .ok (.aload_n 0, 1) := by decide +kernel
theorem dX7_odds_59 : decode cX7_odds 59 = .ok (.iload_n 3, 1) := by decide +kernel
theorem dX7_odds_60 : decode cX7_odds 60 = .ok (.invokevirtual 169, 3) := by decide +kernel
theorem dX7_odds_63 : decode cX7_odds 63 = .ok (.aload_n 0, 1) := by decide +kernel
theorem dX7_odds_64 : decode cX7_odds 64 = .ok (.iload_n 3, 1) := by decide +kernel
theorem dX7_odds_65 : decode cX7_odds 65 = .ok (.invokevirtual 172, 3) := by decide +kernel
theorem dX7_odds_68 : decode cX7_odds 68 = .ok (.invokevirtual 194, 3) := by decide +kernel
theorem dX7_odds_71 : decode cX7_odds 71 = .ok (.lstore 6, 2) := by decide +kernel
theorem dX7_odds_73 : decode cX7_odds 73 = .ok (.lconst 0, 1) := by decide +kernel
theorem dX7_odds_74 : decode cX7_odds 74 = .ok (.lstore 8, 2) := by decide +kernel
theorem dX7_odds_76 : decode cX7_odds 76 = .ok (.iconst 0, 1) := by decide +kernel
theorem dX7_odds_77 : decode cX7_odds 77 = .ok (.istore 10, 2) := by decide +kernel
theorem dX7_odds_79 : decode cX7_odds 79 = .ok (.iload 10, 2) := by decide +kernel
theorem dX7_odds_81 : decode cX7_odds 81 = .ok (.iload_n 2, 1) := by decide +kernel
theorem dX7_odds_82 : decode cX7_odds 82 = .ok (.if_icmp .ge 36, 3) := by decide +kernel
theorem dX7_odds_85 : decode cX7_odds 85 = .ok (.lload 8, 2) := by decide +kernel
theorem dX7_odds_87 : decode cX7_odds 87 = .ok (.aload_n 0, 1) := by decide +kernel
theorem dX7_odds_88 : decode cX7_odds 88 = .ok (.iload_n 1, 1) := by decide +kernel
theorem dX7_odds_89 : decode cX7_odds 89 = .ok (.iload 10, 2) := by decide +kernel
theorem dX7_odds_91 : decode cX7_odds 91 = .ok (.iadd, 1) := by decide +kernel
theorem dX7_odds_92 : decode cX7_odds 92 = .ok (.iload_n 3, 1) := by decide +kernel
theorem dX7_odds_93 : decode cX7_odds 93 = .ok (.iload 4, 2) := by decide +kernel
theorem dX7_odds_95 : decode cX7_odds 95 = .ok (.invokevirtual 283, 3) := by decide +kernel
theorem dX7_odds_98 : decode cX7_odds 98 = .ok (.lload 6, 2) := by decide +kernel
theorem dX7_odds_100 : decode cX7_odds 100 = .ok (.lcmp, 1) := by decide +kernel
theorem dX7_odds_101 : decode cX7_odds 101 = .ok (.ifCond .ne 7, 3) := by decide +kernel
theorem dX7_odds_104 : decode cX7_odds 104 = .ok (.lconst 1, 1) := by decide +kernel
theorem dX7_odds_105 : decode cX7_odds 105 = .ok (.goto 4, 3) := by decide +kernel
theorem dX7_odds_108 : decode cX7_odds 108 = .ok (.lconst 0, 1) := by decide +kernel
theorem dX7_odds_109 : decode cX7_odds 109 = .ok (.ladd, 1) := by decide +kernel
theorem dX7_odds_110 : decode cX7_odds 110 = .ok (.lstore 8, 2) := by decide +kernel
theorem dX7_odds_112 : decode cX7_odds 112 = .ok (.iinc 10 1, 3) := by decide +kernel
theorem dX7_odds_115 : decode cX7_odds 115 = .ok (.goto (-36), 3) := by decide +kernel
theorem dX7_odds_118 : decode cX7_odds 118 = .ok (.lload 8, 2) := by decide +kernel
theorem dX7_odds_120 : decode cX7_odds 120 = .ok (.iload_n 2, 1) := by decide +kernel
theorem dX7_odds_121 : decode cX7_odds 121 = .ok (.i2l, 1) := by decide +kernel
theorem dX7_odds_122 : decode cX7_odds 122 = .ok (.iload 5, 2) := by decide +kernel
theorem dX7_odds_124 : decode cX7_odds 124 = .ok (.invokestatic 288, 3) := by decide +kernel
theorem dX7_odds_127 : decode cX7_odds 127 = .ok (.lreturn, 1) := by decide +kernel
theorem dX7_image_0 : decode cX7_image 0 = .ok (.aload_n 0, 1) := by decide +kernel
theorem dX7_image_1 : decode cX7_image 1 = .ok (.iconst 1, 1) := by decide +kernel
theorem dX7_image_2 : decode cX7_image 2 = .ok (.putfield 292, 3) := by decide +kernel
theorem dX7_image_5 : decode cX7_image 5 = .ok (.aload_n 0, 1) := by decide +kernel
theorem dX7_image_6 : decode cX7_image 6 = .ok (.aload_n 0, 1) := by decide +kernel
theorem dX7_image_7 : decode cX7_image 7 = .ok (.getfield 72, 3) := by decide +kernel
theorem dX7_image_10 : decode cX7_image 10 = .ok (.putfield 296, 3) := by decide +kernel
theorem dX7_image_13 : decode cX7_image 13 = .ok (.aload_n 0, 1) := by decide +kernel
theorem dX7_image_14 : decode cX7_image 14 = .ok (.aload_n 0, 1) := by decide +kernel
theorem dX7_image_15 : decode cX7_image 15 = .ok (.getfield 7, 3) := by decide +kernel
theorem dX7_image_18 : decode cX7_image 18 = .ok (.putfield 299, 3) := by decide +kernel
theorem dX7_image_21 : decode cX7_image 21 = .ok (.aload_n 0, 1) := by decide +kernel
theorem dX7_image_22 : decode cX7_image 22 = .ok (.aload_n 0, 1) := by decide +kernel
theorem dX7_image_23 : decode cX7_image 23 = .ok (.getfield 13, 3) := by decide +kernel
theorem dX7_image_26 : decode cX7_image 26 = .ok (.putfield 302, 3) := by decide +kernel
theorem dX7_image_29 : decode cX7_image 29 = .ok (.aload_n 0, 1) := by decide +kernel
theorem dX7_image_30 : decode cX7_image 30 = .ok (.aload_n 0, 1) := by decide +kernel
theorem dX7_image_31 : decode cX7_image 31 = .ok (.getfield 83, 3) := by decide +kernel
theorem dX7_image_34 : decode cX7_image 34 = .ok (.putfield 305, 3) := by decide +kernel
theorem dX7_image_37 : decode cX7_image 37 = .ok (.iconst 0, 1) := by decide +kernel
theorem dX7_image_38 : decode cX7_image 38 = .ok (.istore_n 1, 1) := by decide +kernel
theorem dX7_image_39 : decode cX7_image 39 = .ok (.iload_n 1, 1) := by decide +kernel
theorem dX7_image_40 : decode cX7_image 40 = .ok (.bipush 36, 2) := by decide +kernel
theorem dX7_image_42 : decode cX7_image 42 = .ok (.if_icmp .ge 21, 3) := by decide +kernel
theorem dX7_image_45 : decode cX7_image 45 = .ok (.aload_n 0, 1) := by decide +kernel
theorem dX7_image_46 : decode cX7_image 46 = .ok (.getfield 35, 3) := by decide +kernel
theorem dX7_image_49 : decode cX7_image 49 = .ok (.iload_n 1, 1) := by decide +kernel
theorem dX7_image_50 : decode cX7_image 50 = .ok (.aload_n 0, 1) := by decide +kernel
theorem dX7_image_51 : decode cX7_image 51 = .ok (.getfield 23, 3) := by decide +kernel
theorem dX7_image_54 : decode cX7_image 54 = .ok (.iload_n 1, 1) := by decide +kernel
theorem dX7_image_55 : decode cX7_image 55 = .ok (.iaload, 1) := by decide +kernel
theorem dX7_image_56 : decode cX7_image 56 = .ok (.iastore, 1) := by decide +kernel
theorem dX7_image_57 : decode cX7_image 57 = .ok (.iinc 1 1, 3) := by decide +kernel
theorem dX7_image_60 : decode cX7_image 60 = .ok (.goto (-21), 3) := by decide +kernel
theorem dX7_image_63 : decode cX7_image 63 = .ok (.aload_n 0, 1) := by decide +kernel
theorem dX7_image_64 : decode cX7_image 64 = .ok (.getfield 72, 3) := by decide +kernel
theorem dX7_image_67 : decode cX7_image 67 = .ok (.ireturn, 1) := by decide +kernel
theorem dX7_back_0 : decode cX7_back 0 = .ok (.aload_n 0, 1) := by decide +kernel
theorem dX7_back_1 : decode cX7_back 1 = .ok (.getfield 292, 3) := by decide +kernel
theorem dX7_back_4 : decode cX7_back 4 = .ok (.ifCond .ne 6, 3) := by decide +kernel
theorem dX7_back_7 : decode cX7_back 7 = .ok (.bipush (-3), 2) := by decide +kernel
theorem dX7_back_9 : decode cX7_back 9 = .ok (.ireturn, 1) := by decide +kernel
theorem dX7_back_10 : decode cX7_back 10 = .ok (.aload_n 0, 1) := by decide +kernel
theorem dX7_back_11 : decode cX7_back 11 = .ok (.aload_n 0, 1) := by decide +kernel
theorem dX7_back_12 : decode cX7_back 12 = .ok (.getfield 296, 3) := by decide +kernel
theorem dX7_back_15 : decode cX7_back 15 = .ok (.putfield 72, 3) := by decide +kernel
theorem dX7_back_18 : decode cX7_back 18 = .ok (.aload_n 0, 1) := by decide +kernel
theorem dX7_back_19 : decode cX7_back 19 = .ok (.aload_n 0, 1) := by decide +kernel
theorem dX7_back_20 : decode cX7_back 20 = .ok (.getfield 299, 3) := by decide +kernel
theorem dX7_back_23 : decode cX7_back 23 = .ok (.putfield 7, 3) := by decide +kernel
theorem dX7_back_26 : decode cX7_back 26 = .ok (.aload_n 0, 1) := by decide +kernel
theorem dX7_back_27 : decode cX7_back 27 = .ok (.aload_n 0, 1) := by decide +kernel
theorem dX7_back_28 : decode cX7_back 28 = .ok (.getfield 302, 3) := by decide +kernel
theorem dX7_back_31 : decode cX7_back 31 = .ok (.putfield 13, 3) := by decide +kernel
theorem dX7_back_34 : decode cX7_back 34 = .ok (.aload_n 0, 1) := by decide +kernel
theorem dX7_back_35 : decode cX7_back 35 = .ok (.aload_n 0, 1) := by decide +kernel
theorem dX7_back_36 : decode cX7_back 36 = .ok (.getfield 305, 3) := by decide +kernel
theorem dX7_back_39 : decode cX7_back 39 = .ok (.putfield 83, 3) := by decide +kernel
theorem dX7_back_42 : decode cX7_back 42 = .ok (.iconst 0, 1) := by decide +kernel
theorem dX7_back_43 : decode cX7_back 43 = .ok (.istore_n 1, 1) := by decide +kernel
theorem dX7_back_44 : decode cX7_back 44 = .ok (.iload_n 1, 1) := by decide +kernel
theorem dX7_back_45 : decode cX7_back 45 = .ok (.bipush 36, 2) := by decide +kernel
theorem dX7_back_47 : decode cX7_back 47 = .ok (.if_icmp .ge 21, 3) := by decide +kernel
theorem dX7_back_50 : decode cX7_back 50 = .ok (.aload_n 0, 1) := by decide +kernel
theorem dX7_back_51 : decode cX7_back 51 = .ok (.getfield 23, 3) := by decide +kernel
theorem dX7_back_54 : decode cX7_back 54 = .ok (.iload_n 1, 1) := by decide +kernel
theorem dX7_back_55 : decode cX7_back 55 = .ok (.aload_n 0, 1) := by decide +kernel
theorem dX7_back_56 : decode cX7_back 56 = .ok (.getfield 35, 3) := by decide +kernel
theorem dX7_back_59 : decode cX7_back 59 = .ok (.iload_n 1, 1) := by decide +kernel
theorem dX7_back_60 : decode cX7_back 60 = .ok (.iaload, 1) := by decide +kernel
theorem dX7_back_61 : decode cX7_back 61 = .ok (.iastore, 1) := by decide +kernel
theorem dX7_back_62 : decode cX7_back 62 = .ok (.iinc 1 1, 3) := by decide +kernel
theorem dX7_back_65 : decode cX7_back 65 = .ok (.goto (-21), 3) := by decide +kernel
theorem dX7_back_68 : decode cX7_back 68 = .ok (.aload_n 0, 1) := by decide +kernel
theorem dX7_back_69 : decode cX7_back 69 = .ok (.getfield 72, 3) := by decide +kernel
theorem dX7_back_72 : decode cX7_back 72 = .ok (.ireturn, 1) := by decide +kernel
theorem dX7_sheet_0 : decode cX7_sheet 0 = .ok (.iload_n 1, 1) := by decide +kernel
theorem dX7_sheet_1 : decode cX7_sheet 1 = .ok (.iconst 0, 1) := by decide +kernel
theorem dX7_sheet_2 : decode cX7_sheet 2 = .ok (.iconst 3, 1) := by decide +kernel
theorem dX7_sheet_3 : decode cX7_sheet 3 = .ok (.invokestatic 75, 3) := by decide +kernel
theorem dX7_sheet_6 : decode cX7_sheet 6 = .ok (.ifCond .eq 23, 3) := by decide +kernel
theorem dX7_sheet_9 : decode cX7_sheet 9 = .ok (.iload_n 2, 1) := by decide +kernel
theorem dX7_sheet_10 : decode cX7_sheet 10 = .ok (.iconst (-1), 1) := by decide +kernel
theorem dX7_sheet_11 : decode cX7_sheet 11 = .ok (.iconst 2, 1) := by decide +kernel
theorem dX7_sheet_12 : decode cX7_sheet 12 = .ok (.invokestatic 75, 3) := by decide +kernel
theorem dX7_sheet_15 : decode cX7_sheet 15 = .ok (.ifCond .eq 14, 3) := by decide +kernel
theorem dX7_sheet_18 : decode cX7_sheet 18 = .ok (.iload_n 2, 1) := by decide +kernel
theorem dX7_sheet_19 : decode cX7_sheet 19 = .ok (.iconst (-1), 1) := by decide +kernel
theorem dX7_sheet_20 : decode cX7_sheet 20 = .ok (.if_icmp .eq 12, 3) := by decide +kernel
theorem dX7_sheet_23 : decode cX7_sheet 23 = .ok (.iload_n 3, 1) := by decide +kernel
theorem dX7_sheet_24 : decode cX7_sheet 24 = .ok (.bipush 40, 2) := by decide +kernel
theorem dX7_sheet_26 : decode cX7_sheet 26 = .ok (.if_icmp .le 6, 3) := by decide +kernel
theorem dX7_sheet_29 : decode cX7_sheet 29 = .ok (.bipush (-2), 2) := by decide +kernel
theorem dX7_sheet_31 : decode cX7_sheet 31 = .ok (.ireturn, 1) := by decide +kernel
theorem dX7_sheet_32 : decode cX7_sheet 32 = .ok (.iload_n 2, 1) := by decide +kernel
theorem dX7_sheet_33 : decode cX7_sheet 33 = .ok (.iconst (-1), 1) := by decide +kernel
theorem dX7_sheet_34 : decode cX7_sheet 34 = .ok (.if_icmp .eq 10, 3) := by decide +kernel
theorem dX7_sheet_37 : decode cX7_sheet 37 = .ok (.iload_n 3, 1) := by decide +kernel
theorem dX7_sheet_38 : decode cX7_sheet 38 = .ok (.ifCond .ge 6, 3) := by decide +kernel
theorem dX7_sheet_41 : decode cX7_sheet 41 = .ok (.bipush (-14), 2) := by decide +kernel
theorem dX7_sheet_43 : decode cX7_sheet 43 = .ok (.ireturn, 1) := by decide +kernel
theorem dX7_sheet_44 : decode cX7_sheet 44 = .ok (.aload_n 0, 1) := by decide +kernel
theorem dX7_sheet_45 : decode cX7_sheet 45 = .ok (.getfield 38, 3) := by decide +kernel
theorem dX7_sheet_48 : decode cX7_sheet 48 = .ok (.iload_n 1, 1) := by decide +kernel
theorem dX7_sheet_49 : decode cX7_sheet 49 = .ok (.iload_n 2, 1) := by decide +kernel
theorem dX7_sheet_50 : decode cX7_sheet 50 = .ok (.iastore, 1) := by decide +kernel
theorem dX7_sheet_51 : decode cX7_sheet 51 = .ok (.aload_n 0, 1) := by decide +kernel
theorem dX7_sheet_52 : decode cX7_sheet 52 = .ok (.getfield 41, 3) := by decide +kernel
theorem dX7_sheet_55 : decode cX7_sheet 55 = .ok (.iload_n 1, 1) := by decide +kernel
theorem dX7_sheet_56 : decode cX7_sheet 56 = .ok (.iload_n 2, 1) := by decide +kernel
theorem dX7_sheet_57 : decode cX7_sheet 57 = .ok (.iconst (-1), 1) := by decide +kernel
theorem dX7_sheet_58 : decode cX7_sheet 58 = .ok (.if_icmp .ne 7, 3) := by decide +kernel
theorem dX7_sheet_61 : decode cX7_sheet 61 = .ok (.iconst 0, 1) := by decide +kernel
theorem dX7_sheet_62 : decode cX7_sheet 62 = .ok (.goto 4, 3) := by decide +kernel
theorem dX7_sheet_65 : decode cX7_sheet 65 = .ok (.iload_n 3, 1) := by decide +kernel
theorem dX7_sheet_66 : decode cX7_sheet 66 = .ok (.iastore, 1) := by decide +kernel
theorem dX7_sheet_67 : decode cX7_sheet 67 = .ok (.iconst 0, 1) := by decide +kernel
theorem dX7_sheet_68 : decode cX7_sheet 68 = .ok (.istore 4, 2) := by decide +kernel
theorem dX7_sheet_70 : decode cX7_sheet 70 = .ok (.iload 4, 2) := by decide +kernel
theorem dX7_sheet_72 : decode cX7_sheet 72 = .ok (.bipush 40, 2) := by decide +kernel
theorem dX7_sheet_74 : decode cX7_sheet 74 = .ok (.if_icmp .ge 22, 3) := by decide +kernel
theorem dX7_sheet_77 : decode cX7_sheet 77 = .ok (.aload_n 0, 1) := by decide +kernel
theorem dX7_sheet_78 : decode cX7_sheet 78 = .ok (.getfield 44, 3) := by decide +kernel
theorem dX7_sheet_81 : decode cX7_sheet 81 = .ok (.bipush 40, 2) := by decide +kernel
theorem dX7_sheet_83 : decode cX7_sheet 83 = .ok (.iload_n 1, 1) := by decide +kernel
theorem dX7_sheet_84 : decode cX7_sheet 84 = .ok (.imul, 1) := by decide +kernel
theorem dX7_sheet_85 : decode cX7_sheet 85 = .ok (.iload 4, 2) := by decide +kernel
theorem dX7_sheet_87 : decode cX7_sheet 87 = .ok (.iadd, 1) := by decide +kernel
theorem dX7_sheet_88 : decode cX7_sheet 88 = .ok (.iconst 0, 1) := by decide +kernel
theorem dX7_sheet_89 : decode cX7_sheet 89 = .ok (.iastore, 1) := by decide +kernel
theorem dX7_sheet_90 : decode cX7_sheet 90 = .ok (.iinc 4 1, 3) := by decide +kernel
theorem dX7_sheet_93 : decode cX7_sheet 93 = .ok (.goto (-23), 3) := by decide +kernel
theorem dX7_sheet_96 : decode cX7_sheet 96 = .ok (.iconst 1, 1) := by decide +kernel
theorem dX7_sheet_97 : decode cX7_sheet 97 = .ok (.ireturn, 1) := by decide +kernel
theorem dX7_cell_0 : decode cX7_cell 0 = .ok (.iload_n 1, 1) := by decide +kernel
theorem dX7_cell_1 : decode cX7_cell 1 = .ok (.iconst 0, 1) := by decide +kernel
theorem dX7_cell_2 : decode cX7_cell 2 = .ok (.iconst 3, 1) := by decide +kernel
theorem dX7_cell_3 : decode cX7_cell 3 = .ok (.invokestatic 75, 3) := by decide +kernel
theorem dX7_cell_6 : decode cX7_cell 6 = .ok (.ifCond .ne 6, 3) := by decide +kernel
theorem dX7_cell_9 : decode cX7_cell 9 = .ok (.bipush (-2), 2) := by decide +kernel
theorem dX7_cell_11 : decode cX7_cell 11 = .ok (.ireturn, 1) := by decide +kernel
theorem dX7_cell_12 : decode cX7_cell 12 = .ok (.aload_n 0, 1) := by decide +kernel
theorem dX7_cell_13 : decode cX7_cell 13 = .ok (.getfield 38, 3) := by decide +kernel
theorem dX7_cell_16 : decode cX7_cell 16 = .ok (.iload_n 1, 1) := by decide +kernel
theorem dX7_cell_17 : decode cX7_cell 17 = .ok (.iaload, 1) := by decide +kernel
theorem dX7_cell_18 : decode cX7_cell 18 = .ok (.iconst (-1), 1) := by decide +kernel
theorem dX7_cell_19 : decode cX7_cell 19 = .ok (.if_icmp .ne 6, 3) := by decide +kernel
theorem dX7_cell_22 : decode cX7_cell 22 = .ok (.bipush (-11), 2) := by decide +kernel
theorem dX7_cell_24 : decode cX7_cell 24 = .ok (.ireturn, 1) := by decide +kernel
theorem dX7_cell_25 : decode cX7_cell 25 = .ok (.iload_n 2, 1) := by decide +kernel
theorem dX7_cell_26 : decode cX7_cell 26 = .ok (.iconst 0, 1) := by decide +kernel
theorem dX7_cell_27 : decode cX7_cell 27 = .ok (.aload_n 0, 1) := by decide +kernel
theorem dX7_cell_28 : decode cX7_cell 28 = .ok (.getfield 41, 3) := by decide +kernel
theorem dX7_cell_31 : decode cX7_cell 31 = .ok (.iload_n 1, 1) := by decide +kernel
theorem dX7_cell_32 : decode cX7_cell 32 = .ok (.iaload, 1) := by decide +kernel
theorem dX7_cell_33 : decode cX7_cell 33 = .ok (.iconst 1, 1) := by decide +kernel
theorem dX7_cell_34 : decode cX7_cell 34 = .ok (.isub, 1) := by decide +kernel
theorem dX7_cell_35 : decode cX7_cell 35 = .ok (.invokestatic 75, 3) := by decide +kernel
theorem dX7_cell_38 : decode cX7_cell 38 = .ok (.ifCond .ne 6, 3) := by decide +kernel
theorem dX7_cell_41 : decode cX7_cell 41 = .ok (.bipush (-12), 2) := by decide +kernel
theorem dX7_cell_43 : decode cX7_cell 43 = .ok (.ireturn, 1) := by decide +kernel
theorem dX7_cell_44 : decode cX7_cell 44 = .ok (.aload_n 0, 1) := by decide +kernel
theorem dX7_cell_45 : decode cX7_cell 45 = .ok (.getfield 44, 3) := by decide +kernel
theorem dX7_cell_48 : decode cX7_cell 48 = .ok (.bipush 40, 2) := by decide +kernel
theorem dX7_cell_50 : decode cX7_cell 50 = .ok (.iload_n 1, 1) := by decide +kernel
theorem dX7_cell_51 : decode cX7_cell 51 = .ok (.imul, 1) := by decide +kernel
theorem dX7_cell_52 : decode cX7_cell 52 = .ok (.iload_n 2, 1) := by decide +kernel
theorem dX7_cell_53 : decode cX7_cell 53 = .ok (.iadd, 1) := by decide +kernel
theorem dX7_cell_54 : decode cX7_cell 54 = .ok (.aload_n 0, 1) := by decide +kernel
theorem dX7_cell_55 : decode cX7_cell 55 = .ok (.getfield 38, 3) := by decide +kernel
theorem dX7_cell_58 : decode cX7_cell 58 = .ok (.iload_n 1, 1) := by decide +kernel
theorem dX7_cell_59 : decode cX7_cell 59 = .ok (.iaload, 1) := by decide +kernel
theorem dX7_cell_60 : decode cX7_cell 60 = .ok (.ifCond .ne 8, 3) := by decide +kernel
theorem dX7_cell_63 : decode cX7_cell 63 = .ok (.iload_n 3, 1) := by decide +kernel
theorem dX7_cell_64 : decode cX7_cell 64 = .ok (.i2b, 1) := by decide +kernel
theorem dX7_cell_65 : decode cX7_cell 65 = .ok (.goto 19, 3) := by decide +kernel
theorem dX7_cell_68 : decode cX7_cell 68 = .ok (.aload_n 0, 1) := by decide +kernel
theorem dX7_cell_69 : decode cX7_cell 69 = .ok (.getfield 38, 3) := by decide +kernel
theorem dX7_cell_72 : decode cX7_cell 72 = .ok (.iload_n 1, 1) := by decide +kernel
theorem dX7_cell_73 : decode cX7_cell 73 = .ok (.iaload, 1) := by decide +kernel
theorem dX7_cell_74 : decode cX7_cell 74 = .ok (.iconst 1, 1) := by decide +kernel
theorem dX7_cell_75 : decode cX7_cell 75 = .ok (.if_icmp .ne 8, 3) := by decide +kernel
theorem dX7_cell_78 : decode cX7_cell 78 = .ok (.iload_n 3, 1) := by decide +kernel
theorem dX7_cell_79 : decode cX7_cell 79 = .ok (.i2s, 1) := by decide +kernel
theorem dX7_cell_80 : decode cX7_cell 80 = .ok (.goto 4, 3) := by decide +kernel
theorem dX7_cell_83 : decode cX7_cell 83 = .ok (.iload_n 3, 1) := by decide +kernel
theorem dX7_cell_84 : decode cX7_cell 84 = .ok (.iastore, 1) := by decide +kernel
theorem dX7_cell_85 : decode cX7_cell 85 = .ok (.iconst 1, 1) := by decide +kernel
theorem dX7_cell_86 : decode cX7_cell 86 = .ok (.ireturn, 1) := by decide +kernel
theorem dX7_copy_0 : decode cX7_copy 0 = .ok (.iload_n 1, 1) := by decide +kernel
theorem dX7_copy_1 : decode cX7_copy 1 = .ok (.iconst 0, 1) := by decide +kernel
theorem dX7_copy_2 : decode cX7_copy 2 = .ok (.iconst 3, 1) := by decide +kernel
theorem dX7_copy_3 : decode cX7_copy 3 = .ok (.invokestatic 75, 3) := by decide +kernel
theorem dX7_copy_6 : decode cX7_copy 6 = .ok (.ifCond .eq 12, 3) := by decide +kernel
theorem dX7_copy_9 : decode cX7_copy 9 = .ok (.iload_n 3, 1) := by decide +kernel
theorem dX7_copy_10 : decode cX7_copy 10 = .ok (.iconst 0, 1) := by decide +kernel
theorem dX7_copy_11 : decode cX7_copy 11 = .ok (.iconst 3, 1) := by decide +kernel
theorem dX7_copy_12 : decode cX7_copy 12 = .ok (.invokestatic 75, 3) := by decide +kernel
theorem dX7_copy_15 : decode cX7_copy 15 = .ok (.ifCond .ne 6, 3) := by decide +kernel
theorem dX7_copy_18 : decode cX7_copy 18 = .ok (.bipush (-2), 2) := by decide +kernel
theorem dX7_copy_20 : decode cX7_copy 20 = .ok (.ireturn, 1) := by decide +kernel
theorem dX7_copy_21 : decode cX7_copy 21 = .ok (.aload_n 0, 1) := by decide +kernel
theorem dX7_copy_22 : decode cX7_copy 22 = .ok (.getfield 38, 3) := by decide +kernel
theorem dX7_copy_25 : decode cX7_copy 25 = .ok (.iload_n 1, 1) := by decide +kernel
theorem dX7_copy_26 : decode cX7_copy 26 = .ok (.iaload, 1) := by decide +kernel
theorem dX7_copy_27 : decode cX7_copy 27 = .ok (.iconst (-1), 1) := by decide +kernel
theorem dX7_copy_28 : decode cX7_copy 28 = .ok (.if_icmp .eq 13, 3) := by decide +kernel
theorem dX7_copy_31 : decode cX7_copy 31 = .ok (.aload_n 0, 1) := by decide +kernel
theorem dX7_copy_32 : decode cX7_copy 32 = .ok (.getfield 38, 3) := by decide +kernel
theorem dX7_copy_35 : decode cX7_copy 35 = .ok (.iload_n 3, 1) := by decide +kernel
theorem dX7_copy_36 : decode cX7_copy 36 = .ok (.iaload, 1) := by decide +kernel
theorem dX7_copy_37 : decode cX7_copy 37 = .ok (.iconst (-1), 1) := by decide +kernel
theorem dX7_copy_38 : decode cX7_copy 38 = .ok (.if_icmp .ne 6, 3) := by decide +kernel
theorem dX7_copy_41 : decode cX7_copy 41 = .ok (.bipush (-11), 2) := by decide +kernel
theorem dX7_copy_43 : decode cX7_copy 43 = .ok (.ireturn, 1) := by decide +kernel
theorem dX7_copy_44 : decode cX7_copy 44 = .ok (.aload_n 0, 1) := by decide +kernel
theorem dX7_copy_45 : decode cX7_copy 45 = .ok (.getfield 38, 3) := by decide +kernel
theorem dX7_copy_48 : decode cX7_copy 48 = .ok (.iload_n 1, 1) := by decide +kernel
theorem dX7_copy_49 : decode cX7_copy 49 = .ok (.iaload, 1) := by decide +kernel
theorem dX7_copy_50 : decode cX7_copy 50 = .ok (.aload_n 0, 1) := by decide +kernel
theorem dX7_copy_51 : decode cX7_copy 51 = .ok (.getfield 38, 3) := by decide +kernel
theorem dX7_copy_54 : decode cX7_copy 54 = .ok (.iload_n 3, 1) := by decide +kernel
theorem dX7_copy_55 : decode cX7_copy 55 = .ok (.iaload, 1) := by decide +kernel
theorem dX7_copy_56 : decode cX7_copy 56 = .ok (.if_icmp .eq 6, 3) := by decide +kernel
theorem dX7_copy_59 : decode cX7_copy 59 = .ok (.bipush (-13), 2) := by decide +kernel
theorem dX7_copy_61 : decode cX7_copy 61 = .ok (.ireturn, 1) := by decide +kernel
theorem dX7_copy_62 : decode cX7_copy 62 = .ok (.iload 5, 2) := by decide +kernel
theorem dX7_copy_64 : decode cX7_copy 64 = .ok (.ifCond .lt 60, 3) := by decide +kernel
theorem dX7_copy_67 : decode cX7_copy 67 = .ok (.iload_n 2, 1) := by decide +kernel
theorem dX7_copy_68 : decode cX7_copy 68 = .ok (.ifCond .lt 56, 3) := by decide +kernel
theorem dX7_copy_71 : decode cX7_copy 71 = .ok (.iload 4, 2) := by decide +kernel
theorem dX7_copy_73 : decode cX7_copy 73 = .ok (.ifCond .lt 51, 3) := by decide +kernel
theorem dX7_copy_76 : decode cX7_copy 76 = .ok (.iload_n 2, 1) := by decide +kernel
theorem dX7_copy_77 : decode cX7_copy 77 = .ok (.aload_n 0, 1) := by decide +kernel
theorem dX7_copy_78 : decode cX7_copy 78 = .ok (.getfield 41, 3) := by decide +kernel
theorem dX7_copy_81 : decode cX7_copy 81 = .ok (.iload_n 1, 1) := by decide +kernel
theorem dX7_copy_82 : decode cX7_copy 82 = .ok (.iaload, 1) := by decide +kernel
theorem dX7_copy_83 : decode cX7_copy 83 = .ok (.if_icmp .gt 41, 3) := by decide +kernel
theorem dX7_copy_86 : decode cX7_copy 86 = .ok (.iload 4, 2) := by decide +kernel
theorem dX7_copy_88 : decode cX7_copy 88 = .ok (.aload_n 0, 1) := by decide +kernel
theorem dX7_copy_89 : decode cX7_copy 89 = .ok (.getfield 41, 3) := by decide +kernel
theorem dX7_copy_92 : decode cX7_copy 92 = .ok (.iload_n 3, 1) := by decide +kernel
theorem dX7_copy_93 : decode cX7_copy 93 = .ok (.iaload, 1) := by decide +kernel
theorem dX7_copy_94 : decode cX7_copy 94 = .ok (.if_icmp .gt 30, 3) := by decide +kernel
theorem dX7_copy_97 : decode cX7_copy 97 = .ok (.iload 5, 2) := by decide +kernel
theorem dX7_copy_99 : decode cX7_copy 99 = .ok (.aload_n 0, 1) := by decide +kernel
theorem dX7_copy_100 : decode cX7_copy 100 = .ok (.getfield 41, 3) := by decide +kernel
theorem dX7_copy_103 : decode cX7_copy 103 = .ok (.iload_n 1, 1) := by decide +kernel
theorem dX7_copy_104 : decode cX7_copy 104 = .ok (.iaload, 1) := by decide +kernel
theorem dX7_copy_105 : decode cX7_copy 105 = .ok (.iload_n 2, 1) := by decide +kernel
theorem dX7_copy_106 : decode cX7_copy 106 = .ok (.isub, 1) := by decide +kernel
theorem dX7_copy_107 : decode cX7_copy 107 = .ok (.if_icmp .gt 17, 3) := by decide +kernel
theorem dX7_copy_110 : decode cX7_copy 110 = .ok (.iload 5, 2) := by decide +kernel
theorem dX7_copy_112 : decode cX7_copy 112 = .ok (.aload_n 0, 1) := by decide +kernel
theorem dX7_copy_113 : decode cX7_copy 113 = .ok (.getfield 41, 3) := by decide +kernel
theorem dX7_copy_116 : decode cX7_copy 116 = .ok (.iload_n 3, 1) := by decide +kernel
theorem dX7_copy_117 : decode cX7_copy 117 = .ok (.iaload, 1) := by decide +kernel
theorem dX7_copy_118 : decode cX7_copy 118 = .ok (.iload 4, 2) := by decide +kernel
theorem dX7_copy_120 : decode cX7_copy 120 = .ok (.isub, 1) := by decide +kernel
theorem dX7_copy_121 : decode cX7_copy 121 = .ok (.if_icmp .le 6, 3) := by decide +kernel
theorem dX7_copy_124 : decode cX7_copy 124 = .ok (.bipush (-12), 2) := by decide +kernel
theorem dX7_copy_126 : decode cX7_copy 126 = .ok (.ireturn, 1) := by decide +kernel
theorem dX7_copy_127 : decode cX7_copy 127 = .ok (.bipush 40, 2) := by decide +kernel
theorem dX7_copy_129 : decode cX7_copy 129 = .ok (.iload_n 1, 1) := by decide +kernel
theorem dX7_copy_130 : decode cX7_copy 130 = .ok (.imul, 1) := by decide +kernel
theorem dX7_copy_131 : decode cX7_copy 131 = .ok (.iload_n 2, 1) := by decide +kernel
theorem dX7_copy_132 : decode cX7_copy 132 = .ok (.iadd, 1) := by decide +kernel
theorem dX7_copy_133 : decode cX7_copy 133 = .ok (.istore 6, 2) := by decide +kernel
theorem dX7_copy_135 : decode cX7_copy 135 = .ok (.bipush 40, 2) := by decide +kernel
theorem dX7_copy_137 : decode cX7_copy 137 = .ok (.iload_n 3, 1) := by decide +kernel
theorem dX7_copy_138 : decode cX7_copy 138 = .ok (.imul, 1) := by decide +kernel
theorem dX7_copy_139 : decode cX7_copy 139 = .ok (.iload 4, 2) := by decide +kernel
theorem dX7_copy_141 : decode cX7_copy 141 = .ok (.iadd, 1) := by decide +kernel
theorem dX7_copy_142 : decode cX7_copy 142 = .ok (.istore 7, 2) := by decide +kernel
theorem dX7_copy_144 : decode cX7_copy 144 = .ok (.iconst 0, 1) := by decide +kernel
theorem dX7_copy_145 : decode cX7_copy 145 = .ok (.istore 8, 2) := by decide +kernel
theorem dX7_copy_147 : decode cX7_copy 147 = .ok (.iload 8, 2) := by decide +kernel
theorem dX7_copy_149 : decode cX7_copy 149 = .ok (.iload 5, 2) := by decide +kernel
theorem dX7_copy_151 : decode cX7_copy 151 = .ok (.if_icmp .ge 50, 3) := by decide +kernel
theorem dX7_copy_154 : decode cX7_copy 154 = .ok (.iload 6, 2) := by decide +kernel
theorem dX7_copy_156 : decode cX7_copy 156 = .ok (.iload 7, 2) := by decide +kernel
theorem dX7_copy_158 : decode cX7_copy 158 = .ok (.if_icmp .ge 13, 3) := by decide +kernel
theorem dX7_copy_161 : decode cX7_copy 161 = .ok (.iload 5, 2) := by decide +kernel
theorem dX7_copy_163 : decode cX7_copy 163 = .ok (.iconst 1, 1) := by decide +kernel
theorem dX7_copy_164 : decode cX7_copy 164 = .ok (.isub, 1) := by decide +kernel
theorem dX7_copy_165 : decode cX7_copy 165 = .ok (.iload 8, 2) := by decide +kernel
theorem dX7_copy_167 : decode cX7_copy 167 = .ok (.isub, 1) := by decide +kernel
theorem dX7_copy_168 : decode cX7_copy 168 = .ok (.goto 5, 3) := by decide +kernel
theorem dX7_copy_171 : decode cX7_copy 171 = .ok (.iload 8, 2) := by decide +kernel
theorem dX7_copy_173 : decode cX7_copy 173 = .ok (.istore 9, 2) := by decide +kernel
theorem dX7_copy_175 : decode cX7_copy 175 = .ok (.aload_n 0, 1) := by decide +kernel
theorem dX7_copy_176 : decode cX7_copy 176 = .ok (.getfield 44, 3) := by decide +kernel
theorem dX7_copy_179 : decode cX7_copy 179 = .ok (.iload 7, 2) := by decide +kernel
theorem dX7_copy_181 : decode cX7_copy 181 = .ok (.iload 9, 2) := by decide +kernel
theorem dX7_copy_183 : decode cX7_copy 183 = .ok (.iadd, 1) := by decide +kernel
theorem dX7_copy_184 : decode cX7_copy 184 = .ok (.aload_n 0, 1) := by decide +kernel
theorem dX7_copy_185 : decode cX7_copy 185 = .ok (.getfield 44, 3) := by decide +kernel
theorem dX7_copy_188 : decode cX7_copy 188 = .ok (.iload 6, 2) := by decide +kernel
theorem dX7_copy_190 : decode cX7_copy 190 = .ok (.iload 9, 2) := by decide +kernel
theorem dX7_copy_192 : decode cX7_copy 192 = .ok (.iadd, 1) := by decide +kernel
theorem dX7_copy_193 : decode cX7_copy 193 = .ok (.iaload, 1) := by decide +kernel
theorem dX7_copy_194 : decode cX7_copy 194 = .ok (.iastore, 1) := by decide +kernel
theorem dX7_copy_195 : decode cX7_copy 195 = .ok (.iinc 8 1, 3) := by decide +kernel
theorem dX7_copy_198 : decode cX7_copy 198 = .ok (.goto (-51), 3) := by decide +kernel
theorem dX7_copy_201 : decode cX7_copy 201 = .ok (.iload 5, 2) := by decide +kernel
theorem dX7_copy_203 : decode cX7_copy 203 = .ok (.ireturn, 1) := by decide +kernel
theorem dX7_clerksBy_0 : decode cX7_clerksBy 0 = .ok (.iload_n 1, 1) := by decide +kernel
theorem dX7_clerksBy_1 : decode cX7_clerksBy 1 = .ok (.iconst 0, 1) := by decide +kernel
theorem dX7_clerksBy_2 : decode cX7_clerksBy 2 = .ok (.iconst 3, 1) := by decide +kernel
theorem dX7_clerksBy_3 : decode cX7_clerksBy 3 = .ok (.invokestatic 75, 3) := by decide +kernel
theorem dX7_clerksBy_6 : decode cX7_clerksBy 6 = .ok (.ifCond .eq 22, 3) := by decide +kernel
theorem dX7_clerksBy_9 : decode cX7_clerksBy 9 = .ok (.iload_n 2, 1) := by decide +kernel
theorem dX7_clerksBy_10 : decode cX7_clerksBy 10 = .ok (.iconst 0, 1) := by decide +kernel
theorem dX7_clerksBy_11 : decode cX7_clerksBy 11 = .ok (.iconst 2, 1) := by decide +kernel
theorem dX7_clerksBy_12 : decode cX7_clerksBy 12 = .ok (.invokestatic 75, 3) := by decide +kernel
theorem dX7_clerksBy_15 : decode cX7_clerksBy 15 = .ok (.ifCond .eq 13, 3) := by decide +kernel
theorem dX7_clerksBy_18 : decode cX7_clerksBy 18 = .ok (.iload 4, 2) := by decide +kernel
theorem dX7_clerksBy_20 : decode cX7_clerksBy 20 = .ok (.iconst 0, 1) := by decide +kernel
theorem dX7_clerksBy_21 : decode cX7_clerksBy 21 = .ok (.iconst 5, 1) := by decide +kernel
theorem dX7_clerksBy_22 : decode cX7_clerksBy 22 = .ok (.invokestatic 75, 3) := by decide +kernel
theorem dX7_clerksBy_25 : decode cX7_clerksBy 25 = .ok (.ifCond .ne 6, 3) := by decide +kernel
theorem dX7_clerksBy_28 : decode cX7_clerksBy 28 = .ok (.bipush (-2), 2) := by decide +kernel
theorem dX7_clerksBy_30 : decode cX7_clerksBy 30 = .ok (.ireturn, 1) := by decide +kernel
theorem dX7_clerksBy_31 : decode cX7_clerksBy 31 = .ok (.aload_n 0, 1) := by decide +kernel
theorem dX7_clerksBy_32 : decode cX7_clerksBy 32 = .ok (.getfield 38, 3) := by decide +kernel
theorem dX7_clerksBy_35 : decode cX7_clerksBy 35 = .ok (.iload_n 1, 1) := by decide +kernel
theorem dX7_clerksBy_36 : decode cX7_clerksBy 36 = .ok (.iaload, 1) := by decide +kernel
theorem dX7_clerksBy_37 : decode cX7_clerksBy 37 = .ok (.iconst (-1), 1) := by decide +kernel
theorem dX7_clerksBy_38 : decode cX7_clerksBy 38 = .ok (.if_icmp .ne 6, 3) := by decide +kernel
theorem dX7_clerksBy_41 : decode cX7_clerksBy 41 = .ok (.bipush (-11), 2) := by decide +kernel
theorem dX7_clerksBy_43 : decode cX7_clerksBy 43 = .ok (.ireturn, 1) := by decide +kernel
theorem dX7_clerksBy_44 : decode cX7_clerksBy 44 = .ok (.aload_n 0, 1) := by decide +kernel
theorem dX7_clerksBy_45 : decode cX7_clerksBy 45 = .ok (.getfield 38, 3) := by decide +kernel
theorem dX7_clerksBy_48 : decode cX7_clerksBy 48 = .ok (.iload_n 1, 1) := by decide +kernel
theorem dX7_clerksBy_49 : decode cX7_clerksBy 49 = .ok (.iaload, 1) := by decide +kernel
theorem dX7_clerksBy_50 : decode cX7_clerksBy 50 = .ok (.iload_n 2, 1) := by decide +kernel
theorem dX7_clerksBy_51 : decode cX7_clerksBy 51 = .ok (.if_icmp .eq 6, 3) := by decide +kernel
theorem dX7_clerksBy_54 : decode cX7_clerksBy 54 = .ok (.bipush (-13), 2) := by decide +kernel
theorem dX7_clerksBy_56 : decode cX7_clerksBy 56 = .ok (.ireturn, 1) := by decide +kernel
theorem dX7_clerksBy_57 : decode cX7_clerksBy 57 = .ok (.iconst 0, 1) := by decide +kernel
theorem dX7_clerksBy_58 : decode cX7_clerksBy 58 = .ok (.istore 5, 2) := by decide +kernel
theorem dX7_clerksBy_60 : decode cX7_clerksBy 60 = .ok (.iconst 0, 1) := by decide +kernel
theorem dX7_clerksBy_61 : decode cX7_clerksBy 61 = .ok (.istore 6, 2) := by decide +kernel
theorem dX7_clerksBy_63 : decode cX7_clerksBy 63 = .ok (.iload 6, 2) := by decide +kernel
theorem dX7_clerksBy_65 : decode cX7_clerksBy 65 = .ok (.iload 4, 2) := by decide +kernel
theorem dX7_clerksBy_67 : decode cX7_clerksBy 67 = .ok (.if_icmp .ge 85, 3) := by decide +kernel
theorem dX7_clerksBy_70 : decode cX7_clerksBy 70 = .ok (.iload_n 3, 1) := by decide +kernel
theorem dX7_clerksBy_71 : decode cX7_clerksBy 71 = .ok (.iconst 2, 1) := by decide +kernel
theorem dX7_clerksBy_72 : decode cX7_clerksBy 72 = .ok (.iload 6, 2) := by decide +kernel
theorem dX7_clerksBy_74 : decode cX7_clerksBy 74 = .ok (.imul, 1) := by decide +kernel
theorem dX7_clerksBy_75 : decode cX7_clerksBy 75 = .ok (.iadd, 1) := by decide +kernel
theorem dX7_clerksBy_76 : decode cX7_clerksBy 76 = .ok (.istore 7, 2) := by decide +kernel
theorem dX7_clerksBy_78 : decode cX7_clerksBy 78 = .ok (.iload_n 3, 1) := by decide +kernel
theorem dX7_clerksBy_79 : decode cX7_clerksBy 79 = .ok (.ifCond .lt 22, 3) := by decide +kernel
theorem dX7_clerksBy_82 : decode cX7_clerksBy 82 = .ok (.iload 7, 2) := by decide +kernel
theorem dX7_clerksBy_84 : decode cX7_clerksBy 84 = .ok (.iload_n 3, 1) := by decide +kernel
theorem dX7_clerksBy_85 : decode cX7_clerksBy 85 = .ok (.if_icmp .lt 16, 3) := by decide +kernel
theorem dX7_clerksBy_88 : decode cX7_clerksBy 88 = .ok (.iload 7, 2) := by decide +kernel
theorem dX7_clerksBy_90 : decode cX7_clerksBy 90 = .ok (.aload_n 0, 1) := by decide +kernel
theorem dX7_clerksBy_91 : decode cX7_clerksBy 91 = .ok (.getfield 41, 3) := by decide +kernel
theorem dX7_clerksBy_94 : decode cX7_clerksBy 94 = .ok (.iload_n 1, 1) := by decide +kernel
theorem dX7_clerksBy_95 : decode cX7_clerksBy 95 = .ok (.iaload, 1) := by decide +kernel
theorem dX7_clerksBy_96 : decode cX7_clerksBy 96 = .ok (.iconst 2, 1) := by decide +kernel
theorem dX7_clerksBy_97 : decode cX7_clerksBy 97 = .ok (.isub, 1) := by decide +kernel
theorem dX7_clerksBy_98 : decode cX7_clerksBy 98 = .ok (.if_icmp .le 6, 3) := by decide +kernel
theorem dX7_clerksBy_101 : decode cX7_clerksBy 101 = .ok (.bipush (-12), 2) := by decide +kernel
theorem dX7_clerksBy_103 : decode cX7_clerksBy 103 = .ok (.ireturn, 1) := by decide +kernel
theorem dX7_clerksBy_104 : decode cX7_clerksBy 104 = .ok (.bipush 40, 2) := by decide +kernel
theorem dX7_clerksBy_106 : decode cX7_clerksBy 106 = .ok (.iload_n 1, 1) := by decide +kernel
theorem dX7_clerksBy_107 : decode cX7_clerksBy 107 = .ok (.imul, 1) := by decide +kernel
theorem dX7_clerksBy_108 : decode cX7_clerksBy 108 = .ok (.iload 7, 2) := by decide +kernel
theorem dX7_clerksBy_110 : decode cX7_clerksBy 110 = .ok (.iadd, 1) := by decide +kernel
theorem dX7_clerksBy_111 : decode cX7_clerksBy 111 = .ok (.istore 8, 2) := by decide +kernel
theorem dX7_clerksBy_113 : decode cX7_clerksBy 113 = .ok (.iload 5, 2) := by decide +kernel
theorem dX7_clerksBy_115 : decode cX7_clerksBy 115 = .ok (.aload_n 0, 1) := by decide +kernel
theorem dX7_clerksBy_116 : decode cX7_clerksBy 116 = .ok (.aload_n 0, 1) := by decide +kernel
theorem dX7_clerksBy_117 : decode cX7_clerksBy 117 = .ok (.getfield 44, 3) := by decide +kernel
theorem dX7_clerksBy_120 : decode cX7_clerksBy 120 = .ok (.iload 8, 2) := by decide +kernel
theorem dX7_clerksBy_122 : decode cX7_clerksBy 122 = .ok (.iaload, 1) := by decide +kernel
theorem dX7_clerksBy_123 : decode cX7_clerksBy 123 = .ok (.aload_n 0, 1) := by decide +kernel
theorem dX7_clerksBy_124 : decode cX7_clerksBy 124 = .ok (.getfield 44, 3) := by decide +kernel
theorem dX7_clerksBy_127 : decode cX7_clerksBy 127 = .ok (.iload 8, 2) := by decide +kernel
theorem dX7_clerksBy_129 : decode cX7_clerksBy 129 = .ok (.iconst 1, 1) := by decide +kernel
theorem dX7_clerksBy_130 : decode cX7_clerksBy 130 = .ok (.iadd, 1) := by decide +kernel
theorem dX7_clerksBy_131 : decode cX7_clerksBy 131 = .ok (.iaload, 1) := by decide +kernel
theorem dX7_clerksBy_132 : decode cX7_clerksBy 132 = .ok (.invokevirtual 308, 3) := by decide +kernel
theorem dX7_clerksBy_135 : decode cX7_clerksBy 135 = .ok (.ifCond .lt 7, 3) := by decide +kernel
theorem dX7_clerksBy_138 : decode cX7_clerksBy 138 = .ok (.iconst 1, 1) := by decide +kernel
theorem dX7_clerksBy_139 : decode cX7_clerksBy 139 = .ok (.goto 4, 3) := by decide +kernel
theorem dX7_clerksBy_142 : decode cX7_clerksBy 142 = .ok (.iconst 0, 1) := by decide +kernel
theorem dX7_clerksBy_143 : decode cX7_clerksBy 143 = .ok (.iadd, 1) := by decide +kernel
theorem dX7_clerksBy_144 : decode cX7_clerksBy 144 = .ok (.istore 5, 2) := by decide +kernel
theorem dX7_clerksBy_146 : decode cX7_clerksBy 146 = .ok (.iinc 6 1, 3) := by decide +kernel
theorem dX7_clerksBy_149 : decode cX7_clerksBy 149 = .ok (.goto (-86), 3) := by decide +kernel
theorem dX7_clerksBy_152 : decode cX7_clerksBy 152 = .ok (.iload 5, 2) := by decide +kernel
theorem dX7_clerksBy_154 : decode cX7_clerksBy 154 = .ok (.ireturn, 1) := by decide +kernel
theorem dX7_isUnder_0 : decode cX7_isUnder 0 = .ok (.iload_n 1, 1) := by decide +kernel
theorem dX7_isUnder_1 : decode cX7_isUnder 1 = .ok (.ifCond .eq 28, 3) := by decide +kernel
theorem dX7_isUnder_4 : decode cX7_isUnder 4 = .ok (.iload_n 0, 1) := by decide +kernel
theorem dX7_isUnder_5 : decode cX7_isUnder 5 = .ok (.iload_n 1, 1) := by decide +kernel
theorem dX7_isUnder_6 : decode cX7_isUnder 6 = .ok (.if_icmp .eq 23, 3) := by decide +kernel
theorem dX7_isUnder_9 : decode cX7_isUnder 9 = .ok (.iload_n 1, 1) := by decide +kernel
theorem dX7_isUnder_10 : decode cX7_isUnder 10 = .ok (.iconst 1, 1) := by decide +kernel
theorem dX7_isUnder_11 : decode cX7_isUnder 11 = .ok (.if_icmp .ne 8, 3) := by decide +kernel
theorem dX7_isUnder_14 : decode cX7_isUnder 14 = .ok (.iload_n 0, 1) := by decide +kernel
theorem dX7_isUnder_15 : decode cX7_isUnder 15 = .ok (.iconst 3, 1) := by decide +kernel
theorem dX7_isUnder_16 : decode cX7_isUnder 16 = .ok (.if_icmp .eq 13, 3) := by decide +kernel
theorem dX7_isUnder_19 : decode cX7_isUnder 19 = .ok (.iload_n 1, 1) := by decide +kernel
theorem dX7_isUnder_20 : decode cX7_isUnder 20 = .ok (.iconst 2, 1) := by decide +kernel
theorem dX7_isUnder_21 : decode cX7_isUnder 21 = .ok (.if_icmp .ne 12, 3) := by decide +kernel
theorem dX7_isUnder_24 : decode cX7_isUnder 24 = .ok (.iload_n 0, 1) := by decide +kernel
theorem dX7_isUnder_25 : decode cX7_isUnder 25 = .ok (.iconst 4, 1) := by decide +kernel
theorem dX7_isUnder_26 : decode cX7_isUnder 26 = .ok (.if_icmp .ne 7, 3) := by decide +kernel
theorem dX7_isUnder_29 : decode cX7_isUnder 29 = .ok (.iconst 1, 1) := by decide +kernel
theorem dX7_isUnder_30 : decode cX7_isUnder 30 = .ok (.goto 4, 3) := by decide +kernel
theorem dX7_isUnder_33 : decode cX7_isUnder 33 = .ok (.iconst 0, 1) := by decide +kernel
theorem dX7_isUnder_34 : decode cX7_isUnder 34 = .ok (.ireturn, 1) := by decide +kernel
theorem dX7_taken_0 : decode cX7_taken 0 = .ok (.iload_n 2, 1) := by decide +kernel
theorem dX7_taken_1 : decode cX7_taken 1 = .ok (.iconst 0, 1) := by decide +kernel
theorem dX7_taken_2 : decode cX7_taken 2 = .ok (.bipush 6, 2) := by decide +kernel
theorem dX7_taken_4 : decode cX7_taken 4 = .ok (.invokestatic 75, 3) := by decide +kernel
theorem dX7_taken_7 : decode cX7_taken 7 = .ok (.ifCond .ne 6, 3) := by decide +kernel
theorem dX7_taken_10 : decode cX7_taken 10 = .ok (.bipush (-2), 2) := by decide +kernel
theorem dX7_taken_12 : decode cX7_taken 12 = .ok (.ireturn, 1) := by decide +kernel
theorem dX7_taken_13 : decode cX7_taken 13 = .ok (.iload_n 1, 1) := by decide +kernel
theorem dX7_taken_14 : decode cX7_taken 14 = .ok (.iconst 0, 1) := by decide +kernel
theorem dX7_taken_15 : decode cX7_taken 15 = .ok (.bipush 10, 2) := by decide +kernel
theorem dX7_taken_17 : decode cX7_taken 17 = .ok (.invokestatic 75, 3) := by decide +kernel
theorem dX7_taken_20 : decode cX7_taken 20 = .ok (.ifCond .ne 6, 3) := by decide +kernel
theorem dX7_taken_23 : decode cX7_taken 23 = .ok (.bipush (-12), 2) := by decide +kernel
theorem dX7_taken_25 : decode cX7_taken 25 = .ok (.ireturn, 1) := by decide +kernel
theorem dX7_taken_26 : decode cX7_taken 26 = .ok (.iload_n 1, 1) := by decide +kernel
theorem dX7_taken_27 : decode cX7_taken 27 = .ok (.iconst 5, 1) := by decide +kernel
theorem dX7_taken_28 : decode cX7_taken 28 = .ok (.if_icmp .ge 42, 3) := by decide +kernel
theorem dX7_taken_31 : decode cX7_taken 31 = .ok (.iload_n 1, 1) := by decide +kernel
theorem dX7_taken_32 : decode cX7_taken 32 = .ok (.aload_n 0, 1) := by decide +kernel
theorem dX7_taken_33 : decode cX7_taken 33 = .ok (.getfield 72, 3) := by decide +kernel
theorem dX7_taken_36 : decode cX7_taken 36 = .ok (.if_icmp .lt 8, 3) := by decide +kernel
theorem dX7_taken_39 : decode cX7_taken 39 = .ok (.bipush (-11), 2) := by decide +kernel
theorem dX7_taken_41 : decode cX7_taken 41 = .ok (.goto 28, 3) := by decide +kernel
theorem dX7_taken_44 : decode cX7_taken 44 = .ok (.iload_n 2, 1) := by decide +kernel
theorem dX7_taken_45 : decode cX7_taken 45 = .ok (.bipush 6, 2) := by decide +kernel
theorem dX7_taken_47 : decode cX7_taken 47 = .ok (.if_icmp .ge 20, 3) := by decide +kernel
theorem dX7_taken_50 : decode cX7_taken 50 = .ok (.aload_n 0, 1) := by decide +kernel
theorem dX7_taken_51 : decode cX7_taken 51 = .ok (.getfield 16, 3) := by decide +kernel
theorem dX7_taken_54 : decode cX7_taken 54 = .ok (.iload_n 1, 1) := by decide +kernel
theorem dX7_taken_55 : decode cX7_taken 55 = .ok (.iaload, 1) := by decide +kernel
theorem dX7_taken_56 : decode cX7_taken 56 = .ok (.iload_n 2, 1) := by decide +kernel
theorem dX7_taken_57 : decode cX7_taken 57 = .ok (.invokestatic 311, 3) := by decide +kernel
theorem dX7_taken_60 : decode cX7_taken 60 = .ok (.ifCond .eq 7, 3) := by decide +kernel
theorem dX7_taken_63 : decode cX7_taken 63 = .ok (.iload_n 1, 1) := by decide +kernel
theorem dX7_taken_64 : decode cX7_taken 64 = .ok (.goto 5, 3) := by decide +kernel
theorem dX7_taken_67 : decode cX7_taken 67 = .ok (.bipush (-13), 2) := by decide +kernel
theorem dX7_taken_69 : decode cX7_taken 69 = .ok (.ireturn, 1) := by decide +kernel
theorem dX7_taken_70 : decode cX7_taken 70 = .ok (.iconst 0, 1) := by decide +kernel
theorem dX7_taken_71 : decode cX7_taken 71 = .ok (.istore_n 3, 1) := by decide +kernel
theorem dX7_taken_72 : decode cX7_taken 72 = .ok (.iconst 0, 1) := by decide +kernel
theorem dX7_taken_73 : decode cX7_taken 73 = .ok (.istore 4, 2) := by decide +kernel
theorem dX7_taken_75 : decode cX7_taken 75 = .ok (.iload 4, 2) := by decide +kernel
theorem dX7_taken_77 : decode cX7_taken 77 = .ok (.bipush 6, 2) := by decide +kernel
theorem dX7_taken_79 : decode cX7_taken 79 = .ok (.if_icmp .ge 26, 3) := by decide +kernel
theorem dX7_taken_82 : decode cX7_taken 82 = .ok (.iload_n 3, 1) := by decide +kernel
theorem dX7_taken_83 : decode cX7_taken 83 = .ok (.aload_n 0, 1) := by decide +kernel
theorem dX7_taken_84 : decode cX7_taken 84 = .ok (.getfield 23, 3) := by decide +kernel
theorem dX7_taken_87 : decode cX7_taken 87 = .ok (.bipush 6, 2) := by decide +kernel
theorem dX7_taken_89 : decode cX7_taken 89 = .ok (.iload_n 1, 1) := by decide +kernel
theorem dX7_taken_90 : decode cX7_taken 90 = .ok (.iconst 5, 1) := by decide +kernel
theorem dX7_taken_91 : decode cX7_taken 91 = .ok (.isub, 1) := by decide +kernel
theorem dX7_taken_92 : decode cX7_taken 92 = .ok (.imul, 1) := by decide +kernel
theorem dX7_taken_93 : decode cX7_taken 93 = .ok (.iload 4, 2) := by decide +kernel
theorem dX7_taken_95 : decode cX7_taken 95 = .ok (.iadd, 1) := by decide +kernel
theorem dX7_taken_96 : decode cX7_taken 96 = .ok (.iaload, 1) := by decide +kernel
theorem dX7_taken_97 : decode cX7_taken 97 = .ok (.iadd, 1) := by decide +kernel
theorem dX7_taken_98 : decode cX7_taken 98 = .ok (.istore_n 3, 1) := by decide +kernel
theorem dX7_taken_99 : decode cX7_taken 99 = .ok (.iinc 4 1, 3) := by decide +kernel
theorem dX7_taken_102 : decode cX7_taken 102 = .ok (.goto (-27), 3) := by decide +kernel
theorem dX7_taken_105 : decode cX7_taken 105 = .ok (.iload_n 3, 1) := by decide +kernel
theorem dX7_taken_106 : decode cX7_taken 106 = .ok (.ifCond .ne 8, 3) := by decide +kernel
theorem dX7_taken_109 : decode cX7_taken 109 = .ok (.bipush (-11), 2) := by decide +kernel
theorem dX7_taken_111 : decode cX7_taken 111 = .ok (.goto 15, 3) := by decide +kernel
theorem dX7_taken_114 : decode cX7_taken 114 = .ok (.iload_n 2, 1) := by decide +kernel
theorem dX7_taken_115 : decode cX7_taken 115 = .ok (.bipush 6, 2) := by decide +kernel
theorem dX7_taken_117 : decode cX7_taken 117 = .ok (.if_icmp .ne 7, 3) := by decide +kernel
theorem dX7_taken_120 : decode cX7_taken 120 = .ok (.iload_n 3, 1) := by decide +kernel
theorem dX7_taken_121 : decode cX7_taken 121 = .ok (.goto 5, 3) := by decide +kernel
theorem dX7_taken_124 : decode cX7_taken 124 = .ok (.bipush (-13), 2) := by decide +kernel
theorem dX7_taken_126 : decode cX7_taken 126 = .ok (.ireturn, 1) := by decide +kernel
