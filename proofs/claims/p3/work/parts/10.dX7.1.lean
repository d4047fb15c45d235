theorem dX7_unwinds_57 : decode cX7_unwinds 57 = .ok (.bipush 19, 2) := by decide +kernel
theorem dX7_unwinds_59 : decode cX7_unwinds 59 = .ok (.if_icmp .ne 7, 3) := by decide +kernel
theorem dX7_unwinds_62 : decode cX7_unwinds 62 = .ok (.iconst 1, 1) := by decide +kernel
theorem dX7_unwinds_63 : decode cX7_unwinds 63 = .ok (.goto 4, 3) := by decide +kernel
theorem dX7_unwinds_66 : decode cX7_unwinds 66 = .ok (.iconst 0, 1) := by decide +kernel
theorem dX7_unwinds_67 : decode cX7_unwinds 67 = .ok (.isub, 1) := by decide +kernel
theorem dX7_unwinds_68 : decode cX7_unwinds 68 = .ok (.putfield 119, 3) := by decide +kernel
theorem dX7_unwinds_71 : decode cX7_unwinds 71 = .ok (.aload_n 0, 1) := by decide +kernel
theorem dX7_unwinds_72 : decode cX7_unwinds 72 = .ok (.iload_n 2, 1) := by decide +kernel
theorem dX7_unwinds_73 : decode cX7_unwinds 73 = .ok (.invokevirtual 122, 3) := by decide +kernel
theorem dX7_unwinds_76 : decode cX7_unwinds 76 = .ok (.goto (-76), 3) := by decide +kernel
theorem dX7_unwinds_79 : decode cX7_unwinds 79 = .ok (.return_, 1) := by decide +kernel
theorem dX7_holds_0 : decode cX7_holds 0 = .ok (.aload_n 0, 1) := by decide +kernel
theorem dX7_holds_1 : decode cX7_holds 1 = .ok (.getfield 53, 3) := by decide +kernel
theorem dX7_holds_4 : decode cX7_holds 4 = .ok (.aload_n 0, 1) := by decide +kernel
theorem dX7_holds_5 : decode cX7_holds 5 = .ok (.getfield 112, 3) := by decide +kernel
theorem dX7_holds_8 : decode cX7_holds 8 = .ok (.iload_n 1, 1) := by decide +kernel
theorem dX7_holds_9 : decode cX7_holds 9 = .ok (.iastore, 1) := by decide +kernel
theorem dX7_holds_10 : decode cX7_holds 10 = .ok (.aload_n 0, 1) := by decide +kernel
theorem dX7_holds_11 : decode cX7_holds 11 = .ok (.dup, 1) := by decide +kernel
theorem dX7_holds_12 : decode cX7_holds 12 = .ok (.getfield 112, 3) := by decide +kernel
theorem dX7_holds_15 : decode cX7_holds 15 = .ok (.iconst 1, 1) := by decide +kernel
theorem dX7_holds_16 : decode cX7_holds 16 = .ok (.iadd, 1) := by decide +kernel
theorem dX7_holds_17 : decode cX7_holds 17 = .ok (.putfield 112, 3) := by decide +kernel
theorem dX7_holds_20 : decode cX7_holds 20 = .ok (.return_, 1) := by decide +kernel
theorem dX7_opensOne_0 : decode cX7_opensOne 0 = .ok (.aload_n 0, 1) := by decide +kernel
theorem dX7_opensOne_1 : decode cX7_opensOne 1 = .ok (.getfield 119, 3) := by decide +kernel
theorem dX7_opensOne_4 : decode cX7_opensOne 4 = .ok (.iconst 5, 1) := by decide +kernel
theorem dX7_opensOne_5 : decode cX7_opensOne 5 = .ok (.if_icmp .ne 5, 3) := by decide +kernel
theorem dX7_opensOne_8 : decode cX7_opensOne 8 = .ok (.iconst 0, 1) := by decide +kernel
theorem dX7_opensOne_9 : decode cX7_opensOne 9 = .ok (.ireturn, 1) := by decide +kernel
theorem dX7_opensOne_10 : decode cX7_opensOne 10 = .ok (.aload_n 0, 1) := by decide +kernel
theorem dX7_opensOne_11 : decode cX7_opensOne 11 = .ok (.dup, 1) := by decide +kernel
theorem dX7_opensOne_12 : decode cX7_opensOne 12 = .ok (.getfield 119, 3) := by decide +kernel
theorem dX7_opensOne_15 : decode cX7_opensOne 15 = .ok (.iconst 1, 1) := by decide +kernel
theorem dX7_opensOne_16 : decode cX7_opensOne 16 = .ok (.iadd, 1) := by decide +kernel
theorem dX7_opensOne_17 : decode cX7_opensOne 17 = .ok (.putfield 119, 3) := by decide +kernel
theorem dX7_opensOne_20 : decode cX7_opensOne 20 = .ok (.aload_n 0, 1) := by decide +kernel
theorem dX7_opensOne_21 : decode cX7_opensOne 21 = .ok (.iload_n 1, 1) := by decide +kernel
theorem dX7_opensOne_22 : decode cX7_opensOne 22 = .ok (.invokevirtual 126, 3) := by decide +kernel
theorem dX7_opensOne_25 : decode cX7_opensOne 25 = .ok (.iconst 1, 1) := by decide +kernel
theorem dX7_opensOne_26 : decode cX7_opensOne 26 = .ok (.ireturn, 1) := by decide +kernel
theorem dX7_between_0 : decode cX7_between 0 = .ok (.aload_n 0, 1) := by decide +kernel
theorem dX7_between_1 : decode cX7_between 1 = .ok (.iload_n 1, 1) := by decide +kernel
theorem dX7_between_2 : decode cX7_between 2 = .ok (.invokestatic 115, 3) := by decide +kernel
theorem dX7_between_5 : decode cX7_between 5 = .ok (.iconst 4, 1) := by decide +kernel
theorem dX7_between_6 : decode cX7_between 6 = .ok (.if_icmp .ne 7, 3) := by decide +kernel
theorem dX7_between_9 : decode cX7_between 9 = .ok (.iconst 5, 1) := by decide +kernel
theorem dX7_between_10 : decode cX7_between 10 = .ok (.goto 7, 3) := by decide +kernel
theorem dX7_between_13 : decode cX7_between 13 = .ok (.iload_n 1, 1) := by decide +kernel
theorem dX7_between_14 : decode cX7_between 14 = .ok (.invokestatic 115, 3) := by decide +kernel
theorem dX7_between_17 : decode cX7_between 17 = .ok (.invokevirtual 129, 3) := by decide +kernel
theorem dX7_between_20 : decode cX7_between 20 = .ok (.iload_n 1, 1) := by decide +kernel
theorem dX7_between_21 : decode cX7_between 21 = .ok (.invokestatic 115, 3) := by decide +kernel
theorem dX7_between_24 : decode cX7_between 24 = .ok (.iconst 4, 1) := by decide +kernel
theorem dX7_between_25 : decode cX7_between 25 = .ok (.if_icmp .ne 30, 3) := by decide +kernel
theorem dX7_between_28 : decode cX7_between 28 = .ok (.aload_n 0, 1) := by decide +kernel
theorem dX7_between_29 : decode cX7_between 29 = .ok (.getfield 112, 3) := by decide +kernel
theorem dX7_between_32 : decode cX7_between 32 = .ok (.ifCond .le 23, 3) := by decide +kernel
theorem dX7_between_35 : decode cX7_between 35 = .ok (.aload_n 0, 1) := by decide +kernel
theorem dX7_between_36 : decode cX7_between 36 = .ok (.getfield 53, 3) := by decide +kernel
theorem dX7_between_39 : decode cX7_between 39 = .ok (.aload_n 0, 1) := by decide +kernel
theorem dX7_between_40 : decode cX7_between 40 = .ok (.getfield 112, 3) := by decide +kernel
theorem dX7_between_43 : decode cX7_between 43 = .ok (.iconst 1, 1) := by decide +kernel
theorem dX7_between_44 : decode cX7_between 44 = .ok (.isub, 1) := by decide +kernel
theorem dX7_between_45 : decode cX7_between 45 = .ok (.iaload, 1) := by decide +kernel
theorem dX7_between_46 : decode cX7_between 46 = .ok (.invokestatic 115, 3) := by decide +kernel
theorem dX7_between_49 : decode cX7_between 49 = .ok (.iconst 4, 1) := by decide +kernel
theorem dX7_between_50 : decode cX7_between 50 = .ok (.if_icmp .ne 5, 3) := by decide +kernel
theorem dX7_between_53 : decode cX7_between 53 = .ok (.iconst 0, 1) := by decide +kernel
theorem dX7_between_54 : decode cX7_between 54 = .ok (.ireturn, 1) := by decide +kernel
theorem dX7_between_55 : decode cX7_between 55 = .ok (.aload_n 0, 1) := by decide +kernel
theorem dX7_between_56 : decode cX7_between 56 = .ok (.iload_n 1, 1) := by decide +kernel
theorem dX7_between_57 : decode cX7_between 57 = .ok (.invokevirtual 126, 3) := by decide +kernel
theorem dX7_between_60 : decode cX7_between 60 = .ok (.iconst 1, 1) := by decide +kernel
theorem dX7_between_61 : decode cX7_between 61 = .ok (.ireturn, 1) := by decide +kernel
theorem dX7_signOf_0 : decode cX7_signOf 0 = .ok (.aload_n 0, 1) := by decide +kernel
theorem dX7_signOf_1 : decode cX7_signOf 1 = .ok (.getfield 99, 3) := by decide +kernel
theorem dX7_signOf_4 : decode cX7_signOf 4 = .ok (.iconst 4, 1) := by decide +kernel
theorem dX7_signOf_5 : decode cX7_signOf 5 = .ok (.if_icmp .ne 8, 3) := by decide +kernel
theorem dX7_signOf_8 : decode cX7_signOf 8 = .ok (.bipush 11, 2) := by decide +kernel
theorem dX7_signOf_10 : decode cX7_signOf 10 = .ok (.goto 87, 3) := by decide +kernel
theorem dX7_signOf_13 : decode cX7_signOf 13 = .ok (.aload_n 0, 1) := by decide +kernel
theorem dX7_signOf_14 : decode cX7_signOf 14 = .ok (.getfield 99, 3) := by decide +kernel
theorem dX7_signOf_17 : decode cX7_signOf 17 = .ok (.iconst 5, 1) := by decide +kernel
theorem dX7_signOf_18 : decode cX7_signOf 18 = .ok (.if_icmp .ne 8, 3) := by decide +kernel
theorem dX7_signOf_21 : decode cX7_signOf 21 = .ok (.bipush 12, 2) := by decide +kernel
theorem dX7_signOf_23 : decode cX7_signOf 23 = .ok (.goto 74, 3) := by decide +kernel
theorem dX7_signOf_26 : decode cX7_signOf 26 = .ok (.aload_n 0, 1) := by decide +kernel
theorem dX7_signOf_27 : decode cX7_signOf 27 = .ok (.getfield 99, 3) := by decide +kernel
theorem dX7_signOf_30 : decode cX7_signOf 30 = .ok (.bipush 60, 2) := by decide +kernel
theorem dX7_signOf_32 : decode cX7_signOf 32 = .ok (.if_icmp .ne 8, 3) := by decide +kernel
theorem dX7_signOf_35 : decode cX7_signOf 35 = .ok (.bipush 14, 2) := by decide +kernel
theorem dX7_signOf_37 : decode cX7_signOf 37 = .ok (.goto 60, 3) := by decide +kernel
theorem dX7_signOf_40 : decode cX7_signOf 40 = .ok (.aload_n 0, 1) := by decide +kernel
theorem dX7_signOf_41 : decode cX7_signOf 41 = .ok (.getfield 99, 3) := by decide +kernel
theorem dX7_signOf_44 : decode cX7_signOf 44 = .ok (.bipush 61, 2) := by decide +kernel
theorem dX7_signOf_46 : decode cX7_signOf 46 = .ok (.if_icmp .ne 8, 3) := by decide +kernel
theorem dX7_signOf_49 : decode cX7_signOf 49 = .ok (.bipush 15, 2) := by decide +kernel
theorem dX7_signOf_51 : decode cX7_signOf 51 = .ok (.goto 46, 3) := by decide +kernel
theorem dX7_signOf_54 : decode cX7_signOf 54 = .ok (.aload_n 0, 1) := by decide +kernel
theorem dX7_signOf_55 : decode cX7_signOf 55 = .ok (.getfield 99, 3) := by decide +kernel
theorem dX7_signOf_58 : decode cX7_signOf 58 = .ok (.bipush 43, 2) := by decide +kernel
theorem dX7_signOf_60 : decode cX7_signOf 60 = .ok (.if_icmp .ne 8, 3) := by decide +kernel
theorem dX7_signOf_63 : decode cX7_signOf 63 = .ok (.bipush 16, 2) := by decide +kernel
theorem dX7_signOf_65 : decode cX7_signOf 65 = .ok (.goto 32, 3) := by decide +kernel
theorem dX7_signOf_68 : decode cX7_signOf 68 = .ok (.aload_n 0, 1) := by decide +kernel
theorem dX7_signOf_69 : decode cX7_signOf 69 = .ok (.getfield 99, 3) := by decide +kernel
theorem dX7_signOf_72 : decode cX7_signOf 72 = .ok (.bipush 45, 2) := by decide +kernel
theorem dX7_signOf_74 : decode cX7_signOf 74 = .ok (.if_icmp .ne 8, 3) := by decide +kernel
theorem dX7_signOf_77 : decode cX7_signOf 77 = .ok (.bipush 17, 2) := by decide +kernel
theorem dX7_signOf_79 : decode cX7_signOf 79 = .ok (.goto 18, 3) := by decide +kernel
theorem dX7_signOf_82 : decode cX7_signOf 82 = .ok (.aload_n 0, 1) := by decide +kernel
theorem dX7_signOf_83 : decode cX7_signOf 83 = .ok (.getfield 99, 3) := by decide +kernel
theorem dX7_signOf_86 : decode cX7_signOf 86 = .ok (.bipush 42, 2) := by decide +kernel
theorem dX7_signOf_88 : decode cX7_signOf 88 = .ok (.if_icmp .ne 8, 3) := by decide +kernel
theorem dX7_signOf_91 : decode cX7_signOf 91 = .ok (.bipush 18, 2) := by decide +kernel
theorem dX7_signOf_93 : decode cX7_signOf 93 = .ok (.goto 4, 3) := by decide +kernel
theorem dX7_signOf_96 : decode cX7_signOf 96 = .ok (.iconst (-1), 1) := by decide +kernel
theorem dX7_signOf_97 : decode cX7_signOf 97 = .ok (.ireturn, 1) := by decide +kernel
theorem dX7_eRead_0 : decode cX7_eRead 0 = .ok (.aload_n 0, 1) := by decide +kernel
theorem dX7_eRead_1 : decode cX7_eRead 1 = .ok (.iconst 0, 1) := by decide +kernel
theorem dX7_eRead_2 : decode cX7_eRead 2 = .ok (.putfield 112, 3) := by decide +kernel
theorem dX7_eRead_5 : decode cX7_eRead 5 = .ok (.aload_n 0, 1) := by decide +kernel
theorem dX7_eRead_6 : decode cX7_eRead 6 = .ok (.iconst 0, 1) := by decide +kernel
theorem dX7_eRead_7 : decode cX7_eRead 7 = .ok (.putfield 119, 3) := by decide +kernel
theorem dX7_eRead_10 : decode cX7_eRead 10 = .ok (.iconst 1, 1) := by decide +kernel
theorem dX7_eRead_11 : decode cX7_eRead 11 = .ok (.istore_n 1, 1) := by decide +kernel
theorem dX7_eRead_12 : decode cX7_eRead 12 = .ok (.iconst 1, 1) := by decide +kernel
theorem dX7_eRead_13 : decode cX7_eRead 13 = .ok (.istore_n 2, 1) := by decide +kernel
theorem dX7_eRead_14 : decode cX7_eRead 14 = .ok (.aload_n 0, 1) := by decide +kernel
theorem dX7_eRead_15 : decode cX7_eRead 15 = .ok (.invokevirtual 132, 3) := by decide +kernel
theorem dX7_eRead_18 : decode cX7_eRead 18 = .ok (.iload_n 1, 1) := by decide +kernel
theorem dX7_eRead_19 : decode cX7_eRead 19 = .ok (.ifCond .eq 131, 3) := by decide +kernel
theorem dX7_eRead_22 : decode cX7_eRead 22 = .ok (.aload_n 0, 1) := by decide +kernel
theorem dX7_eRead_23 : decode cX7_eRead 23 = .ok (.getfield 99, 3) := by decide +kernel
theorem dX7_eRead_26 : decode cX7_eRead 26 = .ok (.iconst 1, 1) := by decide +kernel
theorem dX7_eRead_27 : decode cX7_eRead 27 = .ok (.if_icmp .eq 11, 3) := by decide +kernel
theorem dX7_eRead_30 : decode cX7_eRead 30 = .ok (.aload_n 0, 1) := by decide +kernel
theorem dX7_eRead_31 : decode cX7_eRead 31 = .ok (.getfield 99, 3) := by decide +kernel
theorem dX7_eRead_34 : decode cX7_eRead 34 = .ok (.iconst 2, 1) := by decide +kernel
theorem dX7_eRead_35 : decode cX7_eRead 35 = .ok (.if_icmp .ne 40, 3) := by decide +kernel
theorem dX7_eRead_38 : decode cX7_eRead 38 = .ok (.aload_n 0, 1) := by decide +kernel
theorem dX7_eRead_39 : decode cX7_eRead 39 = .ok (.aload_n 0, 1) := by decide +kernel
theorem dX7_eRead_40 : decode cX7_eRead 40 = .ok (.getfield 99, 3) := by decide +kernel
theorem dX7_eRead_43 : decode cX7_eRead 43 = .ok (.iconst 1, 1) := by decide +kernel
theorem dX7_eRead_44 : decode cX7_eRead 44 = .ok (.if_icmp .ne 13, 3) := by decide +kernel
theorem dX7_eRead_47 : decode cX7_eRead 47 = .ok (.ldc 135, 2) := by decide +kernel
theorem dX7_eRead_49 : decode cX7_eRead 49 = .ok (.aload_n 0, 1) := by decide +kernel
theorem dX7_eRead_50 : decode cX7_eRead 50 = .ok (.getfield 102, 3) := by decide +kernel
theorem dX7_eRead_53 : decode cX7_eRead 53 = .ok (.iadd, 1) := by decide +kernel
theorem dX7_eRead_54 : decode cX7_eRead 54 = .ok (.goto 7, 3) := by decide +kernel
theorem dX7_eRead_57 : decode cX7_eRead 57 = .ok (.aload_n 0, 1) := by decide +kernel
theorem dX7_eRead_58 : decode cX7_eRead 58 = .ok (.getfield 102, 3) := by decide +kernel
theorem dX7_eRead_61 : decode cX7_eRead 61 = .ok (.invokevirtual 122, 3) := by decide +kernel
theorem dX7_eRead_64 : decode cX7_eRead 64 = .ok (.aload_n 0, 1) := by decide +kernel
theorem dX7_eRead_65 : decode cX7_eRead 65 = .ok (.bipush 7, 2) := by decide +kernel
theorem dX7_eRead_67 : decode cX7_eRead 67 = .ok (.invokevirtual 129, 3) := by decide +kernel
theorem dX7_eRead_70 : decode cX7_eRead 70 = .ok (.iconst 0, 1) := by decide +kernel
theorem dX7_eRead_71 : decode cX7_eRead 71 = .ok (.istore_n 1, 1) := by decide +kernel
theorem dX7_eRead_72 : decode cX7_eRead 72 = .ok (.goto (-58), 3) := by decide +kernel
theorem dX7_eRead_75 : decode cX7_eRead 75 = .ok (.aload_n 0, 1) := by decide +kernel
theorem dX7_eRead_76 : decode cX7_eRead 76 = .ok (.getfield 99, 3) := by decide +kernel
theorem dX7_eRead_79 : decode cX7_eRead 79 = .ok (.bipush 6, 2) := by decide +kernel
theorem dX7_eRead_81 : decode cX7_eRead 81 = .ok (.if_icmp .ne 18, 3) := by decide +kernel
theorem dX7_eRead_84 : decode cX7_eRead 84 = .ok (.iload_n 2, 1) := by decide +kernel
theorem dX7_eRead_85 : decode cX7_eRead 85 = .ok (.ifCond .eq 14, 3) := by decide +kernel
theorem dX7_eRead_88 : decode cX7_eRead 88 = .ok (.aload_n 0, 1) := by decide +kernel
theorem dX7_eRead_89 : decode cX7_eRead 89 = .ok (.bipush 13, 2) := by decide +kernel
theorem dX7_eRead_91 : decode cX7_eRead 91 = .ok (.invokevirtual 136, 3) := by decide +kernel
theorem dX7_eRead_94 : decode cX7_eRead 94 = .ok (.ifCond .ne (-80), 3) := by decide +kernel
theorem dX7_eRead_97 : decode cX7_eRead 97 = .ok (.iconst 0, 1) := by decide +kernel
theorem dX7_eRead_98 : decode cX7_eRead 98 = .ok (.ireturn, 1) := by decide +kernel
theorem dX7_eRead_99 : decode cX7_eRead 99 = .ok (.aload_n 0, 1) := by decide +kernel
theorem dX7_eRead_100 : decode cX7_eRead 100 = .ok (.getfield 99, 3) := by decide +kernel
theorem dX7_eRead_103 : decode cX7_eRead 103 = .ok (.bipush 45, 2) := by decide +kernel
theorem dX7_eRead_105 : decode cX7_eRead 105 = .ok (.if_icmp .ne 19, 3) := by decide +kernel
theorem dX7_eRead_108 : decode cX7_eRead 108 = .ok (.aload_n 0, 1) := by decide +kernel
theorem dX7_eRead_109 : decode cX7_eRead 109 = .ok (.bipush 19, 2) := by decide +kernel
theorem dX7_eRead_111 : decode cX7_eRead 111 = .ok (.invokevirtual 136, 3) := by decide +kernel
theorem dX7_eRead_114 : decode cX7_eRead 114 = .ok (.ifCond .ne 5, 3) := by decide +kernel
theorem dX7_eRead_117 : decode cX7_eRead 117 = .ok (.iconst 0, 1) := by decide +kernel
theorem dX7_eRead_118 : decode cX7_eRead 118 = .ok (.ireturn, 1) := by decide +kernel
theorem dX7_eRead_119 : decode cX7_eRead 119 = .ok (.iconst 0, 1) := by decide +kernel
theorem dX7_eRead_120 : decode cX7_eRead 120 = .ok (.istore_n 2, 1) := by decide +kernel
theorem dX7_eRead_121 : decode cX7_eRead 121 = .ok (.goto (-107), 3) := by decide +kernel
theorem dX7_eRead_124 : decode cX7_eRead 124 = .ok (.aload_n 0, 1) := by decide +kernel
theorem dX7_eRead_125 : decode cX7_eRead 125 = .ok (.getfield 99, 3) := by decide +kernel
theorem dX7_eRead_128 : decode cX7_eRead 128 = .ok (.bipush 40, 2) := by decide +kernel
theorem dX7_eRead_130 : decode cX7_eRead 130 = .ok (.if_icmp .ne 18, 3) := by decide +kernel
theorem dX7_eRead_133 : decode cX7_eRead 133 = .ok (.aload_n 0, 1) := by decide +kernel
theorem dX7_eRead_134 : decode cX7_eRead 134 = .ok (.iconst 0, 1) := by decide +kernel
theorem dX7_eRead_135 : decode cX7_eRead 135 = .ok (.invokevirtual 136, 3) := by decide +kernel
theorem dX7_eRead_138 : decode cX7_eRead 138 = .ok (.ifCond .ne 5, 3) := by decide +kernel
theorem dX7_eRead_141 : decode cX7_eRead 141 = .ok (.iconst 0, 1) := by decide +kernel
theorem dX7_eRead_142 : decode cX7_eRead 142 = .ok (.ireturn, 1) := by decide +kernel
theorem dX7_eRead_143 : decode cX7_eRead 143 = .ok (.iconst 1, 1) := by decide +kernel
theorem dX7_eRead_144 : decode cX7_eRead 144 = .ok (.istore_n 2, 1) := by decide +kernel
theorem dX7_eRead_145 : decode cX7_eRead 145 = .ok (.goto (-131), 3) := by decide +kernel
theorem dX7_eRead_148 : decode cX7_eRead 148 = .ok (.iconst 0, 1) := by decide +kernel
theorem dX7_eRead_149 : decode cX7_eRead 149 = .ok (.ireturn, 1) := by decide +kernel
theorem dX7_eRead_150 : decode cX7_eRead 150 = .ok (.aload_n 0, 1) := by decide +kernel
theorem dX7_eRead_151 : decode cX7_eRead 151 = .ok (.getfield 99, 3) := by decide +kernel
theorem dX7_eRead_154 : decode cX7_eRead 154 = .ok (.bipush 59, 2) := by decide +kernel
theorem dX7_eRead_156 : decode cX7_eRead 156 = .ok (.if_icmp .ne 21, 3) := by decide +kernel
theorem dX7_eRead_159 : decode cX7_eRead 159 = .ok (.aload_n 0, 1) := by decide +kernel
theorem dX7_eRead_160 : decode cX7_eRead 160 = .ok (.iconst 1, 1) := by decide +kernel
theorem dX7_eRead_161 : decode cX7_eRead 161 = .ok (.invokevirtual 129, 3) := by decide +kernel
theorem dX7_eRead_164 : decode cX7_eRead 164 = .ok (.aload_n 0, 1) := by decide +kernel
theorem dX7_eRead_165 : decode cX7_eRead 165 = .ok (.getfield 112, 3) := by decide +kernel
theorem dX7_eRead_168 : decode cX7_eRead 168 = .ok (.ifCond .ne 7, 3) := by decide +kernel
theorem dX7_eRead_171 : decode cX7_eRead 171 = .ok (.iconst 1, 1) := by decide +kernel
theorem dX7_eRead_172 : decode cX7_eRead 172 = .ok (.goto 4, 3) := by decide +kernel
theorem dX7_eRead_175 : decode cX7_eRead 175 = .ok (.iconst 0, 1) := by decide +kernel
theorem dX7_eRead_176 : decode cX7_eRead 176 = .ok (.ireturn, 1) := by decide +kernel
theorem dX7_eRead_177 : decode cX7_eRead 177 = .ok (.aload_n 0, 1) := by decide +kernel
theorem dX7_eRead_178 : decode cX7_eRead 178 = .ok (.getfield 99, 3) := by decide +kernel
theorem dX7_eRead_181 : decode cX7_eRead 181 = .ok (.bipush 41, 2) := by decide +kernel
theorem dX7_eRead_183 : decode cX7_eRead 183 = .ok (.if_icmp .ne 46, 3) := by decide +kernel
theorem dX7_eRead_186 : decode cX7_eRead 186 = .ok (.aload_n 0, 1) := by decide +kernel
theorem dX7_eRead_187 : decode cX7_eRead 187 = .ok (.iconst 1, 1) := by decide +kernel
theorem dX7_eRead_188 : decode cX7_eRead 188 = .ok (.invokevirtual 129, 3) := by decide +kernel
theorem dX7_eRead_191 : decode cX7_eRead 191 = .ok (.aload_n 0, 1) := by decide +kernel
theorem dX7_eRead_192 : decode cX7_eRead 192 = .ok (.getfield 112, 3) := by decide +kernel
theorem dX7_eRead_195 : decode cX7_eRead 195 = .ok (.ifCond .ne 5, 3) := by decide +kernel
theorem dX7_eRead_198 : decode cX7_eRead 198 = .ok (.iconst 0, 1) := by decide +kernel
theorem dX7_eRead_199 : decode cX7_eRead 199 = .ok (.ireturn, 1) := by decide +kernel
theorem dX7_eRead_200 : decode cX7_eRead 200 = .ok (.aload_n 0, 1) := by decide +kernel
theorem dX7_eRead_201 : decode cX7_eRead 201 = .ok (.dup, 1) := by decide +kernel
theorem dX7_eRead_202 : decode cX7_eRead 202 = .ok (.getfield 112, 3) := by decide +kernel
theorem dX7_eRead_205 : decode cX7_eRead 205 = .ok (.iconst 1, 1) := by decide +kernel
theorem dX7_eRead_206 : decode cX7_eRead 206 = .ok (.isub, 1) := by decide +kernel
theorem dX7_eRead_207 : decode cX7_eRead 207 = .ok (.putfield 112, 3) := by decide +kernel
theorem dX7_eRead_210 : decode cX7_eRead 210 = .ok (.aload_n 0, 1) := by decide +kernel
theorem dX7_eRead_211 : decode cX7_eRead 211 = .ok (.dup, 1) := by decide +kernel
theorem dX7_eRead_212 : decode cX7_eRead 212 = .ok (.getfield 119, 3) := by decide +kernel
theorem dX7_eRead_215 : decode cX7_eRead 215 = .ok (.iconst 1, 1) := by decide +kernel
theorem dX7_eRead_216 : decode cX7_eRead 216 = .ok (.isub, 1) := by decide +kernel
theorem dX7_eRead_217 : decode cX7_eRead 217 = .ok (.putfield 119, 3) := by decide +kernel
theorem dX7_eRead_220 : decode cX7_eRead 220 = .ok (.aload_n 0, 1) := by decide +kernel
theorem dX7_eRead_221 : decode cX7_eRead 221 = .ok (.bipush 7, 2) := by decide +kernel
theorem dX7_eRead_223 : decode cX7_eRead 223 = .ok (.invokevirtual 129, 3) := by decide +kernel
theorem dX7_eRead_226 : decode cX7_eRead 226 = .ok (.goto (-212), 3) := by decide +kernel
theorem dX7_eRead_229 : decode cX7_eRead 229 = .ok (.aload_n 0, 1) := by decide +kernel
theorem dX7_eRead_230 : decode cX7_eRead 230 = .ok (.invokevirtual 139, 3) := by decide +kernel
theorem dX7_eRead_233 : decode cX7_eRead 233 = .ok (.istore_n 3, 1) := by decide +kernel
theorem dX7_eRead_234 : decode cX7_eRead 234 = .ok (.iload_n 3, 1) := by decide +kernel
theorem dX7_eRead_235 : decode cX7_eRead 235 = .ok (.iconst (-1), 1) := by decide +kernel
theorem dX7_eRead_236 : decode cX7_eRead 236 = .ok (.if_icmp .eq 11, 3) := by decide +kernel
theorem dX7_eRead_239 : decode cX7_eRead 239 = .ok (.aload_n 0, 1) := by decide +kernel
theorem dX7_eRead_240 : decode cX7_eRead 240 = .ok (.iload_n 3, 1) := by decide +kernel
theorem dX7_eRead_241 : decode cX7_eRead 241 = .ok (.invokevirtual 142, 3) := by decide +kernel
theorem dX7_eRead_244 : decode cX7_eRead 244 = .ok (.ifCond .ne 5, 3) := by decide +kernel
theorem dX7_eRead_247 : decode cX7_eRead 247 = .ok (.iconst 0, 1) := by decide +kernel
theorem dX7_eRead_248 : decode cX7_eRead 248 = .ok (.ireturn, 1) := by decide +kernel
theorem dX7_eRead_249 : decode cX7_eRead 249 = .ok (.iconst 1, 1) := by decide +kernel
theorem dX7_eRead_250 : decode cX7_eRead 250 = .ok (.istore_n 1, 1) := by decide +kernel
theorem dX7_eRead_251 : decode cX7_eRead 251 = .ok (.iload_n 3, 1) := by decide +kernel
theorem dX7_eRead_252 : decode cX7_eRead 252 = .ok (.bipush 12, 2) := by decide +kernel
theorem dX7_eRead_254 : decode cX7_eRead 254 = .ok (.if_icmp .gt 7, 3) := by decide +kernel
theorem dX7_eRead_257 : decode cX7_eRead 257 = .ok (.iconst 1, 1) := by decide +kernel
theorem dX7_eRead_258 : decode cX7_eRead 258 = .ok (.goto 4, 3) := by decide +kernel
theorem dX7_eRead_261 : decode cX7_eRead 261 = .ok (.iconst 0, 1) := by decide +kernel
theorem dX7_eRead_262 : decode cX7_eRead 262 = .ok (.istore_n 2, 1) := by decide +kernel
theorem dX7_eRead_263 : decode cX7_eRead 263 = .ok (.goto (-249), 3) := by decide +kernel
theorem dX7_text_0 : decode cX7_text 0 = .ok (.aload_n 0, 1) := by decide +kernel
theorem dX7_text_1 : decode cX7_text 1 = .ok (.getfield 80, 3) := by decide +kernel
theorem dX7_text_4 : decode cX7_text 4 = .ok (.bipush 6, 2) := by decide +kernel
theorem dX7_text_6 : decode cX7_text 6 = .ok (.if_icmp .ne 6, 3) := by decide +kernel
theorem dX7_text_9 : decode cX7_text 9 = .ok (.bipush (-4), 2) := by decide +kernel
theorem dX7_text_11 : decode cX7_text 11 = .ok (.ireturn, 1) := by decide +kernel
theorem dX7_text_12 : decode cX7_text 12 = .ok (.aload_n 0, 1) := by decide +kernel
theorem dX7_text_13 : decode cX7_text 13 = .ok (.iconst 0, 1) := by decide +kernel
theorem dX7_text_14 : decode cX7_text 14 = .ok (.putfield 93, 3) := by decide +kernel
theorem dX7_text_17 : decode cX7_text 17 = .ok (.aload_n 0, 1) := by decide +kernel
theorem dX7_text_18 : decode cX7_text 18 = .ok (.iconst 0, 1) := by decide +kernel
theorem dX7_text_19 : decode cX7_text 19 = .ok (.putfield 109, 3) := by decide +kernel
theorem dX7_text_22 : decode cX7_text 22 = .ok (.iconst 1, 1) := by decide +kernel
theorem dX7_text_23 : decode cX7_text 23 = .ok (.istore_n 1, 1) := by decide +kernel
theorem dX7_text_24 : decode cX7_text 24 = .ok (.iconst 0, 1) := by decide +kernel
theorem dX7_text_25 : decode cX7_text 25 = .ok (.istore_n 2, 1) := by decide +kernel
theorem dX7_text_26 : decode cX7_text 26 = .ok (.iload_n 2, 1) := by decide +kernel
theorem dX7_text_27 : decode cX7_text 27 = .ok (.iconst 3, 1) := by decide +kernel
theorem dX7_text_28 : decode cX7_text 28 = .ok (.if_icmp .ge 73, 3) := by decide +kernel
theorem dX7_text_31 : decode cX7_text 31 = .ok (.iload_n 1, 1) := by decide +kernel
theorem dX7_text_32 : decode cX7_text 32 = .ok (.ifCond .eq 69, 3) := by decide +kernel
theorem dX7_text_35 : decode cX7_text 35 = .ok (.aload_n 0, 1) := by decide +kernel
theorem dX7_text_36 : decode cX7_text 36 = .ok (.invokevirtual 132, 3) := by decide +kernel
theorem dX7_text_39 : decode cX7_text 39 = .ok (.aload_n 0, 1) := by decide +kernel
theorem dX7_text_40 : decode cX7_text 40 = .ok (.getfield 99, 3) := by decide +kernel
theorem dX7_text_43 : decode cX7_text 43 = .ok (.iconst 3, 1) := by decide +kernel
theorem dX7_text_44 : decode cX7_text 44 = .ok (.if_icmp .ne 15, 3) := by decide +kernel
theorem dX7_text_47 : decode cX7_text 47 = .ok (.aload_n 0, 1) := by decide +kernel
theorem dX7_text_48 : decode cX7_text 48 = .ok (.getfield 102, 3) := by decide +kernel
theorem dX7_text_51 : decode cX7_text 51 = .ok (.iload_n 2, 1) := by decide +kernel
theorem dX7_text_52 : decode cX7_text 52 = .ok (.if_icmp .ne 7, 3) := by decide +kernel
theorem dX7_text_55 : decode cX7_text 55 = .ok (.iconst 1, 1) := by decide +kernel
theorem dX7_text_56 : decode cX7_text 56 = .ok (.goto 4, 3) := by decide +kernel
theorem dX7_text_59 : decode cX7_text 59 = .ok (.iconst 0, 1) := by decide +kernel
theorem dX7_text_60 : decode cX7_text 60 = .ok (.istore_n 1, 1) := by decide +kernel
theorem dX7_text_61 : decode cX7_text 61 = .ok (.aload_n 0, 1) := by decide +kernel
theorem dX7_text_62 : decode cX7_text 62 = .ok (.getfield 32, 3) := by decide +kernel
theorem dX7_text_65 : decode cX7_text 65 = .ok (.iconst 4, 1) := by decide +kernel
theorem dX7_text_66 : decode cX7_text 66 = .ok (.aload_n 0, 1) := by decide +kernel
theorem dX7_text_67 : decode cX7_text 67 = .ok (.getfield 80, 3) := by decide +kernel
theorem dX7_text_70 : decode cX7_text 70 = .ok (.imul, 1) := by decide +kernel
theorem dX7_text_71 : decode cX7_text 71 = .ok (.iload_n 2, 1) := by decide +kernel
theorem dX7_text_72 : decode cX7_text 72 = .ok (.iadd, 1) := by decide +kernel
theorem dX7_text_73 : decode cX7_text 73 = .ok (.aload_n 0, 1) := by decide +kernel
theorem dX7_text_74 : decode cX7_text 74 = .ok (.getfield 109, 3) := by decide +kernel
theorem dX7_text_77 : decode cX7_text 77 = .ok (.iastore, 1) := by decide +kernel
theorem dX7_text_78 : decode cX7_text 78 = .ok (.iload_n 1, 1) := by decide +kernel
theorem dX7_text_79 : decode cX7_text 79 = .ok (.ifCond .eq 14, 3) := by decide +kernel
theorem dX7_text_82 : decode cX7_text 82 = .ok (.aload_n 0, 1) := by decide +kernel
theorem dX7_text_83 : decode cX7_text 83 = .ok (.invokevirtual 145, 3) := by decide +kernel
theorem dX7_text_86 : decode cX7_text 86 = .ok (.ifCond .eq 7, 3) := by decide +kernel
theorem dX7_text_89 : decode cX7_text 89 = .ok (.iconst 1, 1) := by decide +kernel
theorem dX7_text_90 : decode cX7_text 90 = .ok (.goto 4, 3) := by decide +kernel
theorem dX7_text_93 : decode cX7_text 93 = .ok (.iconst 0, 1) := by decide +kernel
theorem dX7_text_94 : decode cX7_text 94 = .ok (.istore_n 1, 1) := by decide +kernel
theorem dX7_text_95 : decode cX7_text 95 = .ok (.iinc 2 1, 3) := by decide +kernel
theorem dX7_text_98 : decode cX7_text 98 = .ok (.goto (-72), 3) := by decide +kernel
theorem dX7_text_101 : decode cX7_text 101 = .ok (.iload_n 1, 1) := by decide +kernel
theorem dX7_text_102 : decode cX7_text 102 = .ok (.ifCond .eq 20, 3) := by decide +kernel
theorem dX7_text_105 : decode cX7_text 105 = .ok (.aload_n 0, 1) := by decide +kernel
theorem dX7_text_106 : decode cX7_text 106 = .ok (.invokevirtual 132, 3) := by decide +kernel
theorem dX7_text_109 : decode cX7_text 109 = .ok (.aload_n 0, 1) := by decide +kernel
theorem dX7_text_110 : decode cX7_text 110 = .ok (.getfield 99, 3) := by decide +kernel
theorem dX7_text_113 : decode cX7_text 113 = .ok (.ifCond .ne 7, 3) := by decide +kernel
theorem dX7_text_116 : decode cX7_text 116 = .ok (.iconst 1, 1) := by decide +kernel
theorem dX7_text_117 : decode cX7_text 117 = .ok (.goto 4, 3) := by decide +kernel
theorem dX7_text_120 : decode cX7_text 120 = .ok (.iconst 0, 1) := by decide +kernel
theorem dX7_text_121 : decode cX7_text 121 = .ok (.istore_n 1, 1) := by decide +kernel
theorem dX7_text_122 : decode cX7_text 122 = .ok (.aload_n 0, 1) := by decide +kernel
theorem dX7_text_123 : decode cX7_text 123 = .ok (.getfield 32, 3) := by decide +kernel
theorem dX7_text_126 : decode cX7_text 126 = .ok (.iconst 4, 1) := by decide +kernel
theorem dX7_text_127 : decode cX7_text 127 = .ok (.aload_n 0, 1) := by decide +kernel
theorem dX7_text_128 : decode cX7_text 128 = .ok (.getfield 80, 3) := by decide +kernel
theorem dX7_text_131 : decode cX7_text 131 = .ok (.imul, 1) := by decide +kernel
theorem dX7_text_132 : decode cX7_text 132 = .ok (.iconst 3, 1) := by decide +kernel
theorem dX7_text_133 : decode cX7_text 133 = .ok (.iadd, 1) := by decide +kernel
theorem dX7_text_134 : decode cX7_text 134 = .ok (.aload_n 0, 1) := by decide +kernel
theorem dX7_text_135 : decode cX7_text 135 = .ok (.getfield 109, 3) := by decide +kernel
theorem dX7_text_138 : decode cX7_text 138 = .ok (.iastore, 1) := by decide +kernel
theorem dX7_text_139 : decode cX7_text 139 = .ok (.aload_n 0, 1) := by decide +kernel
theorem dX7_text_140 : decode cX7_text 140 = .ok (.iconst 0, 1) := by decide +kernel
theorem dX7_text_141 : decode cX7_text 141 = .ok (.putfield 65, 3) := by decide +kernel
theorem dX7_text_144 : decode cX7_text 144 = .ok (.iload_n 1, 1) := by decide +kernel
theorem dX7_text_145 : decode cX7_text 145 = .ok (.ifCond .ne 11, 3) := by decide +kernel
theorem dX7_text_148 : decode cX7_text 148 = .ok (.bipush (-100), 2) := by decide +kernel
theorem dX7_text_150 : decode cX7_text 150 = .ok (.aload_n 0, 1) := by decide +kernel
theorem dX7_text_151 : decode cX7_text 151 = .ok (.getfield 96, 3) := by decide +kernel
theorem dX7_text_154 : decode cX7_text 154 = .ok (.isub, 1) := by decide +kernel
theorem dX7_text_155 : decode cX7_text 155 = .ok (.ireturn, 1) := by decide +kernel
theorem dX7_text_156 : decode cX7_text 156 = .ok (.aload_n 0, 1) := by decide +kernel
theorem dX7_text_157 : decode cX7_text 157 = .ok (.dup, 1) := by decide +kernel
theorem dX7_text_158 : decode cX7_text 158 = .ok (.getfield 80, 3) := by decide +kernel
theorem dX7_text_161 : decode cX7_text 161 = .ok (.iconst 1, 1) := by decide +kernel
theorem dX7_text_162 : decode cX7_text 162 = .ok (.iadd, 1) := by decide +kernel
theorem dX7_text_163 : decode cX7_text 163 = .ok (.putfield 80, 3) := by decide +kernel
theorem dX7_text_166 : decode cX7_text 166 = .ok (.aload_n 0, 1) := by decide +kernel
theorem dX7_text_167 : decode cX7_text 167 = .ok (.getfield 80, 3) := by decide +kernel
theorem dX7_text_170 : decode cX7_text 170 = .ok (.iconst 1, 1) := by decide +kernel
theorem dX7_text_171 : decode cX7_text 171 = .ok (.isub, 1) := by decide +kernel
theorem dX7_text_172 : decode cX7_text 172 = .ok (.ireturn, 1) := by decide +kernel
theorem dX7_two_0 : decode cX7_two 0 = .ok (.iload_n 0, 1) := by decide +kernel
theorem dX7_two_1 : decode cX7_two 1 = .ok (.tableswitch 101 11 17 #[43, 57, 101, 71, 82, 93, 97], 43) := by decide +kernel
theorem dX7_two_44 : decode cX7_two 44 = .ok (.iload_n 1, 1) := by decide +kernel
theorem dX7_two_45 : decode cX7_two 45 = .ok (.ifCond .ne 7, 3) := by decide +kernel
theorem dX7_two_48 : decode cX7_two 48 = .ok (.iload_n 2, 1) := by decide +kernel
theorem dX7_two_49 : decode cX7_two 49 = .ok (.ifCond .eq 7, 3) := by decide +kernel
theorem dX7_two_52 : decode cX7_two 52 = .ok (.iconst 1, 1) := by decide +kernel
theorem dX7_two_53 : decode cX7_two 53 = .ok (.goto 4, 3) := by decide +kernel
theorem dX7_two_56 : decode cX7_two 56 = .ok (.iconst 0, 1) := by decide +kernel
theorem dX7_two_57 : decode cX7_two 57 = .ok (.ireturn, 1) := by decide +kernel
theorem dX7_two_58 : decode cX7_two 58 = .ok (.iload_n 1, 1) := by decide +kernel
theorem dX7_two_59 : decode cX7_two 59 = .ok (.ifCond .eq 11, 3) := by decide +kernel
theorem dX7_two_62 : decode cX7_two 62 = .ok (.iload_n 2, 1) := by decide +kernel
theorem dX7_two_63 : decode cX7_two 63 = .ok (.ifCond .eq 7, 3) := by decide +kernel
theorem dX7_two_66 : decode cX7_two 66 = .ok (.iconst 1, 1) := by decide +kernel
theorem dX7_two_67 : decode cX7_two 67 = .ok (.goto 4, 3) := by decide +kernel
theorem dX7_two_70 : decode cX7_two 70 = .ok (.iconst 0, 1) := by decide +kernel
theorem dX7_two_71 : decode cX7_two 71 = .ok (.ireturn, 1) := by decide +kernel
theorem dX7_two_72 : decode cX7_two 72 = .ok (.iload_n 1, 1) := by decide +kernel
theorem dX7_two_73 : decode cX7_two 73 = .ok (.iload_n 2, 1) := by decide +kernel
theorem dX7_two_74 : decode cX7_two 74 = .ok (.if_icmp .ge 7, 3) := by decide +kernel
theorem dX7_two_77 : decode cX7_two 77 = .ok (.iconst 1, 1) := by decide +kernel
theorem dX7_two_78 : decode cX7_two 78 = .ok (.goto 4, 3) := by decide +kernel
theorem dX7_two_81 : decode cX7_two 81 = .ok (.iconst 0, 1) := by decide +kernel
theorem dX7_two_82 : decode cX7_two 82 = .ok (.ireturn, 1) := by decide +kernel
theorem dX7_two_83 : decode cX7_two 83 = .ok (.iload_n 1, 1) := by decide +kernel
theorem dX7_two_84 : decode cX7_two 84 = .ok (.iload_n 2, 1) := by decide +kernel
theorem dX7_two_85 : decode cX7_two 85 = .ok (.if_icmp .ne 7, 3) := by decide +kernel
theorem dX7_two_88 : decode cX7_two 88 = .ok (.iconst 1, 1) := by decide +kernel
theorem dX7_two_89 : decode cX7_two 89 = .ok (.goto 4, 3) := by decide +kernel
theorem dX7_two_92 : decode cX7_two 92 = .ok (.iconst 0, 1) := by decide +kernel
theorem dX7_two_93 : decode cX7_two 93 = .ok (.ireturn, 1) := by decide +kernel
theorem dX7_two_94 : decode cX7_two 94 = .ok (.iload_n 1, 1) := by decide +kernel
theorem dX7_two_95 : decode cX7_two 95 = .ok (.iload_n 2, 1) := by decide +kernel
theorem dX7_two_96 : decode cX7_two 96 = .ok (.iadd, 1) := by decide +kernel
theorem dX7_two_97 : decode cX7_two 97 = .ok (.ireturn, 1) := by decide +kernel
theorem dX7_two_98 : decode cX7_two 98 = .ok (.iload_n 1, 1) := by decide +kernel
theorem dX7_two_99 : decode cX7_two 99 = .ok (.iload_n 2, 1) := by decide +kernel
theorem dX7_two_100 : decode cX7_two 100 = .ok (.isub, 1) := by decide +kernel
theorem dX7_two_101 : decode cX7_two 101 = .ok (.ireturn, 1) := by decide +kernel
theorem dX7_two_102 : decode cX7_two 102 = .ok (.iload_n 1, 1) := by decide +kernel
theorem dX7_two_103 : decode cX7_two 103 = .ok (.iload_n 2, 1) := by decide +kernel
theorem dX7_two_104 : decode cX7_two 104 = .ok (.imul, 1) := by decide +kernel
theorem dX7_two_105 : decode cX7_two 105 = .ok (.ireturn, 1) := by decide +kernel
theorem dX7_says_0 : decode cX7_says 0 = .ok (.iconst 0, 1) := by decide +kernel
theorem dX7_says_1 : decode cX7_says 1 = .ok (.istore_n 2, 1) := by decide +kernel
theorem dX7_says_2 : decode cX7_says 2 = .ok (.aload_n 0, 1) := by decide +kernel
theorem dX7_says_3 : decode cX7_says 3 = .ok (.getfield 32, 3) := by decide +kernel
theorem dX7_says_6 : decode cX7_says 6 = .ok (.iconst 4, 1) := by decide +kernel
theorem dX7_says_7 : decode cX7_says 7 = .ok (.aload_n 0, 1) := by decide +kernel
theorem dX7_says_8 : decode cX7_says 8 = .ok (.getfield 83, 3) := by decide +kernel
theorem dX7_says_11 : decode cX7_says 11 = .ok (.imul, 1) := by decide +kernel
theorem dX7_says_12 : decode cX7_says 12 = .ok (.iload_n 1, 1) := by decide +kernel
theorem dX7_says_13 : decode cX7_says 13 = .ok (.iadd, 1) := by decide +kernel
theorem dX7_says_14 : decode cX7_says 14 = .ok (.iaload, 1) := by decide +kernel
theorem dX7_says_15 : decode cX7_says 15 = .ok (.istore_n 3, 1) := by decide +kernel
theorem dX7_says_16 : decode cX7_says 16 = .ok (.iload_n 3, 1) := by decide +kernel
theorem dX7_says_17 : decode cX7_says 17 = .ok (.aload_n 0, 1) := by decide +kernel
theorem dX7_says_18 : decode cX7_says 18 = .ok (.getfield 32, 3) := by decide +kernel
theorem dX7_says_21 : decode cX7_says 21 = .ok (.iconst 4, 1) := by decide +kernel
theorem dX7_says_22 : decode cX7_says 22 = .ok (.aload_n 0, 1) := by decide +kernel
theorem dX7_says_23 : decode cX7_says 23 = .ok (.getfield 83, 3) := by decide +kernel
theorem dX7_says_26 : decode cX7_says 26 = .ok (.imul, 1) := by decide +kernel
theorem dX7_says_27 : decode cX7_says 27 = .ok (.iload_n 1, 1) := by decide +kernel
theorem dX7_says_28 : decode cX7_says 28 = .ok (.iadd, 1) := by decide +kernel
theorem dX7_says_29 : decode cX7_says 29 = .ok (.iconst 1, 1) := by decide +kernel
theorem dX7_says_30 : decode cX7_says 30 = .ok (.iadd, 1) := by decide +kernel
theorem dX7_says_31 : decode cX7_says 31 = .ok (.iaload, 1) := by decide +kernel
theorem dX7_says_32 : decode cX7_says 32 = .ok (.if_icmp .ge 165, 3) := by decide +kernel
theorem dX7_says_35 : decode cX7_says 35 = .ok (.aload_n 0, 1) := by decide +kernel
theorem dX7_says_36 : decode cX7_says 36 = .ok (.getfield 29, 3) := by decide +kernel
theorem dX7_says_39 : decode cX7_says 39 = .ok (.sipush 200, 3) := by decide +kernel
theorem dX7_says_42 : decode cX7_says 42 = .ok (.aload_n 0, 1) := by decide +kernel
theorem dX7_says_43 : decode cX7_says 43 = .ok (.getfield 83, 3) := by decide +kernel
theorem dX7_says_46 : decode cX7_says 46 = .ok (.imul, 1) := by decide +kernel
theorem dX7_says_47 : decode cX7_says 47 = .ok (.iload_n 3, 1) := by decide +kernel
theorem dX7_says_48 : decode cX7_says 48 = .ok (.iadd, 1) := by decide +kernel
theorem dX7_says_49 : decode cX7_says 49 = .ok (.iaload, 1) := by decide +kernel
theorem dX7_says_50 : decode cX7_says 50 = .ok (.istore 4, 2) := by decide +kernel
theorem dX7_says_52 : decode cX7_says 52 = .ok (.iload 4, 2) := by decide +kernel
theorem dX7_says_54 : decode cX7_says 54 = .ok (.ldc 135, 2) := by decide +kernel
theorem dX7_says_56 : decode cX7_says 56 = .ok (.if_icmp .ge 10, 3) := by decide +kernel
theorem dX7_says_59 : decode cX7_says 59 = .ok (.iload 4, 2) := by decide +kernel
theorem dX7_says_61 : decode cX7_says 61 = .ok (.bipush 11, 2) := by decide +kernel
theorem dX7_says_63 : decode cX7_says 63 = .ok (.if_icmp .ge 37, 3) := by decide +kernel
theorem dX7_says_66 : decode cX7_says 66 = .ok (.aload_n 0, 1) := by decide +kernel
theorem dX7_says_67 : decode cX7_says 67 = .ok (.getfield 56, 3) := by decide +kernel
theorem dX7_says_70 : decode cX7_says 70 = .ok (.iload_n 2, 1) := by decide +kernel
theorem dX7_says_71 : decode cX7_says 71 = .ok (.iload 4, 2) := by decide +kernel
theorem dX7_says_73 : decode cX7_says 73 = .ok (.bipush 11, 2) := by decide +kernel
theorem dX7_says_75 : decode cX7_says 75 = .ok (.if_icmp .ge 13, 3) := by decide +kernel
theorem dX7_says_78 : decode cX7_says 78 = .ok (.aload_n 0, 1) := by decide +kernel
theorem dX7_says_79 : decode cX7_says 79 = .ok (.getfield 59, 3) := by decide +kernel
theorem dX7_says_82 : decode cX7_says 82 = .ok (.iload 4, 2) := by decide +kernel
theorem dX7_says_84 : decode cX7_says 84 = .ok (.iaload, 1) := by decide +kernel
theorem dX7_says_85 : decode cX7_says 85 = .ok (.goto 8, 3) := by decide +kernel
theorem dX7_says_88 : decode cX7_says 88 = .ok (.iload 4, 2) := by decide +kernel
theorem dX7_says_90 : decode cX7_says 90 = .ok (.ldc 135, 2) := by decide +kernel
theorem dX7_says_92 : decode cX7_says 92 = .ok (.isub, 1) := by decide +kernel
theorem dX7_says_93 : decode cX7_says 93 = .ok (.iastore, 1) := by decide +kernel
theorem dX7_says_94 : decode cX7_says 94 = .ok (.iinc 2 1, 3) := by decide +kernel
theorem dX7_says_97 : decode cX7_says 97 = .ok (.goto 94, 3) := by decide +kernel
theorem dX7_says_100 : decode cX7_says 100 = .ok (.iload 4, 2) := by decide +kernel
theorem dX7_says_102 : decode cX7_says 102 = .ok (.bipush 13, 2) := by decide +kernel
theorem dX7_says_104 : decode cX7_says 104 = .ok (.if_icmp .ne 30, 3) := by decide +kernel
theorem dX7_says_107 : decode cX7_says 107 = .ok (.aload_n 0, 1) := by decide +kernel
theorem dX7_says_108 : decode cX7_says 108 = .ok (.getfield 56, 3) := by decide +kernel
theorem dX7_says_111 : decode cX7_says 111 = .ok (.iload_n 2, 1) := by decide +kernel
theorem dX7_says_112 : decode cX7_says 112 = .ok (.iconst 1, 1) := by decide +kernel
theorem dX7_says_113 : decode cX7_says 113 = .ok (.isub, 1) := by decide +kernel
theorem dX7_says_114 : decode cX7_says 114 = .ok (.aload_n 0, 1) := by decide +kernel
theorem dX7_says_115 : decode cX7_says 115 = .ok (.getfield 56, 3) := by decide +kernel
theorem dX7_says_118 : decode cX7_says 118 = .ok (.iload_n 2, 1) := by decide +kernel
theorem dX7_says_119 : decode cX7_says 119 = .ok (.iconst 1, 1) := by decide +kernel
theorem dX7_says_120 : decode cX7_says 120 = .ok (.isub, 1) := by decide +kernel
theorem dX7_says_121 : decode cX7_says 121 = .ok (.iaload, 1) := by decide +kernel
theorem dX7_says_122 : decode cX7_says 122 = .ok (.ifCond .ne 7, 3) := by decide +kernel
theorem dX7_says_125 : decode cX7_says 125 = .ok (.iconst 1, 1) := by decide +kernel
theorem dX7_says_126 : decode cX7_says 126 = .ok (.goto 4, 3) := by decide +kernel
theorem dX7_says_129 : decode cX7_says 129 = .ok (.iconst 0, 1) := by decide +kernel
theorem dX7_says_130 : decode cX7_says 130 = .ok (.iastore, 1) := by decide +kernel
theorem dX7_says_131 : decode cX7_says 131 = .ok (.goto 60, 3) := by decide +kernel
theorem dX7_says_134 : decode cX7_says 134 = .ok (.iload 4, 2) := by decide +kernel
theorem dX7_says_136 : decode cX7_says 136 = .ok (.bipush 19, 2) := by decide +kernel
theorem dX7_says_138 : decode cX7_says 138 = .ok (.if_icmp .ne 23, 3) := by decide +kernel
theorem dX7_says_141 : decode cX7_says 141 = .ok (.aload_n 0, 1) := by decide +kernel
theorem dX7_says_142 : decode cX7_says 142 = .ok (.getfield 56, 3) := by decide +kernel
theorem dX7_says_145 : decode cX7_says 145 = .ok (.iload_n 2, 1) := by decide +kernel
theorem dX7_says_146 : decode cX7_says 146 = .ok (.iconst 1, 1) := by decide +kernel
theorem dX7_says_147 : decode cX7_says 147 = .ok (.isub, 1) := by decide +kernel
theorem dX7_says_148 : decode cX7_says 148 = .ok (.aload_n 0, 1) := by decide +kernel
theorem dX7_says_149 : decode cX7_says 149 = .ok (.getfield 56, 3) := by decide +kernel
theorem dX7_says_152 : decode cX7_says 152 = .ok (.iload_n 2, 1) := by decide +kernel
theorem dX7_says_153 : decode cX7_says 153 = .ok (.iconst 1, 1) := by decide +kernel
theorem dX7_says_154 : decode cX7_says 154 = .ok (.isub, 1) := by decide +kernel
theorem dX7_says_155 : decode cX7_says 155 = .ok (.iaload, 1) := by decide +kernel
theorem dX7_says_156 : decode cX7_says 156 = .ok (.ineg, 1) := by decide +kernel
theorem dX7_says_157 : decode cX7_says 157 = .ok (.iastore, 1) := by decide +kernel
theorem dX7_says_158 : decode cX7_says 158 = .ok (.goto 33, 3) := by decide +kernel
theorem dX7_says_161 : decode cX7_says 161 = .ok (.iinc 2 (-1), 3) := by decide +kernel
theorem dX7_says_164 : decode cX7_says 164 = .ok (.aload_n 0, 1) := by decide +kernel
theorem dX7_says_165 : decode cX7_says 165 = .ok (.getfield 56, 3) := by decide +kernel
theorem dX7_says_168 : decode cX7_says 168 = .ok (.iload_n 2, 1) := by decide +kernel
theorem dX7_says_169 : decode cX7_says 169 = .ok (.iconst 1, 1) := by decide +kernel
theorem dX7_says_170 : decode cX7_says 170 = .ok (.isub, 1) := by decide +kernel
theorem dX7_says_171 : decode cX7_says 171 = .ok (.iload 4, 2) := by decide +kernel
theorem dX7_says_173 : decode cX7_says 173 = .ok (.aload_n 0, 1) := by decide +kernel
theorem dX7_says_174 : decode cX7_says 174 = .ok (.getfield 56, 3) := by decide +kernel
theorem dX7_says_177 : decode cX7_says 177 = .ok (.iload_n 2, 1) := by decide +kernel
theorem dX7_says_178 : decode cX7_says 178 = .ok (.iconst 1, 1) := by decide +kernel
theorem dX7_says_179 : decode cX7_says 179 = .ok (.isub, 1) := by decide +kernel
theorem dX7_says_180 : decode cX7_says 180 = .ok (.iaload, 1) := by decide +kernel
theorem dX7_says_181 : decode cX7_says 181 = .ok (.aload_n 0, 1) := by decide +kernel
theorem dX7_says_182 : decode cX7_says 182 = .ok (.getfield 56, 3) := by decide +kernel
theorem dX7_says_185 : decode cX7_says 185 = .ok (.iload_n 2, 1) := by decide +kernel
theorem dX7_says_186 : decode cX7_says 186 = .ok (.iaload, 1) := by decide +kernel
theorem dX7_says_187 : decode cX7_says 187 = .ok (.invokestatic 149, 3) := by decide +kernel
theorem dX7_says_190 : decode cX7_says 190 = .ok (.iastore, 1) := by decide +kernel
theorem dX7_says_191 : decode cX7_says 191 = .ok (.iinc 3 1, 3) := by decide +kernel
theorem dX7_says_194 : decode cX7_says 194 = .ok (.goto (-178), 3) := by decide +kernel
theorem dX7_says_197 : decode cX7_says 197 = .ok (.aload_n 0, 1) := by decide +kernel
theorem dX7_says_198 : decode cX7_says 198 = .ok (.getfield 56, 3) := by decide +kernel
theorem dX7_says_201 : decode cX7_says 201 = .ok (.iconst 0, 1) := by decide +kernel
theorem dX7_says_202 : decode cX7_says 202 = .ok (.iaload, 1) := by decide +kernel
theorem dX7_says_203 : decode cX7_says 203 = .ok (.ireturn, 1) := by decide +kernel
theorem dX7_force_0 : decode cX7_force 0 = .ok (.iload_n 1, 1) := by decide +kernel
theorem dX7_force_1 : decode cX7_force 1 = .ok (.iconst 0, 1) := by decide +kernel
theorem dX7_force_2 : decode cX7_force 2 = .ok (.aload_n 0, 1) := by decide +kernel
theorem dX7_force_3 : decode cX7_force 3 = .ok (.getfield 80, 3) := by decide +kernel
theorem dX7_force_6 : decode cX7_force 6 = .ok (.iconst 1, 1) := by decide +kernel
theorem dX7_force_7 : decode cX7_force 7 = .ok (.isub, 1) := by decide +kernel
theorem dX7_force_8 : decode cX7_force 8 = .ok (.invokestatic 75, 3) := by decide +kernel
theorem dX7_force_11 : decode cX7_force 11 = .ok (.ifCond .ne 6, 3) := by decide +kernel
theorem dX7_force_14 : decode cX7_force 14 = .ok (.bipush (-2), 2) := by decide +kernel
theorem dX7_force_16 : decode cX7_force 16 = .ok (.ireturn, 1) := by decide +kernel
theorem dX7_force_17 : decode cX7_force 17 = .ok (.aload_n 0, 1) := by decide +kernel
theorem dX7_force_18 : decode cX7_force 18 = .ok (.getfield 83, 3) := by decide +kernel
theorem dX7_force_21 : decode cX7_force 21 = .ok (.istore_n 2, 1) := by decide +kernel
theorem dX7_force_22 : decode cX7_force 22 = .ok (.aload_n 0, 1) := by decide +kernel
theorem dX7_force_23 : decode cX7_force 23 = .ok (.iload_n 1, 1) := by decide +kernel
theorem dX7_force_24 : decode cX7_force 24 = .ok (.putfield 83, 3) := by decide +kernel
theorem dX7_force_27 : decode cX7_force 27 = .ok (.iload_n 2, 1) := by decide +kernel
theorem dX7_force_28 : decode cX7_force 28 = .ok (.ireturn, 1) := by decide +kernel
theorem dX7_asksOf_0 : decode cX7_asksOf 0 = .ok (.aload_n 0, 1) := by decide +kernel
theorem dX7_asksOf_1 : decode cX7_asksOf 1 = .ok (.getfield 59, 3) := by decide +kernel
theorem dX7_asksOf_4 : decode cX7_asksOf 4 = .ok (.iconst 0, 1) := by decide +kernel
theorem dX7_asksOf_5 : decode cX7_asksOf 5 = .ok (.aload_n 0, 1) := by decide +kernel
theorem dX7_asksOf_6 : decode cX7_asksOf 6 = .ok (.getfield 20, 3) := by decide +kernel
theorem dX7_asksOf_9 : decode cX7_asksOf 9 = .ok (.iload_n 2, 1) := by decide +kernel
theorem dX7_asksOf_10 : decode cX7_asksOf 10 = .ok (.iaload, 1) := by decide +kernel
theorem dX7_asksOf_11 : decode cX7_asksOf 11 = .ok (.iastore, 1) := by decide +kernel
theorem dX7_asksOf_12 : decode cX7_asksOf 12 = .ok (.aload_n 0, 1) := by decide +kernel
theorem dX7_asksOf_13 : decode cX7_asksOf 13 = .ok (.getfield 59, 3) := by decide +kernel
theorem dX7_asksOf_16 : decode cX7_asksOf 16 = .ok (.iconst 1, 1) := by decide +kernel
theorem dX7_asksOf_17 : decode cX7_asksOf 17 = .ok (.iload_n 2, 1) := by decide +kernel
theorem dX7_asksOf_18 : decode cX7_asksOf 18 = .ok (.iastore, 1) := by decide +kernel
theorem dX7_asksOf_19 : decode cX7_asksOf 19 = .ok (.aload_n 0, 1) := by decide +kernel
theorem dX7_asksOf_20 : decode cX7_asksOf 20 = .ok (.getfield 59, 3) := by decide +kernel
theorem dX7_asksOf_23 : decode cX7_asksOf 23 = .ok (.iconst 2, 1) := by decide +kernel
theorem dX7_asksOf_24 : decode cX7_asksOf 24 = .ok (.iload_n 3, 1) := by decide +kernel
theorem dX7_asksOf_25 : decode cX7_asksOf 25 = .ok (.iastore, 1) := by decide +kernel
theorem dX7_asksOf_26 : decode cX7_asksOf 26 = .ok (.aload_n 0, 1) := by decide +kernel
theorem dX7_asksOf_27 : decode cX7_asksOf 27 = .ok (.getfield 59, 3) := by decide +kernel
theorem dX7_asksOf_30 : decode cX7_asksOf 30 = .ok (.iconst 3, 1) := by decide +kernel
theorem dX7_asksOf_31 : decode cX7_asksOf 31 = .ok (.iload 4, 2) := by decide +kernel
theorem dX7_asksOf_33 : decode cX7_asksOf 33 = .ok (.iastore, 1) := by decide +kernel
theorem dX7_asksOf_34 : decode cX7_asksOf 34 = .ok (.aload_n 0, 1) := by decide +kernel
theorem dX7_asksOf_35 : decode cX7_asksOf 35 = .ok (.getfield 59, 3) := by decide +kernel
theorem dX7_asksOf_38 : decode cX7_asksOf 38 = .ok (.iconst 4, 1) := by decide +kernel
theorem dX7_asksOf_39 : decode cX7_asksOf 39 = .ok (.aload_n 0, 1) := by decide +kernel
theorem dX7_asksOf_40 : decode cX7_asksOf 40 = .ok (.getfield 7, 3) := by decide +kernel
theorem dX7_asksOf_43 : decode cX7_asksOf 43 = .ok (.iastore, 1) := by decide +kernel
theorem dX7_asksOf_44 : decode cX7_asksOf 44 = .ok (.aload_n 0, 1) := by decide +kernel
theorem dX7_asksOf_45 : decode cX7_asksOf 45 = .ok (.getfield 59, 3) := by decide +kernel
theorem dX7_asksOf_48 : decode cX7_asksOf 48 = .ok (.iconst 5, 1) := by decide +kernel
theorem dX7_asksOf_49 : decode cX7_asksOf 49 = .ok (.aload_n 0, 1) := by decide +kernel
theorem dX7_asksOf_50 : decode cX7_asksOf 50 = .ok (.getfield 13, 3) := by decide +kernel
theorem dX7_asksOf_53 : decode cX7_asksOf 53 = .ok (.iastore, 1) := by decide +kernel
theorem dX7_asksOf_54 : decode cX7_asksOf 54 = .ok (.aload_n 0, 1) := by decide +kernel
theorem dX7_asksOf_55 : decode cX7_asksOf 55 = .ok (.iload_n 1, 1) := by decide +kernel
theorem dX7_asksOf_56 : decode cX7_asksOf 56 = .ok (.invokevirtual 153, 3) := by decide +kernel
theorem dX7_asksOf_59 : decode cX7_asksOf 59 = .ok (.iconst 0, 1) := by decide +kernel
theorem dX7_asksOf_60 : decode cX7_asksOf 60 = .ok (.iload_n 1, 1) := by decide +kernel
theorem dX7_asksOf_61 : decode cX7_asksOf 61 = .ok (.iconst 1, 1) := by decide +kernel
theorem dX7_asksOf_62 : decode cX7_asksOf 62 = .ok (.if_icmp .ne 8, 3) := by decide +kernel
theorem dX7_asksOf_65 : decode cX7_asksOf 65 = .ok (.bipush 100, 2) := by decide +kernel
theorem dX7_asksOf_67 : decode cX7_asksOf 67 = .ok (.goto 5, 3) := by decide +kernel
theorem dX7_asksOf_70 : decode cX7_asksOf 70 = .ok (.ldc 79, 2) := by decide +kernel
theorem dX7_asksOf_72 : decode cX7_asksOf 72 = .ok (.invokestatic 156, 3) := by decide +kernel
theorem dX7_asksOf_75 : decode cX7_asksOf 75 = .ok (.ireturn, 1) := by decide +kernel
theorem dX7_asks_0 : decode cX7_asks 0 = .ok (.iload_n 1, 1) := by decide +kernel
theorem dX7_asks_1 : decode cX7_asks 1 = .ok (.iconst 0, 1) := by decide +kernel
theorem dX7_asks_2 : decode cX7_asks 2 = .ok (.iconst 2, 1) := by decide +kernel
theorem dX7_asks_3 : decode cX7_asks 3 = .ok (.invokestatic 75, 3) := by decide +kernel
theorem dX7_asks_6 : decode cX7_asks 6 = .ok (.ifCond .eq 38, 3) := by decide +kernel
theorem dX7_asks_9 : decode cX7_asks 9 = .ok (.aload_n 0, 1) := by decide +kernel
theorem dX7_asks_10 : decode cX7_asks 10 = .ok (.iload_n 2, 1) := by decide +kernel
theorem dX7_asks_11 : decode cX7_asks 11 = .ok (.invokevirtual 159, 3) := by decide +kernel
theorem dX7_asks_14 : decode cX7_asks 14 = .ok (.ifCond .eq 30, 3) := by decide +kernel
theorem dX7_asks_17 : decode cX7_asks 17 = .ok (.iload_n 3, 1) := by decide +kernel
theorem dX7_asks_18 : decode cX7_asks 18 = .ok (.invokestatic 162, 3) := by decide +kernel
theorem dX7_asks_21 : decode cX7_asks 21 = .ok (.ifCond .eq 23, 3) := by decide +kernel
theorem dX7_asks_24 : decode cX7_asks 24 = .ok (.iload 4, 2) := by decide +kernel
theorem dX7_asks_26 : decode cX7_asks 26 = .ok (.invokestatic 162, 3) := by decide +kernel
theorem dX7_asks_29 : decode cX7_asks 29 = .ok (.ifCond .eq 15, 3) := by decide +kernel
theorem dX7_asks_32 : decode cX7_asks 32 = .ok (.aload_n 0, 1) := by decide +kernel
theorem dX7_asks_33 : decode cX7_asks 33 = .ok (.iload_n 1, 1) := by decide +kernel
theorem dX7_asks_34 : decode cX7_asks 34 = .ok (.iload_n 2, 1) := by decide +kernel
theorem dX7_asks_35 : decode cX7_asks 35 = .ok (.iload_n 3, 1) := by decide +kernel
theorem dX7_asks_36 : decode cX7_asks 36 = .ok (.iload 4, 2) := by decide +kernel
theorem dX7_asks_38 : decode cX7_asks 38 = .ok (.invokevirtual 165, 3) := by decide +kernel
theorem dX7_asks_41 : decode cX7_asks 41 = .ok (.goto 5, 3) := by decide +kernel
theorem dX7_asks_44 : decode cX7_asks 44 = .ok (.bipush (-2), 2) := by decide +kernel
theorem dX7_asks_46 : decode cX7_asks 46 = .ok (.ireturn, 1) := by decide +kernel
theorem dX7_clerk_0 : decode cX7_clerk 0 = .ok (.iload_n 1, 1) := by decide +kernel
theorem dX7_clerk_1 : decode cX7_clerk 1 = .ok (.iconst 0, 1) := by decide +kernel
theorem dX7_clerk_2 : decode cX7_clerk 2 = .ok (.iconst 5, 1) := by decide +kernel
theorem dX7_clerk_3 : decode cX7_clerk 3 = .ok (.invokestatic 75, 3) := by decide +kernel
theorem dX7_clerk_6 : decode cX7_clerk 6 = .ok (.ifCond .eq 13, 3) := by decide +kernel
theorem dX7_clerk_9 : decode cX7_clerk 9 = .ok (.iload_n 2, 1) := by decide +kernel
theorem dX7_clerk_10 : decode cX7_clerk 10 = .ok (.iconst 0, 1) := by decide +kernel
theorem dX7_clerk_11 : decode cX7_clerk 11 = .ok (.bipush 9, 2) := by decide +kernel
theorem dX7_clerk_13 : decode cX7_clerk 13 = .ok (.invokestatic 75, 3) := by decide +kernel
theorem dX7_clerk_16 : decode cX7_clerk 16 = .ok (.ifCond .ne 6, 3) := by decide +kernel
theorem dX7_clerk_19 : decode cX7_clerk 19 = .ok (.bipush (-2), 2) := by decide +kernel
theorem dX7_clerk_21 : decode cX7_clerk 21 = .ok (.ireturn, 1) := by decide +kernel
theorem dX7_clerk_22 : decode cX7_clerk 22 = .ok (.aload_n 0, 1) := by decide +kernel
theorem dX7_clerk_23 : decode cX7_clerk 23 = .ok (.getfield 72, 3) := by decide +kernel
theorem dX7_clerk_26 : decode cX7_clerk 26 = .ok (.iconst 5, 1) := by decide +kernel
theorem dX7_clerk_27 : decode cX7_clerk 27 = .ok (.if_icmp .ne 6, 3) := by decide +kernel
theorem dX7_clerk_30 : decode cX7_clerk 30 = .ok (.bipush (-4), 2) := by decide +kernel
theorem dX7_clerk_32 : decode cX7_clerk 32 = .ok (.ireturn, 1) := by decide +kernel
theorem dX7_clerk_33 : decode cX7_clerk 33 = .ok (.aload_n 0, 1) := by decide +kernel
theorem dX7_clerk_34 : decode cX7_clerk 34 = .ok (.getfield 16, 3) := by decide +kernel
theorem dX7_clerk_37 : decode cX7_clerk 37 = .ok (.aload_n 0, 1) := by decide +kernel
theorem dX7_clerk_38 : decode cX7_clerk 38 = .ok (.getfield 72, 3) := by decide +kernel
theorem dX7_clerk_41 : decode cX7_clerk 41 = .ok (.iload_n 1, 1) := by decide +kernel
theorem dX7_clerk_42 : decode cX7_clerk 42 = .ok (.iastore, 1) := by decide +kernel
theorem dX7_clerk_43 : decode cX7_clerk 43 = .ok (.aload_n 0, 1) := by decide +kernel
theorem dX7_clerk_44 : decode cX7_clerk 44 = .ok (.getfield 20, 3) := by decide +kernel
theorem dX7_clerk_47 : decode cX7_clerk 47 = .ok (.aload_n 0, 1) := by decide +kernel
theorem dX7_clerk_48 : decode cX7_clerk 48 = .ok (.getfield 72, 3) := by decide +kernel
theorem dX7_clerk_51 : decode cX7_clerk 51 = .ok (.iload_n 2, 1) := by decide +kernel
theorem dX7_clerk_52 : decode cX7_clerk 52 = .ok (.iastore, 1) := by decide +kernel
theorem dX7_clerk_53 : decode cX7_clerk 53 = .ok (.aload_n 0, 1) := by decide +kernel
theorem dX7_clerk_54 : decode cX7_clerk 54 = .ok (.dup, 1) := by decide +kernel
theorem dX7_clerk_55 : decode cX7_clerk 55 = .ok (.getfield 72, 3) := by decide +kernel
theorem dX7_clerk_58 : decode cX7_clerk 58 = .ok (.iconst 1, 1) := by decide +kernel
theorem dX7_clerk_59 : decode cX7_clerk 59 = .ok (.iadd, 1) := by decide +kernel
theorem dX7_clerk_60 : decode cX7_clerk 60 = .ok (.putfield 72, 3) := by decide +kernel
theorem dX7_clerk_63 : decode cX7_clerk 63 = .ok (.aload_n 0, 1) := by decide +kernel
theorem dX7_clerk_64 : decode cX7_clerk 64 = .ok (.getfield 72, 3) := by decide +kernel
theorem dX7_clerk_67 : decode cX7_clerk 67 = .ok (.iconst 1, 1) := by decide +kernel
theorem dX7_clerk_68 : decode cX7_clerk 68 = .ok (.isub, 1) := by decide +kernel
theorem dX7_clerk_69 : decode cX7_clerk 69 = .ok (.ireturn, 1) := by decide +kernel
theorem dX7_figuresOf_0 : decode cX7_figuresOf 0 = .ok (.aload_n 0, 1) := by decide +kernel
theorem dX7_figuresOf_1 : decode cX7_figuresOf 1 = .ok (.getfield 16, 3) := by decide +kernel
theorem dX7_figuresOf_4 : decode cX7_figuresOf 4 = .ok (.iload_n 1, 1) := by decide +kernel
theorem dX7_figuresOf_5 : decode cX7_figuresOf 5 = .ok (.iaload, 1) := by decide +kernel
theorem dX7_figuresOf_6 : decode cX7_figuresOf 6 = .ok (.iconst 3, 1) := by decide +kernel
theorem dX7_figuresOf_7 : decode cX7_figuresOf 7 = .ok (.if_icmp .ne 19, 3) := by decide +kernel
theorem dX7_figuresOf_10 : decode cX7_figuresOf 10 = .ok (.aload_n 0, 1) := by decide +kernel
theorem dX7_figuresOf_11 : decode cX7_figuresOf 11 = .ok (.getfield 7, 3) := by decide +kernel
theorem dX7_figuresOf_14 : decode cX7_figuresOf 14 = .ok (.aload_n 0, 1) := by decide +kernel
theorem dX7_figuresOf_15 : decode cX7_figuresOf 15 = .ok (.getfield 20, 3) := by decide +kernel
theorem dX7_figuresOf_18 : decode cX7_figuresOf 18 = .ok (.iload_n 1, 1) := by decide +kernel
theorem dX7_figuresOf_19 : decode cX7_figuresOf 19 = .ok (.iaload, 1) := by decide +kernel
theorem dX7_figuresOf_20 : decode cX7_figuresOf 20 = .ok (.iconst 3, 1) := by decide +kernel
theorem dX7_figuresOf_21 : decode cX7_figuresOf 21 = .ok (.idiv, 1) := by decide +kernel
theorem dX7_figuresOf_22 : decode cX7_figuresOf 22 = .ok (.isub, 1) := by decide +kernel
theorem dX7_figuresOf_23 : decode cX7_figuresOf 23 = .ok (.goto 26, 3) := by decide +kernel
theorem dX7_figuresOf_26 : decode cX7_figuresOf 26 = .ok (.aload_n 0, 1) := by decide +kernel
theorem dX7_figuresOf_27 : decode cX7_figuresOf 27 = .ok (.getfield 16, 3) := by decide +kernel
theorem dX7_figuresOf_30 : decode cX7_figuresOf 30 = .ok (.iload_n 1, 1) := by decide +kernel
theorem dX7_figuresOf_31 : decode cX7_figuresOf 31 = .ok (.iaload, 1) := by decide +kernel
theorem dX7_figuresOf_32 : decode cX7_figuresOf 32 = .ok (.iconst 5, 1) := by decide +kernel
theorem dX7_figuresOf_33 : decode cX7_figuresOf 33 = .ok (.if_icmp .ne 12, 3) := by decide +kernel
theorem dX7_figuresOf_36 : decode cX7_figuresOf 36 = .ok (.aload_n 0, 1) := by decide +kernel
theorem dX7_figuresOf_37 : decode cX7_figuresOf 37 = .ok (.getfield 7, 3) := by decide +kernel
theorem dX7_figuresOf_40 : decode cX7_figuresOf 40 = .ok (.iconst 1, 1) := by decide +kernel
theorem dX7_figuresOf_41 : decode cX7_figuresOf 41 = .ok (.isub, 1) := by decide +kernel
theorem dX7_figuresOf_42 : decode cX7_figuresOf 42 = .ok (.goto 7, 3) := by decide +kernel
theorem dX7_figuresOf_45 : decode cX7_figuresOf 45 = .ok (.aload_n 0, 1) := by decide +kernel
theorem dX7_figuresOf_46 : decode cX7_figuresOf 46 = .ok (.getfield 7, 3) := by decide +kernel
theorem dX7_figuresOf_49 : decode cX7_figuresOf 49 = .ok (.istore_n 2, 1) := by decide +kernel
theorem dX7_figuresOf_50 : decode cX7_figuresOf 50 = .ok (.iload_n 2, 1) := by decide +kernel
theorem dX7_figuresOf_51 : decode cX7_figuresOf 51 = .ok (.iconst 2, 1) := by decide +kernel
theorem dX7_figuresOf_52 : decode cX7_figuresOf 52 = .ok (.if_icmp .ge 7, 3) := by decide +kernel
theorem dX7_figuresOf_55 : decode cX7_figuresOf 55 = .ok (.iconst 2, 1) := by decide +kernel
theorem dX7_figuresOf_56 : decode cX7_figuresOf 56 = .ok (.goto 4, 3) := by decide +kernel
theorem dX7_figuresOf_59 : decode cX7_figuresOf 59 = .ok (.iload_n 2, 1) := by decide +kernel
theorem dX7_figuresOf_60 : decode cX7_figuresOf 60 = .ok (.ireturn, 1) := by decide +kernel
theorem dX7_isTurned_0 : decode cX7_isTurned 0 = .ok (.aload_n 0, 1) := by decide +kernel
theorem dX7_isTurned_1 : decode cX7_isTurned 1 = .ok (.getfield 16, 3) := by decide +kernel
theorem dX7_isTurned_4 : decode cX7_isTurned 4 = .ok (.iload_n 1, 1) := by decide +kernel
theorem dX7_isTurned_5 : decode cX7_isTurned 5 = .ok (.iaload, 1) := by decide +kernel
theorem dX7_isTurned_6 : decode cX7_isTurned 6 = .ok (.iconst 1, 1) := by decide +kernel
theorem dX7_isTurned_7 : decode cX7_isTurned 7 = .ok (.if_icmp .eq 13, 3) := by decide +kernel
theorem dX7_isTurned_10 : decode cX7_isTurned 10 = .ok (.aload_n 0, 1) := by decide +kernel
theorem dX7_isTurned_11 : decode cX7_isTurned 11 = .ok (.getfield 16, 3) := by decide +kernel
theorem dX7_isTurned_14 : decode cX7_isTurned 14 = .ok (.iload_n 1, 1) := by decide +kernel
theorem dX7_isTurned_15 : decode cX7_isTurned 15 = .ok (.iaload, 1) := by decide +kernel
theorem dX7_isTurned_16 : decode cX7_isTurned 16 = .ok (.iconst 3, 1) := by decide +kernel
theorem dX7_isTurned_17 : decode cX7_isTurned 17 = .ok (.if_icmp .ne 7, 3) := by decide +kernel
theorem dX7_isTurned_20 : decode cX7_isTurned 20 = .ok (.iconst 1, 1) := by decide +kernel
theorem dX7_isTurned_21 : decode cX7_isTurned 21 = .ok (.goto 4, 3) := by decide +kernel
theorem dX7_isTurned_24 : decode cX7_isTurned 24 = .ok (.iconst 0, 1) := by decide +kernel
theorem dX7_isTurned_25 : decode cX7_isTurned 25 = .ok (.ireturn, 1) := by decide +kernel
theorem dX7_makesOf_0 : decode cX7_makesOf 0 = .ok (.aload_n 0, 1) := by decide +kernel
theorem dX7_makesOf_1 : decode cX7_makesOf 1 = .ok (.getfield 16, 3) := by decide +kernel
theorem dX7_makesOf_4 : decode cX7_makesOf 4 = .ok (.iload_n 1, 1) := by decide +kernel
theorem dX7_makesOf_5 : decode cX7_makesOf 5 = .ok (.iaload, 1) := by decide +kernel
theorem dX7_makesOf_6 : decode cX7_makesOf 6 = .ok (.iconst 5, 1) := by decide +kernel
theorem dX7_makesOf_7 : decode cX7_makesOf 7 = .ok (.if_icmp .ne 5, 3) := by decide +kernel
theorem dX7_makesOf_10 : decode cX7_makesOf 10 = .ok (.iload_n 2, 1) := by decide +kernel
theorem dX7_makesOf_11 : decode cX7_makesOf 11 = .ok (.ireturn, 1) := by decide +kernel
theorem dX7_makesOf_12 : decode cX7_makesOf 12 = .ok (.iload_n 2, 1) := by decide +kernel
theorem dX7_makesOf_13 : decode cX7_makesOf 13 = .ok (.ifCond .ne 14, 3) := by decide +kernel
theorem dX7_makesOf_16 : decode cX7_makesOf 16 = .ok (.aload_n 0, 1) := by decide +kernel
theorem dX7_makesOf_17 : decode cX7_makesOf 17 = .ok (.iconst 0, 1) := by decide +kernel
theorem dX7_makesOf_18 : decode cX7_makesOf 18 = .ok (.iload_n 1, 1) := by decide +kernel
theorem dX7_makesOf_19 : decode cX7_makesOf 19 = .ok (.iconst 0, 1) := by decide +kernel
theorem dX7_makesOf_20 : decode cX7_makesOf 20 = .ok (.iconst 0, 1) := by decide +kernel
theorem dX7_makesOf_21 : decode cX7_makesOf 21 = .ok (.invokevirtual 165, 3) := by decide +kernel
theorem dX7_makesOf_24 : decode cX7_makesOf 24 = .ok (.goto 4, 3) := by decide +kernel
theorem dX7_makesOf_27 : decode cX7_makesOf 27 = .ok (.iload_n 2, 1) := by decide +kernel
theorem dX7_makesOf_28 : decode cX7_makesOf 28 = .ok (.istore_n 3, 1) := by decide +kernel
theorem dX7_makesOf_29 : decode cX7_makesOf 29 = .ok (.iload_n 3, 1) := by decide +kernel
theorem dX7_makesOf_30 : decode cX7_makesOf 30 = .ok (.aload_n 0, 1) := by decide +kernel
theorem dX7_makesOf_31 : decode cX7_makesOf 31 = .ok (.getfield 16, 3) := by decide +kernel
theorem dX7_makesOf_34 : decode cX7_makesOf 34 = .ok (.iload_n 1, 1) := by decide +kernel
theorem dX7_makesOf_35 : decode cX7_makesOf 35 = .ok (.iaload, 1) := by decide +kernel
theorem dX7_makesOf_36 : decode cX7_makesOf 36 = .ok (.iconst 2, 1) := by decide +kernel
theorem dX7_makesOf_37 : decode cX7_makesOf 37 = .ok (.if_icmp .eq 13, 3) := by decide +kernel
theorem dX7_makesOf_40 : decode cX7_makesOf 40 = .ok (.aload_n 0, 1) := by decide +kernel
theorem dX7_makesOf_41 : decode cX7_makesOf 41 = .ok (.getfield 16, 3) := by decide +kernel
theorem dX7_makesOf_44 : decode cX7_makesOf 44 = .ok (.iload_n 1, 1) := by decide +kernel
theorem dX7_makesOf_45 : decode cX7_makesOf 45 = .ok (.iaload, 1) := by decide +kernel
theorem dX7_makesOf_46 : decode cX7_makesOf 46 = .ok (.iconst 4, 1) := by decide +kernel
theorem dX7_makesOf_47 : decode cX7_makesOf 47 = .ok (.if_icmp .ne 18, 3) := by decide +kernel
theorem dX7_makesOf_50 : decode cX7_makesOf 50 = .ok (.iload_n 2, 1) := by decide +kernel
theorem dX7_makesOf_51 : decode cX7_makesOf 51 = .ok (.bipush 10, 2) := by decide +kernel
theorem dX7_makesOf_53 : decode cX7_makesOf 53 = .ok (.irem, 1) := by decide +kernel
theorem dX7_makesOf_54 : decode cX7_makesOf 54 = .ok (.ifCond .ne 7, 3) := by decide +kernel
theorem dX7_makesOf_57 : decode cX7_makesOf 57 = .ok (.iconst 1, 1) := by decide +kernel
theorem dX7_makesOf_58 : decode cX7_makesOf 58 = .ok (.goto 8, 3) := by decide +kernel
theorem dX7_makesOf_61 : decode cX7_makesOf 61 = .ok (.iconst 0, 1) := by decide +kernel
theorem dX7_makesOf_62 : decode cX7_makesOf 62 = .ok (.goto 4, 3) := by decide +kernel
theorem dX7_makesOf_65 : decode cX7_makesOf 65 = .ok (.iconst 0, 1) := by decide +kernel
theorem dX7_makesOf_66 : decode cX7_makesOf 66 = .ok (.iadd, 1) := by decide +kernel
theorem dX7_makesOf_67 : decode cX7_makesOf 67 = .ok (.istore_n 3, 1) := by decide +kernel
theorem dX7_makesOf_68 : decode cX7_makesOf 68 = .ok (.aload_n 0, 1) := by decide +kernel
theorem dX7_makesOf_69 : decode cX7_makesOf 69 = .ok (.getfield 16, 3) := by decide +kernel
theorem dX7_makesOf_72 : decode cX7_makesOf 72 = .ok (.iload_n 1, 1) := by decide +kernel
theorem dX7_makesOf_73 : decode cX7_makesOf 73 = .ok (.iaload, 1) := by decide +kernel
theorem dX7_makesOf_74 : decode cX7_makesOf 74 = .ok (.iconst 4, 1) := by decide +kernel
theorem dX7_makesOf_75 : decode cX7_makesOf 75 = .ok (.if_icmp .ne 14, 3) := by decide +kernel
theorem dX7_makesOf_78 : decode cX7_makesOf 78 = .ok (.iload_n 3, 1) := by decide +kernel
theorem dX7_makesOf_79 : decode cX7_makesOf 79 = .ok (.aload_n 0, 1) := by decide +kernel
theorem dX7_makesOf_80 : decode cX7_makesOf 80 = .ok (.getfield 20, 3) := by decide +kernel
theorem dX7_makesOf_83 : decode cX7_makesOf 83 = .ok (.iload_n 1, 1) := by decide +kernel
theorem dX7_makesOf_84 : decode cX7_makesOf 84 = .ok (.iaload, 1) := by decide +kernel
theorem dX7_makesOf_85 : decode cX7_makesOf 85 = .ok (.iadd, 1) := by decide +kernel
theorem dX7_makesOf_86 : decode cX7_makesOf 86 = .ok (.goto 4, 3) := by decide +kernel
theorem dX7_makesOf_89 : decode cX7_makesOf 89 = .ok (.iload_n 3, 1) := by decide +kernel
theorem dX7_makesOf_90 : decode cX7_makesOf 90 = .ok (.ireturn, 1) := by decide +kernel
theorem dX7_told_0 : decode cX7_told 0 = .ok (.aload_n 0, 1) := by decide +kernel
theorem dX7_told_1 : decode cX7_told 1 = .ok (.iload_n 1, 1) := by decide +kernel
theorem dX7_told_2 : decode cX7_told 2 = .ok (.invokevirtual 159, 3) := by decide +kernel
theorem dX7_told_5 : decode cX7_told 5 = .ok (.ifCond .ne 6, 3) := by decide +kernel
theorem dX7_told_8 : decode cX7_told 8 = .ok (.bipush (-5), 2) := by decide +kernel
theorem dX7_told_10 : decode cX7_told 10 = .ok (.ireturn, 1) := by decide +kernel
theorem dX7_told_11 : decode cX7_told 11 = .ok (.iload_n 2, 1) := by decide +kernel
theorem dX7_told_12 : decode cX7_told 12 = .ok (.tableswitch 66 0 3 #[32, 39, 46, 52], 32) := by decide +kernel
theorem dX7_told_44 : decode cX7_told 44 = .ok (.aload_n 0, 1) := by decide +kernel
theorem dX7_told_45 : decode cX7_told 45 = .ok (.getfield 16, 3) := by decide +kernel
theorem dX7_told_48 : decode cX7_told 48 = .ok (.iload_n 1, 1) := by decide +kernel
theorem dX7_told_49 : decode cX7_told 49 = .ok (.iaload, 1) := by decide +kernel
theorem dX7_told_50 : decode cX7_told 50 = .ok (.ireturn, 1) := by decide +kernel
theorem dX7_told_51 : decode cX7_told 51 = .ok (.aload_n 0, 1) := by decide +kernel
theorem dX7_told_52 : decode cX7_told 52 = .ok (.getfield 20, 3) := by decide +kernel
theorem dX7_told_55 : decode cX7_told 55 = .ok (.iload_n 1, 1) := by decide +kernel
theorem dX7_told_56 : decode cX7_told 56 = .ok (.iaload, 1) := by decide +kernel
theorem dX7_told_57 : decode cX7_told 57 = .ok (.ireturn, 1) := by decide +kernel
theorem dX7_told_58 : decode cX7_told 58 = .ok (.aload_n 0, 1) := by decide +kernel
theorem dX7_told_59 : decode cX7_told 59 = .ok (.iload_n 1, 1) := by decide +kernel
theorem dX7_told_60 : decode cX7_told 60 = .ok (.invokevirtual 169, 3) := by decide +kernel
theorem dX7_told_63 : decode cX7_told 63 = .ok (.ireturn, 1) := by decide +kernel
theorem dX7_told_64 : decode cX7_told 64 = .ok (.aload_n 0, 1) := by decide +kernel
theorem dX7_told_65 : decode cX7_told 65 = .ok (.iload_n 1, 1) := by decide +kernel
theorem dX7_told_66 : decode cX7_told 66 = .ok (.invokevirtual 172, 3) := by decide +kernel
theorem dX7_told_69 : decode cX7_told 69 = .ok (.ifCond .eq 7, 3) := by decide +kernel
theorem dX7_told_72 : decode cX7_told 72 = .ok (.iconst 1, 1) := by decide +kernel
theorem dX7_told_73 : decode cX7_told 73 = .ok (.goto 4, 3) := by decide +kernel
theorem dX7_told_76 : decode cX7_told 76 = .ok (.iconst 0, 1) := by decide +kernel
theorem dX7_told_77 : decode cX7_told 77 = .ok (.ireturn, 1) := by decide +kernel
theorem dX7_told_78 : decode cX7_told 78 = .ok (.bipush (-7), 2) := by decide +kernel
theorem dX7_told_80 : decode cX7_told 80 = .ok (.ireturn, 1) := by decide +kernel
theorem dX7_turnsFigures_0 : decode cX7_turnsFigures 0 = .ok (.iconst 0, 1) := by decide +kernel
theorem dX7_turnsFigures_1 : decode cX7_turnsFigures 1 = .ok (.istore_n 1, 1) := by decide +kernel
theorem dX7_turnsFigures_2 : decode cX7_turnsFigures 2 = .ok (.iload_n 1, 1) := by decide +kernel
theorem dX7_turnsFigures_3 : decode cX7_turnsFigures 3 = .ok (.aload_n 0, 1) := by decide +kernel
theorem dX7_turnsFigures_4 : decode cX7_turnsFigures 4 = .ok (.getfield 175, 3) := by decide +kernel
theorem dX7_turnsFigures_7 : decode cX7_turnsFigures 7 = .ok (.iconst 2, 1) := by decide +kernel
theorem dX7_turnsFigures_8 : decode cX7_turnsFigures 8 = .ok (.idiv, 1) := by decide +kernel
theorem dX7_turnsFigures_9 : decode cX7_turnsFigures 9 = .ok (.if_icmp .ge 49, 3) := by decide +kernel
theorem dX7_turnsFigures_12 : decode cX7_turnsFigures 12 = .ok (.aload_n 0, 1) := by decide +kernel
theorem dX7_turnsFigures_13 : decode cX7_turnsFigures 13 = .ok (.getfield 62, 3) := by decide +kernel
theorem dX7_turnsFigures_16 : decode cX7_turnsFigures 16 = .ok (.iload_n 1, 1) := by decide +kernel
theorem dX7_turnsFigures_17 : decode cX7_turnsFigures 17 = .ok (.iaload, 1) := by decide +kernel
theorem dX7_turnsFigures_18 : decode cX7_turnsFigures 18 = .ok (.istore_n 2, 1) := by decide +kernel
theorem dX7_turnsFigures_19 : decode cX7_turnsFigures 19 = .ok (.aload_n 0, 1) := by decide +kernel
theorem dX7_turnsFigures_20 : decode cX7_turnsFigures 20 = .ok (.getfield 62, 3) := by decide +kernel
theorem dX7_turnsFigures_23 : decode cX7_turnsFigures 23 = .ok (.iload_n 1, 1) := by decide +kernel
theorem dX7_turnsFigures_24 : decode cX7_turnsFigures 24 = .ok (.aload_n 0, 1) := by decide +kernel
theorem dX7_turnsFigures_25 : decode cX7_turnsFigures 25 = .ok (.getfield 62, 3) := by decide +kernel
theorem dX7_turnsFigures_28 : decode cX7_turnsFigures 28 = .ok (.aload_n 0, 1) := by decide +kernel
theorem dX7_turnsFigures_29 : decode cX7_turnsFigures 29 = .ok (.getfield 175, 3) := by decide +kernel
theorem dX7_turnsFigures_32 : decode cX7_turnsFigures 32 = .ok (.iconst 1, 1) := by decide +kernel
theorem dX7_turnsFigures_33 : decode cX7_turnsFigures 33 = .ok (.isub, 1) := by decide +kernel
theorem dX7_turnsFigures_34 : decode cX7_turnsFigures 34 = .ok (.iload_n 1, 1) := by decide +kernel
theorem dX7_turnsFigures_35 : decode cX7_turnsFigures 35 = .ok (.isub, 1) := by decide +kernel
theorem dX7_turnsFigures_36 : decode cX7_turnsFigures 36 = .ok (.iaload, 1) := by decide +kernel
theorem dX7_turnsFigures_37 : decode cX7_turnsFigures 37 = .ok (.iastore, 1) := by decide +kernel
theorem dX7_turnsFigures_38 : decode cX7_turnsFigures 38 = .ok (.aload_n 0, 1) := by decide +kernel
theorem dX7_turnsFigures_39 : decode cX7_turnsFigures 39 = .ok (.getfield 62, 3) := by decide +kernel
theorem dX7_turnsFigures_42 : decode cX7_turnsFigures 42 = .ok (.aload_n 0, 1) := by decide +kernel
theorem dX7_turnsFigures_43 : decode cX7_turnsFigures 43 = .ok (.getfield 175, 3) := by decide +kernel
theorem dX7_turnsFigures_46 : decode cX7_turnsFigures 46 = .ok (.iconst 1, 1) := by decide +kernel
theorem dX7_turnsFigures_47 : decode cX7_turnsFigures 47 = .ok (.isub, 1) := by decide +kernel
theorem dX7_turnsFigures_48 : decode cX7_turnsFigures 48 = .ok (.iload_n 1, 1) := by decide +kernel
theorem dX7_turnsFigures_49 : decode cX7_turnsFigures 49 = .ok (.isub, 1) := by decide +kernel
theorem dX7_turnsFigures_50 : decode cX7_turnsFigures 50 = .ok (.iload_n 2, 1) := by decide +kernel
theorem dX7_turnsFigures_51 : decode cX7_turnsFigures 51 = .ok (.iastore, 1) := by decide +kernel
theorem dX7_turnsFigures_52 : decode cX7_turnsFigures 52 = .ok (.iinc 1 1, 3) := by decide +kernel
theorem dX7_turnsFigures_55 : decode cX7_turnsFigures 55 = .ok (.goto (-53), 3) := by decide +kernel
theorem dX7_turnsFigures_58 : decode cX7_turnsFigures 58 = .ok (.return_, 1) := by decide +kernel
theorem dX7_writes_0 : decode cX7_writes 0 = .ok (.aload_n 0, 1) := by decide +kernel
theorem dX7_writes_1 : decode cX7_writes 1 = .ok (.iload_n 1, 1) := by decide +kernel
theorem dX7_writes_2 : decode cX7_writes 2 = .ok (.invokevirtual 169, 3) := by decide +kernel
theorem dX7_writes_5 : decode cX7_writes 5 = .ok (.istore_n 3, 1) := by decide +kernel
theorem dX7_writes_6 : decode cX7_writes 6 = .ok (.aload_n 0, 1) := by decide +kernel
theorem dX7_writes_7 : decode cX7_writes 7 = .ok (.iload_n 1, 1) := by decide +kernel
theorem dX7_writes_8 : decode cX7_writes 8 = .ok (.iload_n 2, 1) := by decide +kernel
theorem dX7_writes_9 : decode cX7_writes 9 = .ok (.invokevirtual 178, 3) := by decide +kernel
theorem dX7_writes_12 : decode cX7_writes 12 = .ok (.istore 4, 2) := by decide +kernel
theorem dX7_writes_14 : decode cX7_writes 14 = .ok (.aload_n 0, 1) := by decide +kernel
theorem dX7_writes_15 : decode cX7_writes 15 = .ok (.iconst 0, 1) := by decide +kernel
theorem dX7_writes_16 : decode cX7_writes 16 = .ok (.putfield 175, 3) := by decide +kernel
theorem dX7_writes_19 : decode cX7_writes 19 = .ok (.iload 4, 2) := by decide +kernel
theorem dX7_writes_21 : decode cX7_writes 21 = .ok (.ifCond .le 46, 3) := by decide +kernel
theorem dX7_writes_24 : decode cX7_writes 24 = .ok (.iload 4, 2) := by decide +kernel
theorem dX7_writes_26 : decode cX7_writes 26 = .ok (.iconst 1, 1) := by decide +kernel
theorem dX7_writes_27 : decode cX7_writes 27 = .ok (.isub, 1) := by decide +kernel
theorem dX7_writes_28 : decode cX7_writes 28 = .ok (.iload_n 3, 1) := by decide +kernel
theorem dX7_writes_29 : decode cX7_writes 29 = .ok (.irem, 1) := by decide +kernel
theorem dX7_writes_30 : decode cX7_writes 30 = .ok (.iconst 1, 1) := by decide +kernel
theorem dX7_writes_31 : decode cX7_writes 31 = .ok (.iadd, 1) := by decide +kernel
theorem dX7_writes_32 : decode cX7_writes 32 = .ok (.istore 5, 2) := by decide +kernel
theorem dX7_writes_34 : decode cX7_writes 34 = .ok (.aload_n 0, 1) := by decide +kernel
theorem dX7_writes_35 : decode cX7_writes 35 = .ok (.getfield 62, 3) := by decide +kernel
theorem dX7_writes_38 : decode cX7_writes 38 = .ok (.aload_n 0, 1) := by decide +kernel
theorem dX7_writes_39 : decode cX7_writes 39 = .ok (.getfield 175, 3) := by decide +kernel
theorem dX7_writes_42 : decode cX7_writes 42 = .ok (.iload 5, 2) := by decide +kernel
theorem dX7_writes_44 : decode cX7_writes 44 = .ok (.iastore, 1) := by decide +kernel
theorem dX7_writes_45 : decode cX7_writes 45 = .ok (.aload_n 0, 1) := by decide +kernel
theorem dX7_writes_46 : decode cX7_writes 46 = .ok (.dup, 1) := by decide +kernel
theorem dX7_writes_47 : decode cX7_writes 47 = .ok (.getfield 175, 3) := by decide +kernel
theorem dX7_writes_50 : decode cX7_writes 50 = .ok (.iconst 1, 1) := by decide +kernel
theorem dX7_writes_51 : decode cX7_writes 51 = .ok (.iadd, 1) := by decide +kernel
theorem dX7_writes_52 : decode cX7_writes 52 = .ok (.putfield 175, 3) := by decide +kernel
theorem dX7_writes_55 : decode cX7_writes 55 = .ok (.iload 4, 2) := by decide +kernel
theorem dX7_writes_57 : decode cX7_writes 57 = .ok (.iload 5, 2) := by decide +kernel
theorem dX7_writes_59 : decode cX7_writes 59 = .ok (.isub, 1) := by decide +kernel
theorem dX7_writes_60 : decode cX7_writes 60 = .ok (.iload_n 3, 1) := by decide +kernel
theorem dX7_writes_61 : decode cX7_writes 61 = .ok (.idiv, 1) := by decide +kernel
theorem dX7_writes_62 : decode cX7_writes 62 = .ok (.istore 4, 2) := by decide +kernel
theorem dX7_writes_64 : decode cX7_writes 64 = .ok (.goto (-45), 3) := by decide +kernel
theorem dX7_writes_67 : decode cX7_writes 67 = .ok (.aload_n 0, 1) := by decide +kernel
theorem dX7_writes_68 : decode cX7_writes 68 = .ok (.iload_n 1, 1) := by decide +kernel
theorem dX7_writes_69 : decode cX7_writes 69 = .ok (.invokevirtual 172, 3) := by decide +kernel
theorem dX7_writes_72 : decode cX7_writes 72 = .ok (.ifCond .ne 7, 3) := by decide +kernel
theorem dX7_writes_75 : decode cX7_writes 75 = .ok (.aload_n 0, 1) := by decide +kernel
theorem dX7_writes_76 : decode cX7_writes 76 = .ok (.invokevirtual 181, 3) := by decide +kernel
theorem dX7_writes_79 : decode cX7_writes 79 = .ok (.return_, 1) := by decide +kernel
theorem dX7_readsBy_0 : decode cX7_readsBy 0 = .ok (.lconst 0, 1) := by decide +kernel
theorem dX7_readsBy_1 : decode cX7_readsBy 1 = .ok (.lstore_n 3, 1) := by decide +kernel
theorem dX7_readsBy_2 : decode cX7_readsBy 2 = .ok (.iconst 0, 1) := by decide +kernel
theorem dX7_readsBy_3 : decode cX7_readsBy 3 = .ok (.istore 5, 2) := by decide +kernel
theorem dX7_readsBy_5 : decode cX7_readsBy 5 = .ok (.iload 5, 2) := by decide +kernel
theorem dX7_readsBy_7 : decode cX7_readsBy 7 = .ok (.aload_n 0, 1) := by decide +kernel
theorem dX7_readsBy_8 : decode cX7_readsBy 8 = .ok (.getfield 175, 3) := by decide +kernel
theorem dX7_readsBy_11 : decode cX7_readsBy 11 = .ok (.if_icmp .ge 55, 3) := by decide +kernel
theorem dX7_readsBy_14 : decode cX7_readsBy 14 = .ok (.lload_n 3, 1) := by decide +kernel
theorem dX7_readsBy_15 : decode cX7_readsBy 15 = .ok (.iload_n 1, 1) := by decide +kernel
theorem dX7_readsBy_16 : decode cX7_readsBy 16 = .ok (.i2l, 1) := by decide +kernel
theorem dX7_readsBy_17 : decode cX7_readsBy 17 = .ok (.lmul, 1) := by decide +kernel
theorem dX7_readsBy_18 : decode cX7_readsBy 18 = .ok (.aload_n 0, 1) := by decide +kernel
theorem dX7_readsBy_19 : decode cX7_readsBy 19 = .ok (.getfield 62, 3) := by decide +kernel
theorem dX7_readsBy_22 : decode cX7_readsBy 22 = .ok (.iload_n 2, 1) := by decide +kernel
theorem dX7_readsBy_23 : decode cX7_readsBy 23 = .ok (.ifCond .eq 15, 3) := by decide +kernel
theorem dX7_readsBy_26 : decode cX7_readsBy 26 = .ok (.aload_n 0, 1) := by decide +kernel
theorem dX7_readsBy_27 : decode cX7_readsBy 27 = .ok (.getfield 175, 3) := by decide +kernel
theorem dX7_readsBy_30 : decode cX7_readsBy 30 = .ok (.iconst 1, 1) := by decide +kernel
theorem dX7_readsBy_31 : decode cX7_readsBy 31 = .ok (.isub, 1) := by decide +kernel
theorem dX7_readsBy_32 : decode cX7_readsBy 32 = .ok (.iload 5, 2) := by decide +kernel
theorem dX7_readsBy_34 : decode cX7_readsBy 34 = .ok (.isub, 1) := by decide +kernel
theorem dX7_readsBy_35 : decode cX7_readsBy 35 = .ok (.goto 5, 3) := by decide +kernel
theorem dX7_readsBy_38 : decode cX7_readsBy 38 = .ok (.iload 5, 2) := by decide +kernel
theorem dX7_readsBy_40 : decode cX7_readsBy 40 = .ok (.iaload, 1) := by decide +kernel
theorem dX7_readsBy_41 : decode cX7_readsBy 41 = .ok (.i2l, 1) := by decide +kernel
theorem dX7_readsBy_42 : decode cX7_readsBy 42 = .ok (.ladd, 1) := by decide +kernel
theorem dX7_readsBy_43 : decode cX7_readsBy 43 = .ok (.lstore_n 3, 1) := by decide +kernel
theorem dX7_readsBy_44 : decode cX7_readsBy 44 = .ok (.lload_n 3, 1) := by decide +kernel
theorem dX7_readsBy_45 : decode cX7_readsBy 45 = .ok (.ldc2_w 184, 3) := by decide +kernel
theorem dX7_readsBy_48 : decode cX7_readsBy 48 = .ok (.lcmp, 1) := by decide +kernel
theorem dX7_readsBy_49 : decode cX7_readsBy 49 = .ok (.ifCond .le 9, 3) := by decide +kernel
theorem dX7_readsBy_52 : decode cX7_readsBy 52 = .ok (.ldc2_w 184, 3) := by decide +kernel
theorem dX7_readsBy_55 : decode cX7_readsBy 55 = .ok (.goto 4, 3) := by decide +kernel
theorem dX7_readsBy_58 : decode cX7_readsBy 58 = .ok (.lload_n 3, 1) := by decide +kernel
theorem dX7_readsBy_59 : decode cX7_readsBy 59 = .ok (.lstore_n 3, 1) := by decide +kernel
theorem dX7_readsBy_60 : decode cX7_readsBy 60 = .ok (.iinc 5 1, 3) := by decide +kernel
theorem dX7_readsBy_63 : decode cX7_readsBy 63 = .ok (.goto (-58), 3) := by decide +kernel
theorem dX7_readsBy_66 : decode cX7_readsBy 66 = .ok (.lload_n 3, 1) := by decide +kernel
theorem dX7_readsBy_67 : decode cX7_readsBy 67 = .ok (.lreturn, 1) := by decide +kernel
theorem dX7_figure_0 : decode cX7_figure 0 = .ok (.aload_n 0, 1) := by decide +kernel
theorem dX7_figure_1 : decode cX7_figure 1 = .ok (.iload_n 1, 1) := by decide +kernel
theorem dX7_figure_2 : decode cX7_figure 2 = .ok (.invokevirtual 159, 3) := by decide +kernel
theorem dX7_figure_5 : decode cX7_figure 5 = .ok (.ifCond .ne 6, 3) := by decide +kernel
theorem dX7_figure_8 : decode cX7_figure 8 = .ok (.bipush (-5), 2) := by decide +kernel
theorem dX7_figure_10 : decode cX7_figure 10 = .ok (.ireturn, 1) := by decide +kernel
theorem dX7_figure_11 : decode cX7_figure 11 = .ok (.iload_n 2, 1) := by decide +kernel
theorem dX7_figure_12 : decode cX7_figure 12 = .ok (.invokestatic 162, 3) := by decide +kernel
theorem dX7_figure_15 : decode cX7_figure 15 = .ok (.ifCond .eq 13, 3) := by decide +kernel
theorem dX7_figure_18 : decode cX7_figure 18 = .ok (.iload_n 3, 1) := by decide +kernel
theorem dX7_figure_19 : decode cX7_figure 19 = .ok (.iconst 0, 1) := by decide +kernel
theorem dX7_figure_20 : decode cX7_figure 20 = .ok (.bipush 40, 2) := by decide +kernel
theorem dX7_figure_22 : decode cX7_figure 22 = .ok (.invokestatic 75, 3) := by decide +kernel
theorem dX7_figure_25 : decode cX7_figure 25 = .ok (.ifCond .ne 6, 3) := by decide +kernel
theorem dX7_figure_28 : decode cX7_figure 28 = .ok (.bipush (-7), 2) := by decide +kernel
theorem dX7_figure_30 : decode cX7_figure 30 = .ok (.ireturn, 1) := by decide +kernel
theorem dX7_figure_31 : decode cX7_figure 31 = .ok (.aload_n 0, 1) := by decide +kernel
theorem dX7_figure_32 : decode cX7_figure 32 = .ok (.iload_n 1, 1) := by decide +kernel
theorem dX7_figure_33 : decode cX7_figure 33 = .ok (.iload_n 2, 1) := by decide +kernel
theorem dX7_figure_34 : decode cX7_figure 34 = .ok (.invokevirtual 186, 3) := by decide +kernel
theorem dX7_figure_37 : decode cX7_figure 37 = .ok (.iload_n 3, 1) := by decide +kernel
theorem dX7_figure_38 : decode cX7_figure 38 = .ok (.ifCond .ne 10, 3) := by decide +kernel
theorem dX7_figure_41 : decode cX7_figure 41 = .ok (.aload_n 0, 1) := by decide +kernel
theorem dX7_figure_42 : decode cX7_figure 42 = .ok (.getfield 175, 3) := by decide +kernel
theorem dX7_figure_45 : decode cX7_figure 45 = .ok (.goto 23, 3) := by decide +kernel
theorem dX7_figure_48 : decode cX7_figure 48 = .ok (.iload_n 3, 1) := by decide +kernel
theorem dX7_figure_49 : decode cX7_figure 49 = .ok (.aload_n 0, 1) := by decide +kernel
theorem dX7_figure_50 : decode cX7_figure 50 = .ok (.getfield 175, 3) := by decide +kernel
theorem dX7_figure_53 : decode cX7_figure 53 = .ok (.if_icmp .gt 14, 3) := by decide +kernel
theorem dX7_figure_56 : decode cX7_figure 56 = .ok (.aload_n 0, 1) := by decide +kernel
theorem dX7_figure_57 : decode cX7_figure 57 = .ok (.getfield 62, 3) := by decide +kernel
theorem dX7_figure_60 : decode cX7_figure 60 = .ok (.iload_n 3, 1) := by decide +kernel
theorem dX7_figure_61 : decode cX7_figure 61 = .ok (.iconst 1, 1) := by decide +kernel
theorem dX7_figure_62 : decode cX7_figure 62 = .ok (.isub, 1) := by decide +kernel
theorem dX7_figure_63 : decode cX7_figure 63 = .ok (.iaload, 1) := by decide +kernel
theorem dX7_figure_64 : decode cX7_figure 64 = .ok (.goto 4, 3) := by decide +kernel
theorem dX7_figure_67 : decode cX7_figure 67 = .ok (.iconst (-1), 1) := by decide +kernel
theorem dX7_figure_68 : decode cX7_figure 68 = .ok (.ireturn, 1) := by decide +kernel
theorem dX7_reads_0 : decode cX7_reads 0 = .ok (.iload_n 1, 1) := by decide +kernel
theorem dX7_reads_1 : decode cX7_reads 1 = .ok (.ifCond .ge 7, 3) := by decide +kernel
theorem dX7_reads_4 : decode cX7_reads 4 = .ok (.iconst (-1), 1) := by decide +kernel
theorem dX7_reads_5 : decode cX7_reads 5 = .ok (.goto 7, 3) := by decide +kernel
theorem dX7_reads_8 : decode cX7_reads 8 = .ok (.iload_n 1, 1) := by decide +kernel
theorem dX7_reads_9 : decode cX7_reads 9 = .ok (.bipush 100, 2) := by decide +kernel
theorem dX7_reads_11 : decode cX7_reads 11 = .ok (.idiv, 1) := by decide +kernel
theorem dX7_reads_12 : decode cX7_reads 12 = .ok (.istore_n 3, 1) := by decide +kernel
theorem dX7_reads_13 : decode cX7_reads 13 = .ok (.iload_n 1, 1) := by decide +kernel
theorem dX7_reads_14 : decode cX7_reads 14 = .ok (.ifCond .ge 7, 3) := by decide +kernel
theorem dX7_reads_17 : decode cX7_reads 17 = .ok (.iconst (-1), 1) := by decide +kernel
theorem dX7_reads_18 : decode cX7_reads 18 = .ok (.goto 7, 3) := by decide +kernel
theorem dX7_reads_21 : decode cX7_reads 21 = .ok (.iload_n 1, 1) := by decide +kernel
theorem dX7_reads_22 : decode cX7_reads 22 = .ok (.bipush 100, 2) := by decide +kernel
theorem dX7_reads_24 : decode cX7_reads 24 = .ok (.irem, 1) := by decide +kernel
theorem dX7_reads_25 : decode cX7_reads 25 = .ok (.istore 4, 2) := by decide +kernel
theorem dX7_reads_27 : decode cX7_reads 27 = .ok (.aload_n 0, 1) := by decide +kernel
theorem dX7_reads_28 : decode cX7_reads 28 = .ok (.iload_n 3, 1) := by decide +kernel
theorem dX7_reads_29 : decode cX7_reads 29 = .ok (.invokevirtual 159, 3) := by decide +kernel
theorem dX7_reads_32 : decode cX7_reads 32 = .ok (.ifCond .eq 12, 3) := by decide +kernel
theorem dX7_reads_35 : decode cX7_reads 35 = .ok (.aload_n 0, 1) := by decide +kernel
theorem dX7_reads_36 : decode cX7_reads 36 = .ok (.iload 4, 2) := by decide +kernel
theorem dX7_reads_38 : decode cX7_reads 38 = .ok (.invokevirtual 159, 3) := by decide +kernel
theorem dX7_reads_41 : decode cX7_reads 41 = .ok (.ifCond .ne 7, 3) := by decide +kernel
theorem dX7_reads_44 : decode cX7_reads 44 = .ok (.ldc2_w 190, 3) := by decide +kernel
theorem dX7_reads_47 : decode cX7_reads 47 = .ok (.lreturn, 1) := by decide +kernel
theorem dX7_reads_48 : decode cX7_reads 48 = .ok (.iload_n 2, 1) := by decide +kernel
theorem dX7_reads_49 : decode cX7_reads 49 = .ok (.invokestatic 162, 3) := by decide +kernel
theorem dX7_reads_52 : decode cX7_reads 52 = .ok (.ifCond .ne 7, 3) := by decide +kernel
theorem dX7_reads_55 : decode cX7_reads 55 = .ok (.ldc2_w 192, 3) := by decide +kernel
theorem dX7_reads_58 : decode cX7_reads 58 = .ok (.lreturn, 1) := by decide +kernel
theorem dX7_reads_59 : decode cX7_reads 59 = .ok (.aload_n 0, 1) := by decide +kernel
theorem dX7_reads_60 : decode cX7_reads 60 = .ok (.iload 4, 2) := by decide +kernel
theorem dX7_reads_62 : decode cX7_reads 62 = .ok (.iload_n 2, 1) := by decide +kernel
theorem dX7_reads_63 : decode cX7_reads 63 = .ok (.invokevirtual 186, 3) := by decide +kernel
theorem dX7_reads_66 : decode cX7_reads 66 = .ok (.aload_n 0, 1) := by decide +kernel
theorem dX7_reads_67 : decode cX7_reads 67 = .ok (.aload_n 0, 1) := by decide +kernel
theorem dX7_reads_68 : decode cX7_reads 68 = .ok (.iload_n 3, 1) := by decide +kernel
theorem dX7_reads_69 : decode cX7_reads 69 = .ok (.invokevirtual 169, 3) := by decide +kernel
theorem dX7_reads_72 : decode cX7_reads 72 = .ok (.aload_n 0, 1) := by decide +kernel
theorem dX7_reads_73 : decode cX7_reads 73 = .ok (.iload_n 3, 1) := by decide +kernel
theorem dX7_reads_74 : decode cX7_reads 74 = .ok (.invokevirtual 172, 3) := by decide +kernel
theorem dX7_reads_77 : decode cX7_reads 77 = .ok (.invokevirtual 194, 3) := by decide +kernel
theorem dX7_reads_80 : decode cX7_reads 80 = .ok (.lreturn, 1) := by decide +kernel
theorem dX7_plainOf_0 : decode cX7_plainOf 0 = .ok (.aload_n 0, 1) := by decide +kernel
theorem dX7_plainOf_1 : decode cX7_plainOf 1 = .ok (.iload_n 1, 1) := by decide +kernel
theorem dX7_plainOf_2 : decode cX7_plainOf 2 = .ok (.iload_n 2, 1) := by decide +kernel
theorem dX7_plainOf_3 : decode cX7_plainOf 3 = .ok (.invokevirtual 186, 3) := by decide +kernel
theorem dX7_plainOf_6 : decode cX7_plainOf 6 = .ok (.aload_n 0, 1) := by decide +kernel
theorem dX7_plainOf_7 : decode cX7_plainOf 7 = .ok (.aload_n 0, 1) := by decide +kernel
theorem dX7_plainOf_8 : decode cX7_plainOf 8 = .ok (.getfield 7, 3) := by decide +kernel
theorem dX7_plainOf_11 : decode cX7_plainOf 11 = .ok (.iconst 0, 1) := by decide +kernel
theorem dX7_plainOf_12 : decode cX7_plainOf 12 = .ok (.invokevirtual 194, 3) := by decide +kernel
theorem dX7_plainOf_15 : decode cX7_plainOf 15 = .ok (.lreturn, 1) := by decide +kernel
theorem dX7_plain_0 : decode cX7_plain 0 = .ok (.aload_n 0, 1) := by decide +kernel
theorem dX7_plain_1 : decode cX7_plain 1 = .ok (.iload_n 1, 1) := by decide +kernel
theorem dX7_plain_2 : decode cX7_plain 2 = .ok (.invokevirtual 159, 3) := by decide +kernel
theorem dX7_plain_5 : decode cX7_plain 5 = .ok (.ifCond .ne 7, 3) := by decide +kernel
theorem dX7_plain_8 : decode cX7_plain 8 = .ok (.ldc2_w 190, 3) := by decide +kernel
theorem dX7_plain_11 : decode cX7_plain 11 = .ok (.lreturn, 1) := by decide +kernel
theorem dX7_plain_12 : decode cX7_plain 12 = .ok (.iload_n 2, 1) := by decide +kernel
theorem dX7_plain_13 : decode cX7_plain 13 = .ok (.invokestatic 162, 3) := by decide +kernel
theorem dX7_plain_16 : decode cX7_plain 16 = .ok (.ifCond .eq 12, 3) := by decide +kernel
theorem dX7_plain_19 : decode cX7_plain 19 = .ok (.aload_n 0, 1) := by decide +kernel
theorem dX7_plain_20 : decode cX7_plain 20 = .ok (.iload_n 1, 1) := by decide +kernel
theorem dX7_plain_21 : decode cX7_plain 21 = .ok (.iload_n 2, 1) := by decide +kernel
theorem dX7_plain_22 : decode cX7_plain 22 = .ok (.invokevirtual 198, 3) := by decide +kernel
theorem dX7_plain_25 : decode cX7_plain 25 = .ok (.goto 6, 3) := by decide +kernel
theorem dX7_plain_28 : decode cX7_plain 28 = .ok (.ldc2_w 192, 3) := by decide +kernel
theorem dX7_plain_31 : decode cX7_plain 31 = .ok (.lreturn, 1) := by decide +kernel
theorem dX7_addsOf_0 : decode cX7_addsOf 0 = .ok (.aload_n 0, 1) := by decide +kernel
theorem dX7_addsOf_1 : decode cX7_addsOf 1 = .ok (.iload_n 1, 1) := by decide +kernel
theorem dX7_addsOf_2 : decode cX7_addsOf 2 = .ok (.iload_n 2, 1) := by decide +kernel
theorem dX7_addsOf_3 : decode cX7_addsOf 3 = .ok (.invokevirtual 178, 3) := by decide +kernel
theorem dX7_addsOf_6 : decode cX7_addsOf 6 = .ok (.i2l, 1) := by decide +kernel
theorem dX7_addsOf_7 : decode cX7_addsOf 7 = .ok (.aload_n 0, 1) := by decide +kernel
theorem dX7_addsOf_8 : decode cX7_addsOf 8 = .ok (.iload_n 1, 1) := by decide +kernel
theorem dX7_addsOf_9 : decode cX7_addsOf 9 = .ok (.iload_n 3, 1) := by decide +kernel
theorem dX7_addsOf_10 : decode cX7_addsOf 10 = .ok (.invokevirtual 178, 3) := by decide +kernel
theorem dX7_addsOf_13 : decode cX7_addsOf 13 = .ok (.i2l, 1) := by decide +kernel
theorem dX7_addsOf_14 : decode cX7_addsOf 14 = .ok (.ladd, 1) := by decide +kernel
theorem dX7_addsOf_15 : decode cX7_addsOf 15 = .ok (.lreturn, 1) := by decide +kernel
theorem dX7_adds_0 : decode cX7_adds 0 = .ok (.aload_n 0, 1) := by decide +kernel
theorem dX7_adds_1 : decode cX7_adds 1 = .ok (.iload_n 1, 1) := by decide +kernel
theorem dX7_adds_2 : decode cX7_adds 2 = .ok (.invokevirtual 159, 3) := by decide +kernel
theorem dX7_adds_5 : decode cX7_adds 5 = .ok (.ifCond .ne 7, 3) := by decide +kernel
theorem dX7_adds_8 : decode cX7_adds 8 = .ok (.ldc2_w 190, 3) := by decide +kernel
theorem dX7_adds_11 : decode cX7_adds 11 = .ok (.lreturn, 1) := by decide +kernel
theorem dX7_adds_12 : decode cX7_adds 12 = .ok (.iload_n 2, 1) := by decide +kernel
theorem dX7_adds_13 : decode cX7_adds 13 = .ok (.invokestatic 162, 3) := by decide +kernel
theorem dX7_adds_16 : decode cX7_adds 16 = .ok (.ifCond .eq 20, 3) := by decide +kernel
theorem dX7_adds_19 : decode cX7_adds 19 = .ok (.iload_n 3, 1) := by decide +kernel
theorem dX7_adds_20 : decode cX7_adds 20 = .ok (.invokestatic 162, 3) := by decide +kernel
theorem dX7_adds_23 : decode cX7_adds 23 = .ok (.ifCond .eq 13, 3) := by decide +kernel
theorem dX7_adds_26 : decode cX7_adds 26 = .ok (.aload_n 0, 1) := by decide +kernel
theorem dX7_adds_27 : decode cX7_adds 27 = .ok (.iload_n 1, 1) := by decide +kernel
theorem dX7_adds_28 : decode cX7_adds 28 = .ok (.iload_n 2, 1) := by decide +kernel
theorem dX7_adds_29 : decode cX7_adds 29 = .ok (.iload_n 3, 1) := by decide +kernel
theorem dX7_adds_30 : decode cX7_adds 30 = .ok (.invokevirtual 202, 3) := by decide +kernel
theorem dX7_adds_33 : decode cX7_adds 33 = .ok (.goto 6, 3) := by decide +kernel
theorem dX7_adds_36 : decode cX7_adds 36 = .ok (.ldc2_w 192, 3) := by decide +kernel
theorem dX7_adds_39 : decode cX7_adds 39 = .ok (.lreturn, 1) := by decide +kernel
theorem dX7_apart_0 : decode cX7_apart 0 = .ok (.aload_n 0, 1) := by decide +kernel
theorem dX7_apart_1 : decode cX7_apart 1 = .ok (.iload_n 1, 1) := by decide +kernel
theorem dX7_apart_2 : decode cX7_apart 2 = .ok (.invokevirtual 159, 3) := by decide +kernel
theorem dX7_apart_5 : decode cX7_apart 5 = .ok (.ifCond .ne 6, 3) := by decide +kernel
theorem dX7_apart_8 : decode cX7_apart 8 = .ok (.bipush (-5), 2) := by decide +kernel
theorem dX7_apart_10 : decode cX7_apart 10 = .ok (.ireturn, 1) := by decide +kernel
theorem dX7_apart_11 : decode cX7_apart 11 = .ok (.iload_n 2, 1) := by decide +kernel
theorem dX7_apart_12 : decode cX7_apart 12 = .ok (.iconst 0, 1) := by decide +kernel
theorem dX7_apart_13 : decode cX7_apart 13 = .ok (.sipush 999, 3) := by decide +kernel
theorem dX7_apart_16 : decode cX7_apart 16 = .ok (.invokestatic 75, 3) := by decide +kernel
theorem dX7_apart_19 : decode cX7_apart 19 = .ok (.ifCond .eq 12, 3) := by decide +kernel
theorem dX7_apart_22 : decode cX7_apart 22 = .ok (.iload_n 3, 1) := by decide +kernel
theorem dX7_apart_23 : decode cX7_apart 23 = .ok (.iconst 0, 1) := by decide +kernel
theorem dX7_apart_24 : decode cX7_apart 24 = .ok (.iconst 1, 1) := by decide +kernel
theorem dX7_apart_25 : decode cX7_apart 25 = .ok (.invokestatic 75, 3) := by decide +kernel
theorem dX7_apart_28 : decode cX7_apart 28 = .ok (.ifCond .ne 6, 3) := by decide +kernel
theorem dX7_apart_31 : decode cX7_apart 31 = .ok (.bipush (-7), 2) := by decide +kernel
theorem dX7_apart_33 : decode cX7_apart 33 = .ok (.ireturn, 1) := by decide +kernel
theorem dX7_apart_34 : decode cX7_apart 34 = .ok (.iconst 0, 1) := by decide +kernel
theorem dX7_apart_35 : decode cX7_apart 35 = .ok (.istore 4, 2) := by decide +kernel
theorem dX7_apart_37 : decode cX7_apart 37 = .ok (.iload 4, 2) := by decide +kernel
theorem dX7_apart_39 : decode cX7_apart 39 = .ok (.sipush 1000, 3) := by decide +kernel
theorem dX7_apart_42 : decode cX7_apart 42 = .ok (.if_icmp .ge 55, 3) := by decide +kernel
theorem dX7_apart_45 : decode cX7_apart 45 = .ok (.aload_n 0, 1) := by decide +kernel
theorem dX7_apart_46 : decode cX7_apart 46 = .ok (.iload_n 1, 1) := by decide +kernel
theorem dX7_apart_47 : decode cX7_apart 47 = .ok (.iload 4, 2) := by decide +kernel
theorem dX7_apart_49 : decode cX7_apart 49 = .ok (.iload 4, 2) := by decide +kernel
theorem dX7_apart_51 : decode cX7_apart 51 = .ok (.iload_n 2, 1) := by decide +kernel
theorem dX7_apart_52 : decode cX7_apart 52 = .ok (.iadd, 1) := by decide +kernel
theorem dX7_apart_53 : decode cX7_apart 53 = .ok (.invokevirtual 202, 3) := by decide +kernel
theorem dX7_apart_56 : decode cX7_apart 56 = .ok (.ldc2_w 206, 3) := by decide +kernel
theorem dX7_apart_59 : decode cX7_apart 59 = .ok (.iload 4, 2) := by decide +kernel
theorem dX7_apart_61 : decode cX7_apart 61 = .ok (.i2l, 1) := by decide +kernel
theorem dX7_apart_62 : decode cX7_apart 62 = .ok (.lmul, 1) := by decide +kernel
theorem dX7_apart_63 : decode cX7_apart 63 = .ok (.iload_n 2, 1) := by decide +kernel
theorem dX7_apart_64 : decode cX7_apart 64 = .ok (.i2l, 1) := by decide +kernel
theorem dX7_apart_65 : decode cX7_apart 65 = .ok (.ladd, 1) := by decide +kernel
theorem dX7_apart_66 : decode cX7_apart 66 = .ok (.invokestatic 208, 3) := by decide +kernel
theorem dX7_apart_69 : decode cX7_apart 69 = .ok (.lstore 5, 2) := by decide +kernel
theorem dX7_apart_71 : decode cX7_apart 71 = .ok (.lload 5, 2) := by decide +kernel
theorem dX7_apart_73 : decode cX7_apart 73 = .ok (.lconst 0, 1) := by decide +kernel
theorem dX7_apart_74 : decode cX7_apart 74 = .ok (.lcmp, 1) := by decide +kernel
theorem dX7_apart_75 : decode cX7_apart 75 = .ok (.ifCond .eq 16, 3) := by decide +kernel
theorem dX7_apart_78 : decode cX7_apart 78 = .ok (.iload_n 3, 1) := by decide +kernel
theorem dX7_apart_79 : decode cX7_apart 79 = .ok (.ifCond .ne 8, 3) := by decide +kernel
theorem dX7_apart_82 : decode cX7_apart 82 = .ok (.iload 4, 2) := by decide +kernel
theorem dX7_apart_84 : decode cX7_apart 84 = .ok (.goto 6, 3) := by decide +kernel
theorem dX7_apart_87 : decode cX7_apart 87 = .ok (.lload 5, 2) := by decide +kernel
theorem dX7_apart_89 : decode cX7_apart 89 = .ok (.l2i, 1) := by decide +kernel
theorem dX7_apart_90 : decode cX7_apart 90 = .ok (.ireturn, 1) := by decide +kernel
theorem dX7_apart_91 : decode cX7_apart 91 = .ok (.iinc 4 1, 3) := by decide +kernel
theorem dX7_apart_94 : decode cX7_apart 94 = .ok (.goto (-57), 3) := by decide +kernel
theorem dX7_apart_97 : decode cX7_apart 97 = .ok (.iload_n 3, 1) := by decide +kernel
theorem dX7_apart_98 : decode cX7_apart 98 = .ok (.ifCond .ne 7, 3) := by decide +kernel
theorem dX7_apart_101 : decode cX7_apart 101 = .ok (.iconst (-1), 1) := by decide +kernel
theorem dX7_apart_102 : decode cX7_apart 102 = .ok (.goto 4, 3) := by decide +kernel
theorem dX7_apart_105 : decode cX7_apart 105 = .ok (.iconst 0, 1) := by decide +kernel
theorem dX7_apart_106 : decode cX7_apart 106 = .ok (.ireturn, 1) := by decide +kernel
theorem dX7_bookWrong_0 : decode cX7_bookWrong 0 = .ok (.iload_n 1, 1) := by decide +kernel
theorem dX7_bookWrong_1 : decode cX7_bookWrong 1 = .ok (.iconst 0, 1) := by decide +kernel
theorem dX7_bookWrong_2 : decode cX7_bookWrong 2 = .ok (.iconst 3, 1) := by decide +kernel
theorem dX7_bookWrong_3 : decode cX7_bookWrong 3 = .ok (.invokestatic 75, 3) := by decide +kernel
theorem dX7_bookWrong_6 : decode cX7_bookWrong 6 = .ok (.ifCond .ne 6, 3) := by decide +kernel
theorem dX7_bookWrong_9 : decode cX7_bookWrong 9 = .ok (.bipush (-2), 2) := by decide +kernel
theorem dX7_bookWrong_11 : decode cX7_bookWrong 11 = .ok (.ireturn, 1) := by decide +kernel
theorem dX7_bookWrong_12 : decode cX7_bookWrong 12 = .ok (.aload_n 0, 1) := by decide +kernel
theorem dX7_bookWrong_13 : decode cX7_bookWrong 13 = .ok (.getfield 38, 3) := by decide +kernel
theorem dX7_bookWrong_16 : decode cX7_bookWrong 16 = .ok (.iload_n 1, 1) := by decide +kernel
theorem dX7_bookWrong_17 : decode cX7_bookWrong 17 = .ok (.iaload, 1) := by decide +kernel
theorem dX7_bookWrong_18 : decode cX7_bookWrong 18 = .ok (.iconst (-1), 1) := by decide +kernel
theorem dX7_bookWrong_19 : decode cX7_bookWrong 19 = .ok (.if_icmp .ne 6, 3) := by decide +kernel
theorem dX7_bookWrong_22 : decode cX7_bookWrong 22 = .ok (.bipush (-11), 2) := by decide +kernel
theorem dX7_bookWrong_24 : decode cX7_bookWrong 24 = .ok (.ireturn, 1) := by decide +kernel
theorem dX7_bookWrong_25 : decode cX7_bookWrong 25 = .ok (.iconst 0, 1) := by decide +kernel
theorem dX7_bookWrong_26 : decode cX7_bookWrong 26 = .ok (.istore_n 2, 1) := by decide +kernel
theorem dX7_bookWrong_27 : decode cX7_bookWrong 27 = .ok (.iload_n 2, 1) := by decide +kernel
theorem dX7_bookWrong_28 : decode cX7_bookWrong 28 = .ok (.aload_n 0, 1) := by decide +kernel
theorem dX7_bookWrong_29 : decode cX7_bookWrong 29 = .ok (.getfield 41, 3) := by decide +kernel
theorem dX7_bookWrong_32 : decode cX7_bookWrong 32 = .ok (.iload_n 1, 1) := by decide +kernel
theorem dX7_bookWrong_33 : decode cX7_bookWrong 33 = .ok (.iaload, 1) := by decide +kernel
theorem dX7_bookWrong_34 : decode cX7_bookWrong 34 = .ok (.if_icmp .ge 29, 3) := by decide +kernel
theorem dX7_bookWrong_37 : decode cX7_bookWrong 37 = .ok (.aload_n 0, 1) := by decide +kernel
theorem dX7_bookWrong_38 : decode cX7_bookWrong 38 = .ok (.getfield 44, 3) := by decide +kernel
theorem dX7_bookWrong_41 : decode cX7_bookWrong 41 = .ok (.bipush 40, 2) := by decide +kernel
theorem dX7_bookWrong_43 : decode cX7_bookWrong 43 = .ok (.iload_n 1, 1) := by decide +kernel
theorem dX7_bookWrong_44 : decode cX7_bookWrong 44 = .ok (.imul, 1) := by decide +kernel
theorem dX7_bookWrong_45 : decode cX7_bookWrong 45 = .ok (.iload_n 2, 1) := by decide +kernel
theorem dX7_bookWrong_46 : decode cX7_bookWrong 46 = .ok (.iadd, 1) := by decide +kernel
theorem dX7_bookWrong_47 : decode cX7_bookWrong 47 = .ok (.iaload, 1) := by decide +kernel
theorem dX7_bookWrong_48 : decode cX7_bookWrong 48 = .ok (.invokestatic 162, 3) := by decide +kernel
theorem dX7_bookWrong_51 : decode cX7_bookWrong 51 = .ok (.ifCond .ne 6, 3) := by decide +kernel
theorem dX7_bookWrong_54 : decode cX7_bookWrong 54 = .ok (.bipush (-2), 2) := by decide +kernel
theorem dX7_bookWrong_56 : decode cX7_bookWrong 56 = .ok (.ireturn, 1) := by decide +kernel
theorem dX7_bookWrong_57 : decode cX7_bookWrong 57 = .ok (.iinc 2 1, 3) := by decide +kernel
theorem dX7_bookWrong_60 : decode cX7_bookWrong 60 = .ok (.goto (-33), 3) := by decide +kernel
theorem dX7_bookWrong_63 : decode cX7_bookWrong 63 = .ok (.iconst 0, 1) := by decide +kernel
theorem dX7_bookWrong_64 : decode cX7_bookWrong 64 = .ok (.ireturn, 1) := by decide +kernel
theorem dX7_hisBook_0 : decode cX7_hisBook 0 = .ok (.lconst 0, 1) := by decide +kernel
theorem dX7_hisBook_1 : decode cX7_hisBook 1 = .ok (.lstore_n 3, 1) := by decide +kernel
theorem dX7_hisBook_2 : decode cX7_hisBook 2 = .ok (.iconst 0, 1) := by decide +kernel
theorem dX7_hisBook_3 : decode cX7_hisBook 3 = .ok (.istore 5, 2) := by decide +kernel
theorem dX7_hisBook_5 : decode cX7_hisBook 5 = .ok (.iload 5, 2) := by decide +kernel
theorem dX7_hisBook_7 : decode cX7_hisBook 7 = .ok (.aload_n 0, 1) := by decide +kernel
theorem dX7_hisBook_8 : decode cX7_hisBook 8 = .ok (.getfield 41, 3) := by decide +kernel
theorem dX7_hisBook_11 : decode cX7_hisBook 11 = .ok (.iload_n 1, 1) := by decide +kernel
theorem dX7_hisBook_12 : decode cX7_hisBook 12 = .ok (.iaload, 1) := by decide +kernel
theorem dX7_hisBook_13 : decode cX7_hisBook 13 = .ok (.if_icmp .ge 30, 3) := by decide +kernel
theorem dX7_hisBook_16 : decode cX7_hisBook 16 = .ok (.lload_n 3, 1) := by decide +kernel
theorem dX7_hisBook_17 : decode cX7_hisBook 17 = .ok (.aload_n 0, 1) := by decide +kernel
theorem dX7_hisBook_18 : decode cX7_hisBook 18 = .ok (.iload_n 2, 1) := by decide +kernel
theorem dX7_hisBook_19 : decode cX7_hisBook 19 = .ok (.aload_n 0, 1) := by decide +kernel
theorem dX7_hisBook_20 : decode cX7_hisBook 20 = .ok (.getfield 44, 3) := by decide +kernel
theorem dX7_hisBook_23 : decode cX7_hisBook 23 = .ok (.bipush 40, 2) := by decide +kernel
theorem dX7_hisBook_25 : decode cX7_hisBook 25 = .ok (.iload_n 1, 1) := by decide +kernel
theorem dX7_hisBook_26 : decode cX7_hisBook 26 = .ok (.imul, 1) := by decide +kernel
theorem dX7_hisBook_27 : decode cX7_hisBook 27 = .ok (.iload 5, 2) := by decide +kernel
theorem dX7_hisBook_29 : decode cX7_hisBook 29 = .ok (.iadd, 1) := by decide +kernel
theorem dX7_hisBook_30 : decode cX7_hisBook 30 = .ok (.iaload, 1) := by decide +kernel
theorem dX7_hisBook_31 : decode cX7_hisBook 31 = .ok (.invokevirtual 178, 3) := by decide +kernel
theorem dX7_hisBook_34 : decode cX7_hisBook 34 = .ok (.i2l, 1) := by decide +kernel
theorem dX7_hisBook_35 : decode cX7_hisBook 35 = .ok (.ladd, 1) := by decide +kernel
theorem dX7_hisBook_36 : decode cX7_hisBook 36 = .ok (.lstore_n 3, 1) := by decide +kernel
theorem dX7_hisBook_37 : decode cX7_hisBook 37 = .ok (.iinc 5 1, 3) := by decide +kernel
theorem dX7_hisBook_40 : decode cX7_hisBook 40 = .ok (.goto (-35), 3) := by decide +kernel
theorem dX7_hisBook_43 : decode cX7_hisBook 43 = .ok (.lload_n 3, 1) := by decide +kernel
theorem dX7_hisBook_44 : decode cX7_hisBook 44 = .ok (.lreturn, 1) := by decide +kernel
theorem dX7_ourBook_0 : decode cX7_ourBook 0 = .ok (.lconst 0, 1) := by decide +kernel
theorem dX7_ourBook_1 : decode cX7_ourBook 1 = .ok (.lstore_n 2, 1) := by decide +kernel
theorem dX7_ourBook_2 : decode cX7_ourBook 2 = .ok (.iconst 0, 1) := by decide +kernel
theorem dX7_ourBook_3 : decode cX7_ourBook 3 = .ok (.istore 4, 2) := by decide +kernel
