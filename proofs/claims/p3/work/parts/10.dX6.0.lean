theorem dX6_init_0 : decode cX6_init 0 = .ok (.aload_n 0, 1) := by decide +kernel
theorem dX6_init_1 : decode cX6_init 1 = .ok (.invokespecial 1, 3) := by decide +kernel
theorem dX6_init_4 : decode cX6_init 4 = .ok (.aload_n 0, 1) := by decide +kernel
theorem dX6_init_5 : decode cX6_init 5 = .ok (.bipush 10, 2) := by decide +kernel
theorem dX6_init_7 : decode cX6_init 7 = .ok (.putfield 7, 3) := by decide +kernel
theorem dX6_init_10 : decode cX6_init 10 = .ok (.aload_n 0, 1) := by decide +kernel
theorem dX6_init_11 : decode cX6_init 11 = .ok (.iconst 1, 1) := by decide +kernel
theorem dX6_init_12 : decode cX6_init 12 = .ok (.putfield 13, 3) := by decide +kernel
theorem dX6_init_15 : decode cX6_init 15 = .ok (.aload_n 0, 1) := by decide +kernel
theorem dX6_init_16 : decode cX6_init 16 = .ok (.iconst 5, 1) := by decide +kernel
theorem dX6_init_17 : decode cX6_init 17 = .ok (.newarray .int, 2) := by decide +kernel
theorem dX6_init_19 : decode cX6_init 19 = .ok (.putfield 16, 3) := by decide +kernel
theorem dX6_init_22 : decode cX6_init 22 = .ok (.aload_n 0, 1) := by decide +kernel
theorem dX6_init_23 : decode cX6_init 23 = .ok (.iconst 5, 1) := by decide +kernel
theorem dX6_init_24 : decode cX6_init 24 = .ok (.newarray .int, 2) := by decide +kernel
theorem dX6_init_26 : decode cX6_init 26 = .ok (.putfield 20, 3) := by decide +kernel
theorem dX6_init_29 : decode cX6_init 29 = .ok (.aload_n 0, 1) := by decide +kernel
theorem dX6_init_30 : decode cX6_init 30 = .ok (.new 23, 3) := by decide +kernel
theorem dX6_init_33 : decode cX6_init 33 = .ok (.dup, 1) := by decide +kernel
theorem dX6_init_34 : decode cX6_init 34 = .ok (.iconst 3, 1) := by decide +kernel
theorem dX6_init_35 : decode cX6_init 35 = .ok (.newarray .int, 2) := by decide +kernel
theorem dX6_init_37 : decode cX6_init 37 = .ok (.dup, 1) := by decide +kernel
theorem dX6_init_38 : decode cX6_init 38 = .ok (.iconst 0, 1) := by decide +kernel
theorem dX6_init_39 : decode cX6_init 39 = .ok (.iconst 1, 1) := by decide +kernel
theorem dX6_init_40 : decode cX6_init 40 = .ok (.iastore, 1) := by decide +kernel
theorem dX6_init_41 : decode cX6_init 41 = .ok (.dup, 1) := by decide +kernel
theorem dX6_init_42 : decode cX6_init 42 = .ok (.iconst 1, 1) := by decide +kernel
theorem dX6_init_43 : decode cX6_init 43 = .ok (.iconst 3, 1) := by decide +kernel
theorem dX6_init_44 : decode cX6_init 44 = .ok (.iastore, 1) := by decide +kernel
theorem dX6_init_45 : decode cX6_init 45 = .ok (.dup, 1) := by decide +kernel
theorem dX6_init_46 : decode cX6_init 46 = .ok (.iconst 2, 1) := by decide +kernel
theorem dX6_init_47 : decode cX6_init 47 = .ok (.bipush (-4), 2) := by decide +kernel
theorem dX6_init_49 : decode cX6_init 49 = .ok (.iastore, 1) := by decide +kernel
theorem dX6_init_50 : decode cX6_init 50 = .ok (.iconst 1, 1) := by decide +kernel
theorem dX6_init_51 : decode cX6_init 51 = .ok (.iconst 2, 1) := by decide +kernel
theorem dX6_init_52 : decode cX6_init 52 = .ok (.invokespecial 25, 3) := by decide +kernel
theorem dX6_init_55 : decode cX6_init 55 = .ok (.putfield 28, 3) := by decide +kernel
theorem dX6_init_58 : decode cX6_init 58 = .ok (.aload_n 0, 1) := by decide +kernel
theorem dX6_init_59 : decode cX6_init 59 = .ok (.bipush 6, 2) := by decide +kernel
theorem dX6_init_61 : decode cX6_init 61 = .ok (.anewarray 23, 3) := by decide +kernel
theorem dX6_init_64 : decode cX6_init 64 = .ok (.putfield 32, 3) := by decide +kernel
theorem dX6_init_67 : decode cX6_init 67 = .ok (.aload_n 0, 1) := by decide +kernel
theorem dX6_init_68 : decode cX6_init 68 = .ok (.iconst 1, 1) := by decide +kernel
theorem dX6_init_69 : decode cX6_init 69 = .ok (.putfield 36, 3) := by decide +kernel
theorem dX6_init_72 : decode cX6_init 72 = .ok (.aload_n 0, 1) := by decide +kernel
theorem dX6_init_73 : decode cX6_init 73 = .ok (.new 39, 3) := by decide +kernel
theorem dX6_init_76 : decode cX6_init 76 = .ok (.dup, 1) := by decide +kernel
theorem dX6_init_77 : decode cX6_init 77 = .ok (.invokespecial 41, 3) := by decide +kernel
theorem dX6_init_80 : decode cX6_init 80 = .ok (.putfield 42, 3) := by decide +kernel
theorem dX6_init_83 : decode cX6_init 83 = .ok (.aload_n 0, 1) := by decide +kernel
theorem dX6_init_84 : decode cX6_init 84 = .ok (.iconst 4, 1) := by decide +kernel
theorem dX6_init_85 : decode cX6_init 85 = .ok (.anewarray 46, 3) := by decide +kernel
theorem dX6_init_88 : decode cX6_init 88 = .ok (.putfield 48, 3) := by decide +kernel
theorem dX6_init_91 : decode cX6_init 91 = .ok (.aload_n 0, 1) := by decide +kernel
theorem dX6_init_92 : decode cX6_init 92 = .ok (.new 52, 3) := by decide +kernel
theorem dX6_init_95 : decode cX6_init 95 = .ok (.dup, 1) := by decide +kernel
theorem dX6_init_96 : decode cX6_init 96 = .ok (.invokespecial 54, 3) := by decide +kernel
theorem dX6_init_99 : decode cX6_init 99 = .ok (.putfield 55, 3) := by decide +kernel
theorem dX6_init_102 : decode cX6_init 102 = .ok (.aload_n 0, 1) := by decide +kernel
theorem dX6_init_103 : decode cX6_init 103 = .ok (.new 59, 3) := by decide +kernel
theorem dX6_init_106 : decode cX6_init 106 = .ok (.dup, 1) := by decide +kernel
theorem dX6_init_107 : decode cX6_init 107 = .ok (.invokespecial 61, 3) := by decide +kernel
theorem dX6_init_110 : decode cX6_init 110 = .ok (.putfield 62, 3) := by decide +kernel
theorem dX6_init_113 : decode cX6_init 113 = .ok (.aload_n 0, 1) := by decide +kernel
theorem dX6_init_114 : decode cX6_init 114 = .ok (.new 66, 3) := by decide +kernel
theorem dX6_init_117 : decode cX6_init 117 = .ok (.dup, 1) := by decide +kernel
theorem dX6_init_118 : decode cX6_init 118 = .ok (.aload_n 0, 1) := by decide +kernel
theorem dX6_init_119 : decode cX6_init 119 = .ok (.getfield 28, 3) := by decide +kernel
theorem dX6_init_122 : decode cX6_init 122 = .ok (.invokespecial 68, 3) := by decide +kernel
theorem dX6_init_125 : decode cX6_init 125 = .ok (.putfield 71, 3) := by decide +kernel
theorem dX6_init_128 : decode cX6_init 128 = .ok (.aload_n 0, 1) := by decide +kernel
theorem dX6_init_129 : decode cX6_init 129 = .ok (.getfield 32, 3) := by decide +kernel
theorem dX6_init_132 : decode cX6_init 132 = .ok (.iconst 0, 1) := by decide +kernel
theorem dX6_init_133 : decode cX6_init 133 = .ok (.aload_n 0, 1) := by decide +kernel
theorem dX6_init_134 : decode cX6_init 134 = .ok (.getfield 28, 3) := by decide +kernel
theorem dX6_init_137 : decode cX6_init 137 = .ok (.aastore, 1) := by decide +kernel
theorem dX6_init_138 : decode cX6_init 138 = .ok (.iconst 0, 1) := by decide +kernel
theorem dX6_init_139 : decode cX6_init 139 = .ok (.istore_n 1, 1) := by decide +kernel
theorem dX6_init_140 : decode cX6_init 140 = .ok (.iload_n 1, 1) := by decide +kernel
theorem dX6_init_141 : decode cX6_init 141 = .ok (.aload_n 0, 1) := by decide +kernel
theorem dX6_init_142 : decode cX6_init 142 = .ok (.getfield 48, 3) := by decide +kernel
theorem dX6_init_145 : decode cX6_init 145 = .ok (.arraylength, 1) := by decide +kernel
theorem dX6_init_146 : decode cX6_init 146 = .ok (.if_icmp .ge 22, 3) := by decide +kernel
theorem dX6_init_149 : decode cX6_init 149 = .ok (.aload_n 0, 1) := by decide +kernel
theorem dX6_init_150 : decode cX6_init 150 = .ok (.getfield 48, 3) := by decide +kernel
theorem dX6_init_153 : decode cX6_init 153 = .ok (.iload_n 1, 1) := by decide +kernel
theorem dX6_init_154 : decode cX6_init 154 = .ok (.new 46, 3) := by decide +kernel
theorem dX6_init_157 : decode cX6_init 157 = .ok (.dup, 1) := by decide +kernel
theorem dX6_init_158 : decode cX6_init 158 = .ok (.invokespecial 75, 3) := by decide +kernel
theorem dX6_init_161 : decode cX6_init 161 = .ok (.aastore, 1) := by decide +kernel
theorem dX6_init_162 : decode cX6_init 162 = .ok (.iinc 1 1, 3) := by decide +kernel
theorem dX6_init_165 : decode cX6_init 165 = .ok (.goto (-25), 3) := by decide +kernel
theorem dX6_init_168 : decode cX6_init 168 = .ok (.return_, 1) := by decide +kernel
theorem dX6_count_0 : decode cX6_count 0 = .ok (.iload_n 1, 1) := by decide +kernel
theorem dX6_count_1 : decode cX6_count 1 = .ok (.tableswitch 72 0 5 #[39, 44, 49, 54, 59, 64], 39) := by decide +kernel
theorem dX6_count_40 : decode cX6_count 40 = .ok (.aload_n 0, 1) := by decide +kernel
theorem dX6_count_41 : decode cX6_count 41 = .ok (.getfield 76, 3) := by decide +kernel
theorem dX6_count_44 : decode cX6_count 44 = .ok (.ireturn, 1) := by decide +kernel
theorem dX6_count_45 : decode cX6_count 45 = .ok (.aload_n 0, 1) := by decide +kernel
theorem dX6_count_46 : decode cX6_count 46 = .ok (.getfield 7, 3) := by decide +kernel
theorem dX6_count_49 : decode cX6_count 49 = .ok (.ireturn, 1) := by decide +kernel
theorem dX6_count_50 : decode cX6_count 50 = .ok (.aload_n 0, 1) := by decide +kernel
theorem dX6_count_51 : decode cX6_count 51 = .ok (.getfield 13, 3) := by decide +kernel
theorem dX6_count_54 : decode cX6_count 54 = .ok (.ireturn, 1) := by decide +kernel
theorem dX6_count_55 : decode cX6_count 55 = .ok (.aload_n 0, 1) := by decide +kernel
theorem dX6_count_56 : decode cX6_count 56 = .ok (.getfield 36, 3) := by decide +kernel
theorem dX6_count_59 : decode cX6_count 59 = .ok (.ireturn, 1) := by decide +kernel
theorem dX6_count_60 : decode cX6_count 60 = .ok (.aload_n 0, 1) := by decide +kernel
theorem dX6_count_61 : decode cX6_count 61 = .ok (.getfield 79, 3) := by decide +kernel
theorem dX6_count_64 : decode cX6_count 64 = .ok (.ireturn, 1) := by decide +kernel
theorem dX6_count_65 : decode cX6_count 65 = .ok (.aload_n 0, 1) := by decide +kernel
theorem dX6_count_66 : decode cX6_count 66 = .ok (.getfield 42, 3) := by decide +kernel
theorem dX6_count_69 : decode cX6_count 69 = .ok (.invokevirtual 82, 3) := by decide +kernel
theorem dX6_count_72 : decode cX6_count 72 = .ok (.ireturn, 1) := by decide +kernel
theorem dX6_count_73 : decode cX6_count 73 = .ok (.bipush (-2), 2) := by decide +kernel
theorem dX6_count_75 : decode cX6_count 75 = .ok (.ireturn, 1) := by decide +kernel
theorem dX6_set_0 : decode cX6_set 0 = .ok (.iload_n 1, 1) := by decide +kernel
theorem dX6_set_1 : decode cX6_set 1 = .ok (.ifCond .eq 11, 3) := by decide +kernel
theorem dX6_set_4 : decode cX6_set 4 = .ok (.iload_n 1, 1) := by decide +kernel
theorem dX6_set_5 : decode cX6_set 5 = .ok (.iconst 1, 1) := by decide +kernel
theorem dX6_set_6 : decode cX6_set 6 = .ok (.if_icmp .eq 6, 3) := by decide +kernel
theorem dX6_set_9 : decode cX6_set 9 = .ok (.bipush (-5), 2) := by decide +kernel
theorem dX6_set_11 : decode cX6_set 11 = .ok (.ireturn, 1) := by decide +kernel
theorem dX6_set_12 : decode cX6_set 12 = .ok (.iload_n 1, 1) := by decide +kernel
theorem dX6_set_13 : decode cX6_set 13 = .ok (.ifCond .ne 16, 3) := by decide +kernel
theorem dX6_set_16 : decode cX6_set 16 = .ok (.iload_n 2, 1) := by decide +kernel
theorem dX6_set_17 : decode cX6_set 17 = .ok (.iconst 2, 1) := by decide +kernel
theorem dX6_set_18 : decode cX6_set 18 = .ok (.bipush 12, 2) := by decide +kernel
theorem dX6_set_20 : decode cX6_set 20 = .ok (.invokestatic 86, 3) := by decide +kernel
theorem dX6_set_23 : decode cX6_set 23 = .ok (.ifCond .ne 16, 3) := by decide +kernel
theorem dX6_set_26 : decode cX6_set 26 = .ok (.goto 10, 3) := by decide +kernel
theorem dX6_set_29 : decode cX6_set 29 = .ok (.iload_n 2, 1) := by decide +kernel
theorem dX6_set_30 : decode cX6_set 30 = .ok (.invokestatic 90, 3) := by decide +kernel
theorem dX6_set_33 : decode cX6_set 33 = .ok (.ifCond .ne 6, 3) := by decide +kernel
theorem dX6_set_36 : decode cX6_set 36 = .ok (.bipush (-7), 2) := by decide +kernel
theorem dX6_set_38 : decode cX6_set 38 = .ok (.ireturn, 1) := by decide +kernel
theorem dX6_set_39 : decode cX6_set 39 = .ok (.iload_n 1, 1) := by decide +kernel
theorem dX6_set_40 : decode cX6_set 40 = .ok (.ifCond .ne 10, 3) := by decide +kernel
theorem dX6_set_43 : decode cX6_set 43 = .ok (.aload_n 0, 1) := by decide +kernel
theorem dX6_set_44 : decode cX6_set 44 = .ok (.getfield 7, 3) := by decide +kernel
theorem dX6_set_47 : decode cX6_set 47 = .ok (.goto 7, 3) := by decide +kernel
theorem dX6_set_50 : decode cX6_set 50 = .ok (.aload_n 0, 1) := by decide +kernel
theorem dX6_set_51 : decode cX6_set 51 = .ok (.getfield 13, 3) := by decide +kernel
theorem dX6_set_54 : decode cX6_set 54 = .ok (.istore_n 3, 1) := by decide +kernel
theorem dX6_set_55 : decode cX6_set 55 = .ok (.iload_n 1, 1) := by decide +kernel
theorem dX6_set_56 : decode cX6_set 56 = .ok (.ifCond .ne 11, 3) := by decide +kernel
theorem dX6_set_59 : decode cX6_set 59 = .ok (.aload_n 0, 1) := by decide +kernel
theorem dX6_set_60 : decode cX6_set 60 = .ok (.iload_n 2, 1) := by decide +kernel
theorem dX6_set_61 : decode cX6_set 61 = .ok (.putfield 7, 3) := by decide +kernel
theorem dX6_set_64 : decode cX6_set 64 = .ok (.goto 8, 3) := by decide +kernel
theorem dX6_set_67 : decode cX6_set 67 = .ok (.aload_n 0, 1) := by decide +kernel
theorem dX6_set_68 : decode cX6_set 68 = .ok (.iload_n 2, 1) := by decide +kernel
theorem dX6_set_69 : decode cX6_set 69 = .ok (.putfield 13, 3) := by decide +kernel
theorem dX6_set_72 : decode cX6_set 72 = .ok (.iload_n 3, 1) := by decide +kernel
theorem dX6_set_73 : decode cX6_set 73 = .ok (.ireturn, 1) := by decide +kernel
theorem dX6_feed_0 : decode cX6_feed 0 = .ok (.iload_n 1, 1) := by decide +kernel
theorem dX6_feed_1 : decode cX6_feed 1 = .ok (.iconst 1, 1) := by decide +kernel
theorem dX6_feed_2 : decode cX6_feed 2 = .ok (.iconst 5, 1) := by decide +kernel
theorem dX6_feed_3 : decode cX6_feed 3 = .ok (.invokestatic 86, 3) := by decide +kernel
theorem dX6_feed_6 : decode cX6_feed 6 = .ok (.ifCond .eq 41, 3) := by decide +kernel
theorem dX6_feed_9 : decode cX6_feed 9 = .ok (.iload_n 2, 1) := by decide +kernel
theorem dX6_feed_10 : decode cX6_feed 10 = .ok (.invokestatic 94, 3) := by decide +kernel
theorem dX6_feed_13 : decode cX6_feed 13 = .ok (.ifCond .eq 34, 3) := by decide +kernel
theorem dX6_feed_16 : decode cX6_feed 16 = .ok (.iload_n 3, 1) := by decide +kernel
theorem dX6_feed_17 : decode cX6_feed 17 = .ok (.invokestatic 94, 3) := by decide +kernel
theorem dX6_feed_20 : decode cX6_feed 20 = .ok (.ifCond .eq 27, 3) := by decide +kernel
theorem dX6_feed_23 : decode cX6_feed 23 = .ok (.iload 4, 2) := by decide +kernel
theorem dX6_feed_25 : decode cX6_feed 25 = .ok (.invokestatic 94, 3) := by decide +kernel
theorem dX6_feed_28 : decode cX6_feed 28 = .ok (.ifCond .eq 19, 3) := by decide +kernel
theorem dX6_feed_31 : decode cX6_feed 31 = .ok (.iload 5, 2) := by decide +kernel
theorem dX6_feed_33 : decode cX6_feed 33 = .ok (.invokestatic 94, 3) := by decide +kernel
theorem dX6_feed_36 : decode cX6_feed 36 = .ok (.ifCond .eq 11, 3) := by decide +kernel
theorem dX6_feed_39 : decode cX6_feed 39 = .ok (.iload 6, 2) := by decide +kernel
theorem dX6_feed_41 : decode cX6_feed 41 = .ok (.invokestatic 94, 3) := by decide +kernel
theorem dX6_feed_44 : decode cX6_feed 44 = .ok (.ifCond .ne 6, 3) := by decide +kernel
theorem dX6_feed_47 : decode cX6_feed 47 = .ok (.bipush (-2), 2) := by decide +kernel
theorem dX6_feed_49 : decode cX6_feed 49 = .ok (.ireturn, 1) := by decide +kernel
theorem dX6_feed_50 : decode cX6_feed 50 = .ok (.aload_n 0, 1) := by decide +kernel
theorem dX6_feed_51 : decode cX6_feed 51 = .ok (.getfield 42, 3) := by decide +kernel
theorem dX6_feed_54 : decode cX6_feed 54 = .ok (.invokevirtual 82, 3) := by decide +kernel
theorem dX6_feed_57 : decode cX6_feed 57 = .ok (.sipush 160, 3) := by decide +kernel
theorem dX6_feed_60 : decode cX6_feed 60 = .ok (.iload_n 1, 1) := by decide +kernel
theorem dX6_feed_61 : decode cX6_feed 61 = .ok (.isub, 1) := by decide +kernel
theorem dX6_feed_62 : decode cX6_feed 62 = .ok (.if_icmp .le 6, 3) := by decide +kernel
theorem dX6_feed_65 : decode cX6_feed 65 = .ok (.bipush (-4), 2) := by decide +kernel
theorem dX6_feed_67 : decode cX6_feed 67 = .ok (.ireturn, 1) := by decide +kernel
theorem dX6_feed_68 : decode cX6_feed 68 = .ok (.aload_n 0, 1) := by decide +kernel
theorem dX6_feed_69 : decode cX6_feed 69 = .ok (.getfield 42, 3) := by decide +kernel
theorem dX6_feed_72 : decode cX6_feed 72 = .ok (.iload_n 2, 1) := by decide +kernel
theorem dX6_feed_73 : decode cX6_feed 73 = .ok (.invokevirtual 97, 3) := by decide +kernel
theorem dX6_feed_76 : decode cX6_feed 76 = .ok (.iload_n 1, 1) := by decide +kernel
theorem dX6_feed_77 : decode cX6_feed 77 = .ok (.iconst 1, 1) := by decide +kernel
theorem dX6_feed_78 : decode cX6_feed 78 = .ok (.if_icmp .le 11, 3) := by decide +kernel
theorem dX6_feed_81 : decode cX6_feed 81 = .ok (.aload_n 0, 1) := by decide +kernel
theorem dX6_feed_82 : decode cX6_feed 82 = .ok (.getfield 42, 3) := by decide +kernel
theorem dX6_feed_85 : decode cX6_feed 85 = .ok (.iload_n 3, 1) := by decide +kernel
theorem dX6_feed_86 : decode cX6_feed 86 = .ok (.invokevirtual 97, 3) := by decide +kernel
theorem dX6_feed_89 : decode cX6_feed 89 = .ok (.iload_n 1, 1) := by decide +kernel
theorem dX6_feed_90 : decode cX6_feed 90 = .ok (.iconst 2, 1) := by decide +kernel
theorem dX6_feed_91 : decode cX6_feed 91 = .ok (.if_icmp .le 12, 3) := by decide +kernel
theorem dX6_feed_94 : decode cX6_feed 94 = .ok (.aload_n 0, 1) := by decide +kernel
theorem dX6_feed_95 : decode cX6_feed 95 = .ok (.getfield 42, 3) := by decide +kernel
theorem dX6_feed_98 : decode cX6_feed 98 = .ok (.iload 4, 2) := by decide +kernel
theorem dX6_feed_100 : decode cX6_feed 100 = .ok (.invokevirtual 97, 3) := by decide +kernel
theorem dX6_feed_103 : decode cX6_feed 103 = .ok (.iload_n 1, 1) := by decide +kernel
theorem dX6_feed_104 : decode cX6_feed 104 = .ok (.iconst 3, 1) := by decide +kernel
theorem dX6_feed_105 : decode cX6_feed 105 = .ok (.if_icmp .le 12, 3) := by decide +kernel
theorem dX6_feed_108 : decode cX6_feed 108 = .ok (.aload_n 0, 1) := by decide +kernel
theorem dX6_feed_109 : decode cX6_feed 109 = .ok (.getfield 42, 3) := by decide +kernel
theorem dX6_feed_112 : decode cX6_feed 112 = .ok (.iload 5, 2) := by decide +kernel
theorem dX6_feed_114 : decode cX6_feed 114 = .ok (.invokevirtual 97, 3) := by decide +kernel
theorem dX6_feed_117 : decode cX6_feed 117 = .ok (.iload_n 1, 1) := by decide +kernel
theorem dX6_feed_118 : decode cX6_feed 118 = .ok (.iconst 4, 1) := by decide +kernel
theorem dX6_feed_119 : decode cX6_feed 119 = .ok (.if_icmp .le 12, 3) := by decide +kernel
theorem dX6_feed_122 : decode cX6_feed 122 = .ok (.aload_n 0, 1) := by decide +kernel
theorem dX6_feed_123 : decode cX6_feed 123 = .ok (.getfield 42, 3) := by decide +kernel
theorem dX6_feed_126 : decode cX6_feed 126 = .ok (.iload 6, 2) := by decide +kernel
theorem dX6_feed_128 : decode cX6_feed 128 = .ok (.invokevirtual 97, 3) := by decide +kernel
theorem dX6_feed_131 : decode cX6_feed 131 = .ok (.aload_n 0, 1) := by decide +kernel
theorem dX6_feed_132 : decode cX6_feed 132 = .ok (.getfield 42, 3) := by decide +kernel
theorem dX6_feed_135 : decode cX6_feed 135 = .ok (.invokevirtual 82, 3) := by decide +kernel
theorem dX6_feed_138 : decode cX6_feed 138 = .ok (.ireturn, 1) := by decide +kernel
theorem dX6_text_0 : decode cX6_text 0 = .ok (.aload_n 0, 1) := by decide +kernel
theorem dX6_text_1 : decode cX6_text 1 = .ok (.getfield 36, 3) := by decide +kernel
theorem dX6_text_4 : decode cX6_text 4 = .ok (.bipush 6, 2) := by decide +kernel
theorem dX6_text_6 : decode cX6_text 6 = .ok (.if_icmp .lt 6, 3) := by decide +kernel
theorem dX6_text_9 : decode cX6_text 9 = .ok (.bipush (-4), 2) := by decide +kernel
theorem dX6_text_11 : decode cX6_text 11 = .ok (.ireturn, 1) := by decide +kernel
theorem dX6_text_12 : decode cX6_text 12 = .ok (.aload_n 0, 1) := by decide +kernel
theorem dX6_text_13 : decode cX6_text 13 = .ok (.getfield 42, 3) := by decide +kernel
theorem dX6_text_16 : decode cX6_text 16 = .ok (.invokevirtual 101, 3) := by decide +kernel
theorem dX6_text_19 : decode cX6_text 19 = .ok (.istore_n 1, 1) := by decide +kernel
theorem dX6_text_20 : decode cX6_text 20 = .ok (.aload_n 0, 1) := by decide +kernel
theorem dX6_text_21 : decode cX6_text 21 = .ok (.getfield 42, 3) := by decide +kernel
theorem dX6_text_24 : decode cX6_text 24 = .ok (.invokevirtual 105, 3) := by decide +kernel
theorem dX6_text_27 : decode cX6_text 27 = .ok (.iload_n 1, 1) := by decide +kernel
theorem dX6_text_28 : decode cX6_text 28 = .ok (.ifCond .ne 14, 3) := by decide +kernel
theorem dX6_text_31 : decode cX6_text 31 = .ok (.bipush (-100), 2) := by decide +kernel
theorem dX6_text_33 : decode cX6_text 33 = .ok (.aload_n 0, 1) := by decide +kernel
theorem dX6_text_34 : decode cX6_text 34 = .ok (.getfield 42, 3) := by decide +kernel
theorem dX6_text_37 : decode cX6_text 37 = .ok (.invokevirtual 108, 3) := by decide +kernel
theorem dX6_text_40 : decode cX6_text 40 = .ok (.isub, 1) := by decide +kernel
theorem dX6_text_41 : decode cX6_text 41 = .ok (.ireturn, 1) := by decide +kernel
theorem dX6_text_42 : decode cX6_text 42 = .ok (.aload_n 0, 1) := by decide +kernel
theorem dX6_text_43 : decode cX6_text 43 = .ok (.getfield 36, 3) := by decide +kernel
theorem dX6_text_46 : decode cX6_text 46 = .ok (.istore_n 2, 1) := by decide +kernel
theorem dX6_text_47 : decode cX6_text 47 = .ok (.aload_n 0, 1) := by decide +kernel
theorem dX6_text_48 : decode cX6_text 48 = .ok (.getfield 32, 3) := by decide +kernel
theorem dX6_text_51 : decode cX6_text 51 = .ok (.iload_n 2, 1) := by decide +kernel
theorem dX6_text_52 : decode cX6_text 52 = .ok (.aload_n 0, 1) := by decide +kernel
theorem dX6_text_53 : decode cX6_text 53 = .ok (.getfield 42, 3) := by decide +kernel
theorem dX6_text_56 : decode cX6_text 56 = .ok (.invokevirtual 111, 3) := by decide +kernel
theorem dX6_text_59 : decode cX6_text 59 = .ok (.aastore, 1) := by decide +kernel
theorem dX6_text_60 : decode cX6_text 60 = .ok (.aload_n 0, 1) := by decide +kernel
theorem dX6_text_61 : decode cX6_text 61 = .ok (.dup, 1) := by decide +kernel
theorem dX6_text_62 : decode cX6_text 62 = .ok (.getfield 36, 3) := by decide +kernel
theorem dX6_text_65 : decode cX6_text 65 = .ok (.iconst 1, 1) := by decide +kernel
theorem dX6_text_66 : decode cX6_text 66 = .ok (.iadd, 1) := by decide +kernel
theorem dX6_text_67 : decode cX6_text 67 = .ok (.putfield 36, 3) := by decide +kernel
theorem dX6_text_70 : decode cX6_text 70 = .ok (.iload_n 2, 1) := by decide +kernel
theorem dX6_text_71 : decode cX6_text 71 = .ok (.ireturn, 1) := by decide +kernel
theorem dX6_force_0 : decode cX6_force 0 = .ok (.iload_n 1, 1) := by decide +kernel
theorem dX6_force_1 : decode cX6_force 1 = .ok (.iconst 0, 1) := by decide +kernel
theorem dX6_force_2 : decode cX6_force 2 = .ok (.aload_n 0, 1) := by decide +kernel
theorem dX6_force_3 : decode cX6_force 3 = .ok (.getfield 36, 3) := by decide +kernel
theorem dX6_force_6 : decode cX6_force 6 = .ok (.iconst 1, 1) := by decide +kernel
theorem dX6_force_7 : decode cX6_force 7 = .ok (.isub, 1) := by decide +kernel
theorem dX6_force_8 : decode cX6_force 8 = .ok (.invokestatic 86, 3) := by decide +kernel
theorem dX6_force_11 : decode cX6_force 11 = .ok (.ifCond .ne 6, 3) := by decide +kernel
theorem dX6_force_14 : decode cX6_force 14 = .ok (.bipush (-2), 2) := by decide +kernel
theorem dX6_force_16 : decode cX6_force 16 = .ok (.ireturn, 1) := by decide +kernel
theorem dX6_force_17 : decode cX6_force 17 = .ok (.aload_n 0, 1) := by decide +kernel
theorem dX6_force_18 : decode cX6_force 18 = .ok (.getfield 79, 3) := by decide +kernel
theorem dX6_force_21 : decode cX6_force 21 = .ok (.istore_n 2, 1) := by decide +kernel
theorem dX6_force_22 : decode cX6_force 22 = .ok (.aload_n 0, 1) := by decide +kernel
theorem dX6_force_23 : decode cX6_force 23 = .ok (.iload_n 1, 1) := by decide +kernel
theorem dX6_force_24 : decode cX6_force 24 = .ok (.putfield 79, 3) := by decide +kernel
theorem dX6_force_27 : decode cX6_force 27 = .ok (.iload_n 2, 1) := by decide +kernel
theorem dX6_force_28 : decode cX6_force 28 = .ok (.ireturn, 1) := by decide +kernel
theorem dX6_asks_0 : decode cX6_asks 0 = .ok (.iload_n 1, 1) := by decide +kernel
theorem dX6_asks_1 : decode cX6_asks 1 = .ok (.iconst 0, 1) := by decide +kernel
theorem dX6_asks_2 : decode cX6_asks 2 = .ok (.iconst 2, 1) := by decide +kernel
theorem dX6_asks_3 : decode cX6_asks 3 = .ok (.invokestatic 86, 3) := by decide +kernel
theorem dX6_asks_6 : decode cX6_asks 6 = .ok (.ifCond .eq 26, 3) := by decide +kernel
theorem dX6_asks_9 : decode cX6_asks 9 = .ok (.aload_n 0, 1) := by decide +kernel
theorem dX6_asks_10 : decode cX6_asks 10 = .ok (.iload_n 2, 1) := by decide +kernel
theorem dX6_asks_11 : decode cX6_asks 11 = .ok (.invokevirtual 115, 3) := by decide +kernel
theorem dX6_asks_14 : decode cX6_asks 14 = .ok (.ifCond .eq 18, 3) := by decide +kernel
theorem dX6_asks_17 : decode cX6_asks 17 = .ok (.iload_n 3, 1) := by decide +kernel
theorem dX6_asks_18 : decode cX6_asks 18 = .ok (.invokestatic 118, 3) := by decide +kernel
theorem dX6_asks_21 : decode cX6_asks 21 = .ok (.ifCond .eq 11, 3) := by decide +kernel
theorem dX6_asks_24 : decode cX6_asks 24 = .ok (.iload 4, 2) := by decide +kernel
theorem dX6_asks_26 : decode cX6_asks 26 = .ok (.invokestatic 118, 3) := by decide +kernel
theorem dX6_asks_29 : decode cX6_asks 29 = .ok (.ifCond .ne 6, 3) := by decide +kernel
theorem dX6_asks_32 : decode cX6_asks 32 = .ok (.bipush (-2), 2) := by decide +kernel
theorem dX6_asks_34 : decode cX6_asks 34 = .ok (.ireturn, 1) := by decide +kernel
theorem dX6_asks_35 : decode cX6_asks 35 = .ok (.aload_n 0, 1) := by decide +kernel
theorem dX6_asks_36 : decode cX6_asks 36 = .ok (.iload_n 2, 1) := by decide +kernel
theorem dX6_asks_37 : decode cX6_asks 37 = .ok (.invokevirtual 121, 3) := by decide +kernel
theorem dX6_asks_40 : decode cX6_asks 40 = .ok (.iload_n 1, 1) := by decide +kernel
theorem dX6_asks_41 : decode cX6_asks 41 = .ok (.iload_n 3, 1) := by decide +kernel
theorem dX6_asks_42 : decode cX6_asks 42 = .ok (.iload 4, 2) := by decide +kernel
theorem dX6_asks_44 : decode cX6_asks 44 = .ok (.invokevirtual 125, 3) := by decide +kernel
theorem dX6_asks_47 : decode cX6_asks 47 = .ok (.ireturn, 1) := by decide +kernel
theorem dX6_clerk_0 : decode cX6_clerk 0 = .ok (.iload_n 1, 1) := by decide +kernel
theorem dX6_clerk_1 : decode cX6_clerk 1 = .ok (.iconst 0, 1) := by decide +kernel
theorem dX6_clerk_2 : decode cX6_clerk 2 = .ok (.iconst 5, 1) := by decide +kernel
theorem dX6_clerk_3 : decode cX6_clerk 3 = .ok (.invokestatic 86, 3) := by decide +kernel
theorem dX6_clerk_6 : decode cX6_clerk 6 = .ok (.ifCond .eq 13, 3) := by decide +kernel
theorem dX6_clerk_9 : decode cX6_clerk 9 = .ok (.iload_n 2, 1) := by decide +kernel
theorem dX6_clerk_10 : decode cX6_clerk 10 = .ok (.iconst 0, 1) := by decide +kernel
theorem dX6_clerk_11 : decode cX6_clerk 11 = .ok (.bipush 9, 2) := by decide +kernel
theorem dX6_clerk_13 : decode cX6_clerk 13 = .ok (.invokestatic 86, 3) := by decide +kernel
theorem dX6_clerk_16 : decode cX6_clerk 16 = .ok (.ifCond .ne 6, 3) := by decide +kernel
theorem dX6_clerk_19 : decode cX6_clerk 19 = .ok (.bipush (-2), 2) := by decide +kernel
theorem dX6_clerk_21 : decode cX6_clerk 21 = .ok (.ireturn, 1) := by decide +kernel
theorem dX6_clerk_22 : decode cX6_clerk 22 = .ok (.aload_n 0, 1) := by decide +kernel
theorem dX6_clerk_23 : decode cX6_clerk 23 = .ok (.getfield 76, 3) := by decide +kernel
theorem dX6_clerk_26 : decode cX6_clerk 26 = .ok (.iconst 5, 1) := by decide +kernel
theorem dX6_clerk_27 : decode cX6_clerk 27 = .ok (.if_icmp .lt 6, 3) := by decide +kernel
theorem dX6_clerk_30 : decode cX6_clerk 30 = .ok (.bipush (-4), 2) := by decide +kernel
theorem dX6_clerk_32 : decode cX6_clerk 32 = .ok (.ireturn, 1) := by decide +kernel
theorem dX6_clerk_33 : decode cX6_clerk 33 = .ok (.aload_n 0, 1) := by decide +kernel
theorem dX6_clerk_34 : decode cX6_clerk 34 = .ok (.getfield 76, 3) := by decide +kernel
theorem dX6_clerk_37 : decode cX6_clerk 37 = .ok (.istore_n 3, 1) := by decide +kernel
theorem dX6_clerk_38 : decode cX6_clerk 38 = .ok (.aload_n 0, 1) := by decide +kernel
theorem dX6_clerk_39 : decode cX6_clerk 39 = .ok (.getfield 16, 3) := by decide +kernel
theorem dX6_clerk_42 : decode cX6_clerk 42 = .ok (.iload_n 3, 1) := by decide +kernel
theorem dX6_clerk_43 : decode cX6_clerk 43 = .ok (.iload_n 1, 1) := by decide +kernel
theorem dX6_clerk_44 : decode cX6_clerk 44 = .ok (.iastore, 1) := by decide +kernel
theorem dX6_clerk_45 : decode cX6_clerk 45 = .ok (.aload_n 0, 1) := by decide +kernel
theorem dX6_clerk_46 : decode cX6_clerk 46 = .ok (.getfield 20, 3) := by decide +kernel
theorem dX6_clerk_49 : decode cX6_clerk 49 = .ok (.iload_n 3, 1) := by decide +kernel
theorem dX6_clerk_50 : decode cX6_clerk 50 = .ok (.iload_n 2, 1) := by decide +kernel
theorem dX6_clerk_51 : decode cX6_clerk 51 = .ok (.iastore, 1) := by decide +kernel
theorem dX6_clerk_52 : decode cX6_clerk 52 = .ok (.aload_n 0, 1) := by decide +kernel
theorem dX6_clerk_53 : decode cX6_clerk 53 = .ok (.dup, 1) := by decide +kernel
theorem dX6_clerk_54 : decode cX6_clerk 54 = .ok (.getfield 76, 3) := by decide +kernel
theorem dX6_clerk_57 : decode cX6_clerk 57 = .ok (.iconst 1, 1) := by decide +kernel
theorem dX6_clerk_58 : decode cX6_clerk 58 = .ok (.iadd, 1) := by decide +kernel
theorem dX6_clerk_59 : decode cX6_clerk 59 = .ok (.putfield 76, 3) := by decide +kernel
theorem dX6_clerk_62 : decode cX6_clerk 62 = .ok (.iload_n 3, 1) := by decide +kernel
theorem dX6_clerk_63 : decode cX6_clerk 63 = .ok (.ireturn, 1) := by decide +kernel
theorem dX6_told_0 : decode cX6_told 0 = .ok (.aload_n 0, 1) := by decide +kernel
theorem dX6_told_1 : decode cX6_told 1 = .ok (.iload_n 1, 1) := by decide +kernel
theorem dX6_told_2 : decode cX6_told 2 = .ok (.invokevirtual 115, 3) := by decide +kernel
theorem dX6_told_5 : decode cX6_told 5 = .ok (.ifCond .ne 6, 3) := by decide +kernel
theorem dX6_told_8 : decode cX6_told 8 = .ok (.bipush (-5), 2) := by decide +kernel
theorem dX6_told_10 : decode cX6_told 10 = .ok (.ireturn, 1) := by decide +kernel
theorem dX6_told_11 : decode cX6_told 11 = .ok (.iload_n 2, 1) := by decide +kernel
theorem dX6_told_12 : decode cX6_told 12 = .ok (.tableswitch 72 0 3 #[32, 39, 46, 55], 32) := by decide +kernel
theorem dX6_told_44 : decode cX6_told 44 = .ok (.aload_n 0, 1) := by decide +kernel
theorem dX6_told_45 : decode cX6_told 45 = .ok (.getfield 16, 3) := by decide +kernel
theorem dX6_told_48 : decode cX6_told 48 = .ok (.iload_n 1, 1) := by decide +kernel
theorem dX6_told_49 : decode cX6_told 49 = .ok (.iaload, 1) := by decide +kernel
theorem dX6_told_50 : decode cX6_told 50 = .ok (.ireturn, 1) := by decide +kernel
theorem dX6_told_51 : decode cX6_told 51 = .ok (.aload_n 0, 1) := by decide +kernel
theorem dX6_told_52 : decode cX6_told 52 = .ok (.getfield 20, 3) := by decide +kernel
theorem dX6_told_55 : decode cX6_told 55 = .ok (.iload_n 1, 1) := by decide +kernel
theorem dX6_told_56 : decode cX6_told 56 = .ok (.iaload, 1) := by decide +kernel
theorem dX6_told_57 : decode cX6_told 57 = .ok (.ireturn, 1) := by decide +kernel
theorem dX6_told_58 : decode cX6_told 58 = .ok (.aload_n 0, 1) := by decide +kernel
theorem dX6_told_59 : decode cX6_told 59 = .ok (.iload_n 1, 1) := by decide +kernel
theorem dX6_told_60 : decode cX6_told 60 = .ok (.invokevirtual 121, 3) := by decide +kernel
theorem dX6_told_63 : decode cX6_told 63 = .ok (.invokevirtual 129, 3) := by decide +kernel
theorem dX6_told_66 : decode cX6_told 66 = .ok (.ireturn, 1) := by decide +kernel
theorem dX6_told_67 : decode cX6_told 67 = .ok (.aload_n 0, 1) := by decide +kernel
theorem dX6_told_68 : decode cX6_told 68 = .ok (.iload_n 1, 1) := by decide +kernel
theorem dX6_told_69 : decode cX6_told 69 = .ok (.invokevirtual 121, 3) := by decide +kernel
theorem dX6_told_72 : decode cX6_told 72 = .ok (.invokevirtual 132, 3) := by decide +kernel
theorem dX6_told_75 : decode cX6_told 75 = .ok (.ifCond .eq 7, 3) := by decide +kernel
theorem dX6_told_78 : decode cX6_told 78 = .ok (.iconst 1, 1) := by decide +kernel
theorem dX6_told_79 : decode cX6_told 79 = .ok (.goto 4, 3) := by decide +kernel
theorem dX6_told_82 : decode cX6_told 82 = .ok (.iconst 0, 1) := by decide +kernel
theorem dX6_told_83 : decode cX6_told 83 = .ok (.ireturn, 1) := by decide +kernel
theorem dX6_told_84 : decode cX6_told 84 = .ok (.bipush (-7), 2) := by decide +kernel
theorem dX6_told_86 : decode cX6_told 86 = .ok (.ireturn, 1) := by decide +kernel
theorem dX6_figure_0 : decode cX6_figure 0 = .ok (.aload_n 0, 1) := by decide +kernel
theorem dX6_figure_1 : decode cX6_figure 1 = .ok (.iload_n 1, 1) := by decide +kernel
theorem dX6_figure_2 : decode cX6_figure 2 = .ok (.invokevirtual 115, 3) := by decide +kernel
theorem dX6_figure_5 : decode cX6_figure 5 = .ok (.ifCond .ne 6, 3) := by decide +kernel
theorem dX6_figure_8 : decode cX6_figure 8 = .ok (.bipush (-5), 2) := by decide +kernel
theorem dX6_figure_10 : decode cX6_figure 10 = .ok (.ireturn, 1) := by decide +kernel
theorem dX6_figure_11 : decode cX6_figure 11 = .ok (.iload_n 2, 1) := by decide +kernel
theorem dX6_figure_12 : decode cX6_figure 12 = .ok (.invokestatic 118, 3) := by decide +kernel
theorem dX6_figure_15 : decode cX6_figure 15 = .ok (.ifCond .eq 13, 3) := by decide +kernel
theorem dX6_figure_18 : decode cX6_figure 18 = .ok (.iload_n 3, 1) := by decide +kernel
theorem dX6_figure_19 : decode cX6_figure 19 = .ok (.iconst 0, 1) := by decide +kernel
theorem dX6_figure_20 : decode cX6_figure 20 = .ok (.bipush 40, 2) := by decide +kernel
theorem dX6_figure_22 : decode cX6_figure 22 = .ok (.invokestatic 86, 3) := by decide +kernel
theorem dX6_figure_25 : decode cX6_figure 25 = .ok (.ifCond .ne 6, 3) := by decide +kernel
theorem dX6_figure_28 : decode cX6_figure 28 = .ok (.bipush (-7), 2) := by decide +kernel
theorem dX6_figure_30 : decode cX6_figure 30 = .ok (.ireturn, 1) := by decide +kernel
theorem dX6_figure_31 : decode cX6_figure 31 = .ok (.aload_n 0, 1) := by decide +kernel
theorem dX6_figure_32 : decode cX6_figure 32 = .ok (.iload_n 1, 1) := by decide +kernel
theorem dX6_figure_33 : decode cX6_figure 33 = .ok (.invokevirtual 121, 3) := by decide +kernel
theorem dX6_figure_36 : decode cX6_figure 36 = .ok (.astore 4, 2) := by decide +kernel
theorem dX6_figure_38 : decode cX6_figure 38 = .ok (.aload 4, 2) := by decide +kernel
theorem dX6_figure_40 : decode cX6_figure 40 = .ok (.iload_n 2, 1) := by decide +kernel
theorem dX6_figure_41 : decode cX6_figure 41 = .ok (.invokevirtual 135, 3) := by decide +kernel
theorem dX6_figure_44 : decode cX6_figure 44 = .ok (.iload_n 3, 1) := by decide +kernel
theorem dX6_figure_45 : decode cX6_figure 45 = .ok (.ifCond .ne 9, 3) := by decide +kernel
theorem dX6_figure_48 : decode cX6_figure 48 = .ok (.aload 4, 2) := by decide +kernel
theorem dX6_figure_50 : decode cX6_figure 50 = .ok (.invokevirtual 138, 3) := by decide +kernel
theorem dX6_figure_53 : decode cX6_figure 53 = .ok (.ireturn, 1) := by decide +kernel
theorem dX6_figure_54 : decode cX6_figure 54 = .ok (.iload_n 3, 1) := by decide +kernel
theorem dX6_figure_55 : decode cX6_figure 55 = .ok (.aload 4, 2) := by decide +kernel
theorem dX6_figure_57 : decode cX6_figure 57 = .ok (.invokevirtual 138, 3) := by decide +kernel
theorem dX6_figure_60 : decode cX6_figure 60 = .ok (.if_icmp .le 7, 3) := by decide +kernel
theorem dX6_figure_63 : decode cX6_figure 63 = .ok (.iconst (-1), 1) := by decide +kernel
theorem dX6_figure_64 : decode cX6_figure 64 = .ok (.goto 11, 3) := by decide +kernel
theorem dX6_figure_67 : decode cX6_figure 67 = .ok (.aload 4, 2) := by decide +kernel
theorem dX6_figure_69 : decode cX6_figure 69 = .ok (.iload_n 3, 1) := by decide +kernel
theorem dX6_figure_70 : decode cX6_figure 70 = .ok (.iconst 1, 1) := by decide +kernel
theorem dX6_figure_71 : decode cX6_figure 71 = .ok (.isub, 1) := by decide +kernel
theorem dX6_figure_72 : decode cX6_figure 72 = .ok (.invokevirtual 141, 3) := by decide +kernel
theorem dX6_figure_75 : decode cX6_figure 75 = .ok (.ireturn, 1) := by decide +kernel
theorem dX6_reads_0 : decode cX6_reads 0 = .ok (.iload_n 1, 1) := by decide +kernel
theorem dX6_reads_1 : decode cX6_reads 1 = .ok (.bipush 100, 2) := by decide +kernel
theorem dX6_reads_3 : decode cX6_reads 3 = .ok (.idiv, 1) := by decide +kernel
theorem dX6_reads_4 : decode cX6_reads 4 = .ok (.istore_n 3, 1) := by decide +kernel
theorem dX6_reads_5 : decode cX6_reads 5 = .ok (.iload_n 1, 1) := by decide +kernel
theorem dX6_reads_6 : decode cX6_reads 6 = .ok (.bipush 100, 2) := by decide +kernel
theorem dX6_reads_8 : decode cX6_reads 8 = .ok (.irem, 1) := by decide +kernel
theorem dX6_reads_9 : decode cX6_reads 9 = .ok (.istore 4, 2) := by decide +kernel
theorem dX6_reads_11 : decode cX6_reads 11 = .ok (.aload_n 0, 1) := by decide +kernel
theorem dX6_reads_12 : decode cX6_reads 12 = .ok (.iload_n 3, 1) := by decide +kernel
theorem dX6_reads_13 : decode cX6_reads 13 = .ok (.invokevirtual 115, 3) := by decide +kernel
theorem dX6_reads_16 : decode cX6_reads 16 = .ok (.ifCond .eq 12, 3) := by decide +kernel
theorem dX6_reads_19 : decode cX6_reads 19 = .ok (.aload_n 0, 1) := by decide +kernel
theorem dX6_reads_20 : decode cX6_reads 20 = .ok (.iload 4, 2) := by decide +kernel
theorem dX6_reads_22 : decode cX6_reads 22 = .ok (.invokevirtual 115, 3) := by decide +kernel
theorem dX6_reads_25 : decode cX6_reads 25 = .ok (.ifCond .ne 7, 3) := by decide +kernel
theorem dX6_reads_28 : decode cX6_reads 28 = .ok (.ldc2_w 145, 3) := by decide +kernel
theorem dX6_reads_31 : decode cX6_reads 31 = .ok (.lreturn, 1) := by decide +kernel
theorem dX6_reads_32 : decode cX6_reads 32 = .ok (.iload_n 2, 1) := by decide +kernel
theorem dX6_reads_33 : decode cX6_reads 33 = .ok (.invokestatic 118, 3) := by decide +kernel
theorem dX6_reads_36 : decode cX6_reads 36 = .ok (.ifCond .ne 7, 3) := by decide +kernel
theorem dX6_reads_39 : decode cX6_reads 39 = .ok (.ldc2_w 147, 3) := by decide +kernel
theorem dX6_reads_42 : decode cX6_reads 42 = .ok (.lreturn, 1) := by decide +kernel
theorem dX6_reads_43 : decode cX6_reads 43 = .ok (.aload_n 0, 1) := by decide +kernel
theorem dX6_reads_44 : decode cX6_reads 44 = .ok (.iload_n 3, 1) := by decide +kernel
theorem dX6_reads_45 : decode cX6_reads 45 = .ok (.invokevirtual 121, 3) := by decide +kernel
theorem dX6_reads_48 : decode cX6_reads 48 = .ok (.astore 5, 2) := by decide +kernel
theorem dX6_reads_50 : decode cX6_reads 50 = .ok (.aload 5, 2) := by decide +kernel
theorem dX6_reads_52 : decode cX6_reads 52 = .ok (.invokevirtual 129, 3) := by decide +kernel
theorem dX6_reads_55 : decode cX6_reads 55 = .ok (.istore 6, 2) := by decide +kernel
theorem dX6_reads_57 : decode cX6_reads 57 = .ok (.aload 5, 2) := by decide +kernel
theorem dX6_reads_59 : decode cX6_reads 59 = .ok (.invokevirtual 132, 3) := by decide +kernel
theorem dX6_reads_62 : decode cX6_reads 62 = .ok (.istore 7, 2) := by decide +kernel
theorem dX6_reads_64 : decode cX6_reads 64 = .ok (.aload_n 0, 1) := by decide +kernel
theorem dX6_reads_65 : decode cX6_reads 65 = .ok (.iload 4, 2) := by decide +kernel
theorem dX6_reads_67 : decode cX6_reads 67 = .ok (.invokevirtual 121, 3) := by decide +kernel
theorem dX6_reads_70 : decode cX6_reads 70 = .ok (.astore 8, 2) := by decide +kernel
theorem dX6_reads_72 : decode cX6_reads 72 = .ok (.aload 8, 2) := by decide +kernel
theorem dX6_reads_74 : decode cX6_reads 74 = .ok (.iload_n 2, 1) := by decide +kernel
theorem dX6_reads_75 : decode cX6_reads 75 = .ok (.invokevirtual 135, 3) := by decide +kernel
theorem dX6_reads_78 : decode cX6_reads 78 = .ok (.aload 8, 2) := by decide +kernel
theorem dX6_reads_80 : decode cX6_reads 80 = .ok (.iload 6, 2) := by decide +kernel
theorem dX6_reads_82 : decode cX6_reads 82 = .ok (.iload 7, 2) := by decide +kernel
theorem dX6_reads_84 : decode cX6_reads 84 = .ok (.invokevirtual 149, 3) := by decide +kernel
theorem dX6_reads_87 : decode cX6_reads 87 = .ok (.lreturn, 1) := by decide +kernel
theorem dX6_plain_0 : decode cX6_plain 0 = .ok (.aload_n 0, 1) := by decide +kernel
theorem dX6_plain_1 : decode cX6_plain 1 = .ok (.iload_n 1, 1) := by decide +kernel
theorem dX6_plain_2 : decode cX6_plain 2 = .ok (.invokevirtual 115, 3) := by decide +kernel
theorem dX6_plain_5 : decode cX6_plain 5 = .ok (.ifCond .ne 7, 3) := by decide +kernel
theorem dX6_plain_8 : decode cX6_plain 8 = .ok (.ldc2_w 145, 3) := by decide +kernel
theorem dX6_plain_11 : decode cX6_plain 11 = .ok (.lreturn, 1) := by decide +kernel
theorem dX6_plain_12 : decode cX6_plain 12 = .ok (.iload_n 2, 1) := by decide +kernel
theorem dX6_plain_13 : decode cX6_plain 13 = .ok (.invokestatic 118, 3) := by decide +kernel
theorem dX6_plain_16 : decode cX6_plain 16 = .ok (.ifCond .ne 7, 3) := by decide +kernel
theorem dX6_plain_19 : decode cX6_plain 19 = .ok (.ldc2_w 147, 3) := by decide +kernel
theorem dX6_plain_22 : decode cX6_plain 22 = .ok (.lreturn, 1) := by decide +kernel
theorem dX6_plain_23 : decode cX6_plain 23 = .ok (.aload_n 0, 1) := by decide +kernel
theorem dX6_plain_24 : decode cX6_plain 24 = .ok (.iload_n 1, 1) := by decide +kernel
theorem dX6_plain_25 : decode cX6_plain 25 = .ok (.invokevirtual 121, 3) := by decide +kernel
theorem dX6_plain_28 : decode cX6_plain 28 = .ok (.astore_n 3, 1) := by decide +kernel
theorem dX6_plain_29 : decode cX6_plain 29 = .ok (.aload_n 3, 1) := by decide +kernel
theorem dX6_plain_30 : decode cX6_plain 30 = .ok (.iload_n 2, 1) := by decide +kernel
theorem dX6_plain_31 : decode cX6_plain 31 = .ok (.invokevirtual 135, 3) := by decide +kernel
theorem dX6_plain_34 : decode cX6_plain 34 = .ok (.aload_n 3, 1) := by decide +kernel
theorem dX6_plain_35 : decode cX6_plain 35 = .ok (.invokevirtual 153, 3) := by decide +kernel
theorem dX6_plain_38 : decode cX6_plain 38 = .ok (.lreturn, 1) := by decide +kernel
theorem dX6_adds_0 : decode cX6_adds 0 = .ok (.aload_n 0, 1) := by decide +kernel
theorem dX6_adds_1 : decode cX6_adds 1 = .ok (.iload_n 1, 1) := by decide +kernel
theorem dX6_adds_2 : decode cX6_adds 2 = .ok (.invokevirtual 115, 3) := by decide +kernel
theorem dX6_adds_5 : decode cX6_adds 5 = .ok (.ifCond .ne 7, 3) := by decide +kernel
theorem dX6_adds_8 : decode cX6_adds 8 = .ok (.ldc2_w 145, 3) := by decide +kernel
theorem dX6_adds_11 : decode cX6_adds 11 = .ok (.lreturn, 1) := by decide +kernel
theorem dX6_adds_12 : decode cX6_adds 12 = .ok (.iload_n 2, 1) := by decide +kernel
theorem dX6_adds_13 : decode cX6_adds 13 = .ok (.invokestatic 118, 3) := by decide +kernel
theorem dX6_adds_16 : decode cX6_adds 16 = .ok (.ifCond .eq 10, 3) := by decide +kernel
theorem dX6_adds_19 : decode cX6_adds 19 = .ok (.iload_n 3, 1) := by decide +kernel
theorem dX6_adds_20 : decode cX6_adds 20 = .ok (.invokestatic 118, 3) := by decide +kernel
theorem dX6_adds_23 : decode cX6_adds 23 = .ok (.ifCond .ne 7, 3) := by decide +kernel
theorem dX6_adds_26 : decode cX6_adds 26 = .ok (.ldc2_w 147, 3) := by decide +kernel
theorem dX6_adds_29 : decode cX6_adds 29 = .ok (.lreturn, 1) := by decide +kernel
theorem dX6_adds_30 : decode cX6_adds 30 = .ok (.aload_n 0, 1) := by decide +kernel
theorem dX6_adds_31 : decode cX6_adds 31 = .ok (.iload_n 1, 1) := by decide +kernel
theorem dX6_adds_32 : decode cX6_adds 32 = .ok (.invokevirtual 121, 3) := by decide +kernel
theorem dX6_adds_35 : decode cX6_adds 35 = .ok (.astore 4, 2) := by decide +kernel
theorem dX6_adds_37 : decode cX6_adds 37 = .ok (.aload 4, 2) := by decide +kernel
theorem dX6_adds_39 : decode cX6_adds 39 = .ok (.iload_n 2, 1) := by decide +kernel
theorem dX6_adds_40 : decode cX6_adds 40 = .ok (.invokevirtual 157, 3) := by decide +kernel
theorem dX6_adds_43 : decode cX6_adds 43 = .ok (.i2l, 1) := by decide +kernel
theorem dX6_adds_44 : decode cX6_adds 44 = .ok (.aload 4, 2) := by decide +kernel
theorem dX6_adds_46 : decode cX6_adds 46 = .ok (.iload_n 3, 1) := by decide +kernel
theorem dX6_adds_47 : decode cX6_adds 47 = .ok (.invokevirtual 157, 3) := by decide +kernel
theorem dX6_adds_50 : decode cX6_adds 50 = .ok (.i2l, 1) := by decide +kernel
theorem dX6_adds_51 : decode cX6_adds 51 = .ok (.ladd, 1) := by decide +kernel
theorem dX6_adds_52 : decode cX6_adds 52 = .ok (.lreturn, 1) := by decide +kernel
theorem dX6_apart_0 : decode cX6_apart 0 = .ok (.aload_n 0, 1) := by decide +kernel
theorem dX6_apart_1 : decode cX6_apart 1 = .ok (.iload_n 1, 1) := by decide +kernel
theorem dX6_apart_2 : decode cX6_apart 2 = .ok (.invokevirtual 115, 3) := by decide +kernel
theorem dX6_apart_5 : decode cX6_apart 5 = .ok (.ifCond .ne 6, 3) := by decide +kernel
theorem dX6_apart_8 : decode cX6_apart 8 = .ok (.bipush (-5), 2) := by decide +kernel
theorem dX6_apart_10 : decode cX6_apart 10 = .ok (.ireturn, 1) := by decide +kernel
theorem dX6_apart_11 : decode cX6_apart 11 = .ok (.iload_n 2, 1) := by decide +kernel
theorem dX6_apart_12 : decode cX6_apart 12 = .ok (.iconst 0, 1) := by decide +kernel
theorem dX6_apart_13 : decode cX6_apart 13 = .ok (.sipush 999, 3) := by decide +kernel
theorem dX6_apart_16 : decode cX6_apart 16 = .ok (.invokestatic 86, 3) := by decide +kernel
theorem dX6_apart_19 : decode cX6_apart 19 = .ok (.ifCond .eq 10, 3) := by decide +kernel
theorem dX6_apart_22 : decode cX6_apart 22 = .ok (.iload_n 3, 1) := by decide +kernel
theorem dX6_apart_23 : decode cX6_apart 23 = .ok (.invokestatic 160, 3) := by decide +kernel
theorem dX6_apart_26 : decode cX6_apart 26 = .ok (.ifCond .ne 6, 3) := by decide +kernel
theorem dX6_apart_29 : decode cX6_apart 29 = .ok (.bipush (-7), 2) := by decide +kernel
theorem dX6_apart_31 : decode cX6_apart 31 = .ok (.ireturn, 1) := by decide +kernel
theorem dX6_apart_32 : decode cX6_apart 32 = .ok (.aload_n 0, 1) := by decide +kernel
theorem dX6_apart_33 : decode cX6_apart 33 = .ok (.iload_n 1, 1) := by decide +kernel
theorem dX6_apart_34 : decode cX6_apart 34 = .ok (.invokevirtual 121, 3) := by decide +kernel
theorem dX6_apart_37 : decode cX6_apart 37 = .ok (.astore 4, 2) := by decide +kernel
theorem dX6_apart_39 : decode cX6_apart 39 = .ok (.iconst 0, 1) := by decide +kernel
theorem dX6_apart_40 : decode cX6_apart 40 = .ok (.istore 5, 2) := by decide +kernel
theorem dX6_apart_42 : decode cX6_apart 42 = .ok (.iload 5, 2) := by decide +kernel
theorem dX6_apart_44 : decode cX6_apart 44 = .ok (.sipush 999, 3) := by decide +kernel
theorem dX6_apart_47 : decode cX6_apart 47 = .ok (.if_icmp .gt 58, 3) := by decide +kernel
theorem dX6_apart_50 : decode cX6_apart 50 = .ok (.iload 5, 2) := by decide +kernel
theorem dX6_apart_52 : decode cX6_apart 52 = .ok (.iload_n 2, 1) := by decide +kernel
theorem dX6_apart_53 : decode cX6_apart 53 = .ok (.iadd, 1) := by decide +kernel
theorem dX6_apart_54 : decode cX6_apart 54 = .ok (.istore 6, 2) := by decide +kernel
theorem dX6_apart_56 : decode cX6_apart 56 = .ok (.aload 4, 2) := by decide +kernel
theorem dX6_apart_58 : decode cX6_apart 58 = .ok (.iload 5, 2) := by decide +kernel
theorem dX6_apart_60 : decode cX6_apart 60 = .ok (.invokevirtual 157, 3) := by decide +kernel
theorem dX6_apart_63 : decode cX6_apart 63 = .ok (.aload 4, 2) := by decide +kernel
theorem dX6_apart_65 : decode cX6_apart 65 = .ok (.iload 6, 2) := by decide +kernel
theorem dX6_apart_67 : decode cX6_apart 67 = .ok (.invokevirtual 157, 3) := by decide +kernel
theorem dX6_apart_70 : decode cX6_apart 70 = .ok (.iadd, 1) := by decide +kernel
theorem dX6_apart_71 : decode cX6_apart 71 = .ok (.iload 5, 2) := by decide +kernel
theorem dX6_apart_73 : decode cX6_apart 73 = .ok (.iload 6, 2) := by decide +kernel
theorem dX6_apart_75 : decode cX6_apart 75 = .ok (.iadd, 1) := by decide +kernel
theorem dX6_apart_76 : decode cX6_apart 76 = .ok (.isub, 1) := by decide +kernel
theorem dX6_apart_77 : decode cX6_apart 77 = .ok (.invokestatic 163, 3) := by decide +kernel
theorem dX6_apart_80 : decode cX6_apart 80 = .ok (.istore 7, 2) := by decide +kernel
theorem dX6_apart_82 : decode cX6_apart 82 = .ok (.iload 7, 2) := by decide +kernel
theorem dX6_apart_84 : decode cX6_apart 84 = .ok (.ifCond .eq 15, 3) := by decide +kernel
theorem dX6_apart_87 : decode cX6_apart 87 = .ok (.iload_n 3, 1) := by decide +kernel
theorem dX6_apart_88 : decode cX6_apart 88 = .ok (.ifCond .ne 8, 3) := by decide +kernel
theorem dX6_apart_91 : decode cX6_apart 91 = .ok (.iload 5, 2) := by decide +kernel
theorem dX6_apart_93 : decode cX6_apart 93 = .ok (.goto 5, 3) := by decide +kernel
theorem dX6_apart_96 : decode cX6_apart 96 = .ok (.iload 7, 2) := by decide +kernel
theorem dX6_apart_98 : decode cX6_apart 98 = .ok (.ireturn, 1) := by decide +kernel
theorem dX6_apart_99 : decode cX6_apart 99 = .ok (.iinc 5 1, 3) := by decide +kernel
theorem dX6_apart_102 : decode cX6_apart 102 = .ok (.goto (-60), 3) := by decide +kernel
theorem dX6_apart_105 : decode cX6_apart 105 = .ok (.iload_n 3, 1) := by decide +kernel
theorem dX6_apart_106 : decode cX6_apart 106 = .ok (.ifCond .ne 7, 3) := by decide +kernel
theorem dX6_apart_109 : decode cX6_apart 109 = .ok (.iconst (-1), 1) := by decide +kernel
theorem dX6_apart_110 : decode cX6_apart 110 = .ok (.goto 4, 3) := by decide +kernel
theorem dX6_apart_113 : decode cX6_apart 113 = .ok (.iconst 0, 1) := by decide +kernel
theorem dX6_apart_114 : decode cX6_apart 114 = .ok (.ireturn, 1) := by decide +kernel
theorem dX6_book_0 : decode cX6_book 0 = .ok (.aload_n 0, 1) := by decide +kernel
theorem dX6_book_1 : decode cX6_book 1 = .ok (.iload_n 1, 1) := by decide +kernel
theorem dX6_book_2 : decode cX6_book 2 = .ok (.invokevirtual 168, 3) := by decide +kernel
theorem dX6_book_5 : decode cX6_book 5 = .ok (.istore 4, 2) := by decide +kernel
theorem dX6_book_7 : decode cX6_book 7 = .ok (.iload 4, 2) := by decide +kernel
theorem dX6_book_9 : decode cX6_book 9 = .ok (.ifCond .eq 7, 3) := by decide +kernel
theorem dX6_book_12 : decode cX6_book 12 = .ok (.iload 4, 2) := by decide +kernel
theorem dX6_book_14 : decode cX6_book 14 = .ok (.i2l, 1) := by decide +kernel
theorem dX6_book_15 : decode cX6_book 15 = .ok (.lreturn, 1) := by decide +kernel
theorem dX6_book_16 : decode cX6_book 16 = .ok (.aload_n 0, 1) := by decide +kernel
theorem dX6_book_17 : decode cX6_book 17 = .ok (.iload_n 2, 1) := by decide +kernel
theorem dX6_book_18 : decode cX6_book 18 = .ok (.invokevirtual 115, 3) := by decide +kernel
theorem dX6_book_21 : decode cX6_book 21 = .ok (.ifCond .ne 7, 3) := by decide +kernel
theorem dX6_book_24 : decode cX6_book 24 = .ok (.ldc2_w 145, 3) := by decide +kernel
theorem dX6_book_27 : decode cX6_book 27 = .ok (.lreturn, 1) := by decide +kernel
theorem dX6_book_28 : decode cX6_book 28 = .ok (.iload_n 3, 1) := by decide +kernel
theorem dX6_book_29 : decode cX6_book 29 = .ok (.iconst 0, 1) := by decide +kernel
theorem dX6_book_30 : decode cX6_book 30 = .ok (.iconst 3, 1) := by decide +kernel
theorem dX6_book_31 : decode cX6_book 31 = .ok (.invokestatic 86, 3) := by decide +kernel
theorem dX6_book_34 : decode cX6_book 34 = .ok (.ifCond .ne 7, 3) := by decide +kernel
theorem dX6_book_37 : decode cX6_book 37 = .ok (.ldc2_w 147, 3) := by decide +kernel
theorem dX6_book_40 : decode cX6_book 40 = .ok (.lreturn, 1) := by decide +kernel
theorem dX6_book_41 : decode cX6_book 41 = .ok (.aload_n 0, 1) := by decide +kernel
theorem dX6_book_42 : decode cX6_book 42 = .ok (.iload_n 1, 1) := by decide +kernel
theorem dX6_book_43 : decode cX6_book 43 = .ok (.invokevirtual 171, 3) := by decide +kernel
theorem dX6_book_46 : decode cX6_book 46 = .ok (.astore 5, 2) := by decide +kernel
theorem dX6_book_48 : decode cX6_book 48 = .ok (.aload_n 0, 1) := by decide +kernel
theorem dX6_book_49 : decode cX6_book 49 = .ok (.iload_n 2, 1) := by decide +kernel
theorem dX6_book_50 : decode cX6_book 50 = .ok (.invokevirtual 121, 3) := by decide +kernel
theorem dX6_book_53 : decode cX6_book 53 = .ok (.astore 6, 2) := by decide +kernel
theorem dX6_book_55 : decode cX6_book 55 = .ok (.aload 5, 2) := by decide +kernel
theorem dX6_book_57 : decode cX6_book 57 = .ok (.aload 6, 2) := by decide +kernel
theorem dX6_book_59 : decode cX6_book 59 = .ok (.invokestatic 175, 3) := by decide +kernel
theorem dX6_book_62 : decode cX6_book 62 = .ok (.lstore 7, 2) := by decide +kernel
theorem dX6_book_64 : decode cX6_book 64 = .ok (.aload 5, 2) := by decide +kernel
theorem dX6_book_66 : decode cX6_book 66 = .ok (.invokestatic 179, 3) := by decide +kernel
theorem dX6_book_69 : decode cX6_book 69 = .ok (.lstore 9, 2) := by decide +kernel
theorem dX6_book_71 : decode cX6_book 71 = .ok (.lload 7, 2) := by decide +kernel
theorem dX6_book_73 : decode cX6_book 73 = .ok (.lload 9, 2) := by decide +kernel
theorem dX6_book_75 : decode cX6_book 75 = .ok (.lsub, 1) := by decide +kernel
theorem dX6_book_76 : decode cX6_book 76 = .ok (.invokestatic 183, 3) := by decide +kernel
theorem dX6_book_79 : decode cX6_book 79 = .ok (.lstore 11, 2) := by decide +kernel
theorem dX6_book_81 : decode cX6_book 81 = .ok (.iload_n 3, 1) := by decide +kernel
theorem dX6_book_82 : decode cX6_book 82 = .ok (.tableswitch 35 0 2 #[26, 29, 32], 26) := by decide +kernel
theorem dX6_book_108 : decode cX6_book 108 = .ok (.lload 7, 2) := by decide +kernel
theorem dX6_book_110 : decode cX6_book 110 = .ok (.lreturn, 1) := by decide +kernel
theorem dX6_book_111 : decode cX6_book 111 = .ok (.lload 9, 2) := by decide +kernel
theorem dX6_book_113 : decode cX6_book 113 = .ok (.lreturn, 1) := by decide +kernel
theorem dX6_book_114 : decode cX6_book 114 = .ok (.lload 11, 2) := by decide +kernel
theorem dX6_book_116 : decode cX6_book 116 = .ok (.lreturn, 1) := by decide +kernel
theorem dX6_book_117 : decode cX6_book 117 = .ok (.aload 6, 2) := by decide +kernel
theorem dX6_book_119 : decode cX6_book 119 = .ok (.iconst 2, 1) := by decide +kernel
theorem dX6_book_120 : decode cX6_book 120 = .ok (.lload 9, 2) := by decide +kernel
theorem dX6_book_122 : decode cX6_book 122 = .ok (.ldc2_w 186, 3) := by decide +kernel
theorem dX6_book_125 : decode cX6_book 125 = .ok (.invokestatic 188, 3) := by decide +kernel
theorem dX6_book_128 : decode cX6_book 128 = .ok (.l2i, 1) := by decide +kernel
theorem dX6_book_129 : decode cX6_book 129 = .ok (.lload 11, 2) := by decide +kernel
theorem dX6_book_131 : decode cX6_book 131 = .ok (.ldc2_w 186, 3) := by decide +kernel
theorem dX6_book_134 : decode cX6_book 134 = .ok (.invokestatic 188, 3) := by decide +kernel
theorem dX6_book_137 : decode cX6_book 137 = .ok (.l2i, 1) := by decide +kernel
theorem dX6_book_138 : decode cX6_book 138 = .ok (.invokevirtual 125, 3) := by decide +kernel
theorem dX6_book_141 : decode cX6_book 141 = .ok (.i2l, 1) := by decide +kernel
theorem dX6_book_142 : decode cX6_book 142 = .ok (.lreturn, 1) := by decide +kernel
theorem dX6_who_0 : decode cX6_who 0 = .ok (.aload_n 0, 1) := by decide +kernel
theorem dX6_who_1 : decode cX6_who 1 = .ok (.iload_n 1, 1) := by decide +kernel
theorem dX6_who_2 : decode cX6_who 2 = .ok (.invokevirtual 168, 3) := by decide +kernel
theorem dX6_who_5 : decode cX6_who 5 = .ok (.istore_n 3, 1) := by decide +kernel
theorem dX6_who_6 : decode cX6_who 6 = .ok (.iload_n 3, 1) := by decide +kernel
theorem dX6_who_7 : decode cX6_who 7 = .ok (.ifCond .eq 6, 3) := by decide +kernel
theorem dX6_who_10 : decode cX6_who 10 = .ok (.iload_n 3, 1) := by decide +kernel
theorem dX6_who_11 : decode cX6_who 11 = .ok (.i2l, 1) := by decide +kernel
theorem dX6_who_12 : decode cX6_who 12 = .ok (.lreturn, 1) := by decide +kernel
theorem dX6_who_13 : decode cX6_who 13 = .ok (.iload_n 2, 1) := by decide +kernel
theorem dX6_who_14 : decode cX6_who 14 = .ok (.invokestatic 160, 3) := by decide +kernel
theorem dX6_who_17 : decode cX6_who 17 = .ok (.ifCond .ne 7, 3) := by decide +kernel
theorem dX6_who_20 : decode cX6_who 20 = .ok (.ldc2_w 147, 3) := by decide +kernel
theorem dX6_who_23 : decode cX6_who 23 = .ok (.lreturn, 1) := by decide +kernel
theorem dX6_who_24 : decode cX6_who 24 = .ok (.aload_n 0, 1) := by decide +kernel
theorem dX6_who_25 : decode cX6_who 25 = .ok (.iload_n 1, 1) := by decide +kernel
theorem dX6_who_26 : decode cX6_who 26 = .ok (.invokevirtual 171, 3) := by decide +kernel
theorem dX6_who_29 : decode cX6_who 29 = .ok (.astore 4, 2) := by decide +kernel
theorem dX6_who_31 : decode cX6_who 31 = .ok (.aload 4, 2) := by decide +kernel
theorem dX6_who_33 : decode cX6_who 33 = .ok (.invokestatic 179, 3) := by decide +kernel
theorem dX6_who_36 : decode cX6_who 36 = .ok (.lstore 5, 2) := by decide +kernel
theorem dX6_who_38 : decode cX6_who 38 = .ok (.iconst (-1), 1) := by decide +kernel
theorem dX6_who_39 : decode cX6_who 39 = .ok (.istore 7, 2) := by decide +kernel
theorem dX6_who_41 : decode cX6_who 41 = .ok (.ldc2_w 192, 3) := by decide +kernel
theorem dX6_who_44 : decode cX6_who 44 = .ok (.lstore 8, 2) := by decide +kernel
theorem dX6_who_46 : decode cX6_who 46 = .ok (.iconst 0, 1) := by decide +kernel
theorem dX6_who_47 : decode cX6_who 47 = .ok (.istore 10, 2) := by decide +kernel
theorem dX6_who_49 : decode cX6_who 49 = .ok (.iload 10, 2) := by decide +kernel
theorem dX6_who_51 : decode cX6_who 51 = .ok (.aload_n 0, 1) := by decide +kernel
theorem dX6_who_52 : decode cX6_who 52 = .ok (.getfield 76, 3) := by decide +kernel
theorem dX6_who_55 : decode cX6_who 55 = .ok (.if_icmp .ge 50, 3) := by decide +kernel
theorem dX6_who_58 : decode cX6_who 58 = .ok (.aload 4, 2) := by decide +kernel
theorem dX6_who_60 : decode cX6_who 60 = .ok (.aload_n 0, 1) := by decide +kernel
theorem dX6_who_61 : decode cX6_who 61 = .ok (.iload 10, 2) := by decide +kernel
theorem dX6_who_63 : decode cX6_who 63 = .ok (.invokevirtual 121, 3) := by decide +kernel
theorem dX6_who_66 : decode cX6_who 66 = .ok (.invokestatic 175, 3) := by decide +kernel
theorem dX6_who_69 : decode cX6_who 69 = .ok (.lload 5, 2) := by decide +kernel
theorem dX6_who_71 : decode cX6_who 71 = .ok (.lsub, 1) := by decide +kernel
theorem dX6_who_72 : decode cX6_who 72 = .ok (.invokestatic 183, 3) := by decide +kernel
theorem dX6_who_75 : decode cX6_who 75 = .ok (.lstore 11, 2) := by decide +kernel
theorem dX6_who_77 : decode cX6_who 77 = .ok (.iload 7, 2) := by decide +kernel
theorem dX6_who_79 : decode cX6_who 79 = .ok (.iconst (-1), 1) := by decide +kernel
theorem dX6_who_80 : decode cX6_who 80 = .ok (.if_icmp .eq 11, 3) := by decide +kernel
theorem dX6_who_83 : decode cX6_who 83 = .ok (.lload 11, 2) := by decide +kernel
theorem dX6_who_85 : decode cX6_who 85 = .ok (.lload 8, 2) := by decide +kernel
theorem dX6_who_87 : decode cX6_who 87 = .ok (.lcmp, 1) := by decide +kernel
theorem dX6_who_88 : decode cX6_who 88 = .ok (.ifCond .ge 11, 3) := by decide +kernel
theorem dX6_who_91 : decode cX6_who 91 = .ok (.iload 10, 2) := by decide +kernel
theorem dX6_who_93 : decode cX6_who 93 = .ok (.istore 7, 2) := by decide +kernel
theorem dX6_who_95 : decode cX6_who 95 = .ok (.lload 11, 2) := by decide +kernel
theorem dX6_who_97 : decode cX6_who 97 = .ok (.lstore 8, 2) := by decide +kernel
theorem dX6_who_99 : decode cX6_who 99 = .ok (.iinc 10 1, 3) := by decide +kernel
theorem dX6_who_102 : decode cX6_who 102 = .ok (.goto (-53), 3) := by decide +kernel
theorem dX6_who_105 : decode cX6_who 105 = .ok (.iload_n 2, 1) := by decide +kernel
theorem dX6_who_106 : decode cX6_who 106 = .ok (.ifCond .ne 9, 3) := by decide +kernel
theorem dX6_who_109 : decode cX6_who 109 = .ok (.iload 7, 2) := by decide +kernel
theorem dX6_who_111 : decode cX6_who 111 = .ok (.i2l, 1) := by decide +kernel
theorem dX6_who_112 : decode cX6_who 112 = .ok (.goto 5, 3) := by decide +kernel
theorem dX6_who_115 : decode cX6_who 115 = .ok (.lload 8, 2) := by decide +kernel
theorem dX6_who_117 : decode cX6_who 117 = .ok (.lreturn, 1) := by decide +kernel
theorem dX6_smuggled_0 : decode cX6_smuggled 0 = .ok (.aload_n 0, 1) := by decide +kernel
theorem dX6_smuggled_1 : decode cX6_smuggled 1 = .ok (.iload_n 1, 1) := by decide +kernel
theorem dX6_smuggled_2 : decode cX6_smuggled 2 = .ok (.iload_n 2, 1) := by decide +kernel
theorem dX6_smuggled_3 : decode cX6_smuggled 3 = .ok (.invokevirtual 194, 3) := by decide +kernel
theorem dX6_smuggled_6 : decode cX6_smuggled 6 = .ok (.istore 4, 2) := by decide +kernel
theorem dX6_smuggled_8 : decode cX6_smuggled 8 = .ok (.iload 4, 2) := by decide +kernel
theorem dX6_smuggled_10 : decode cX6_smuggled 10 = .ok (.ifCond .eq 7, 3) := by decide +kernel
theorem dX6_smuggled_13 : decode cX6_smuggled 13 = .ok (.iload 4, 2) := by decide +kernel
theorem dX6_smuggled_15 : decode cX6_smuggled 15 = .ok (.i2l, 1) := by decide +kernel
theorem dX6_smuggled_16 : decode cX6_smuggled 16 = .ok (.lreturn, 1) := by decide +kernel
theorem dX6_smuggled_17 : decode cX6_smuggled 17 = .ok (.iload_n 3, 1) := by decide +kernel
theorem dX6_smuggled_18 : decode cX6_smuggled 18 = .ok (.invokestatic 160, 3) := by decide +kernel
theorem dX6_smuggled_21 : decode cX6_smuggled 21 = .ok (.ifCond .ne 7, 3) := by decide +kernel
theorem dX6_smuggled_24 : decode cX6_smuggled 24 = .ok (.ldc2_w 147, 3) := by decide +kernel
theorem dX6_smuggled_27 : decode cX6_smuggled 27 = .ok (.lreturn, 1) := by decide +kernel
theorem dX6_smuggled_28 : decode cX6_smuggled 28 = .ok (.aload_n 0, 1) := by decide +kernel
theorem dX6_smuggled_29 : decode cX6_smuggled 29 = .ok (.iload_n 1, 1) := by decide +kernel
theorem dX6_smuggled_30 : decode cX6_smuggled 30 = .ok (.invokevirtual 171, 3) := by decide +kernel
theorem dX6_smuggled_33 : decode cX6_smuggled 33 = .ok (.astore 5, 2) := by decide +kernel
theorem dX6_smuggled_35 : decode cX6_smuggled 35 = .ok (.aload_n 0, 1) := by decide +kernel
theorem dX6_smuggled_36 : decode cX6_smuggled 36 = .ok (.iload_n 2, 1) := by decide +kernel
theorem dX6_smuggled_37 : decode cX6_smuggled 37 = .ok (.invokevirtual 121, 3) := by decide +kernel
theorem dX6_smuggled_40 : decode cX6_smuggled 40 = .ok (.astore 6, 2) := by decide +kernel
theorem dX6_smuggled_42 : decode cX6_smuggled 42 = .ok (.aload 5, 2) := by decide +kernel
theorem dX6_smuggled_44 : decode cX6_smuggled 44 = .ok (.aload 6, 2) := by decide +kernel
theorem dX6_smuggled_46 : decode cX6_smuggled 46 = .ok (.invokestatic 175, 3) := by decide +kernel
theorem dX6_smuggled_49 : decode cX6_smuggled 49 = .ok (.aload 5, 2) := by decide +kernel
theorem dX6_smuggled_51 : decode cX6_smuggled 51 = .ok (.invokestatic 179, 3) := by decide +kernel
theorem dX6_smuggled_54 : decode cX6_smuggled 54 = .ok (.lsub, 1) := by decide +kernel
theorem dX6_smuggled_55 : decode cX6_smuggled 55 = .ok (.aload 6, 2) := by decide +kernel
theorem dX6_smuggled_57 : decode cX6_smuggled 57 = .ok (.iconst 0, 1) := by decide +kernel
theorem dX6_smuggled_58 : decode cX6_smuggled 58 = .ok (.invokevirtual 157, 3) := by decide +kernel
theorem dX6_smuggled_61 : decode cX6_smuggled 61 = .ok (.i2l, 1) := by decide +kernel
theorem dX6_smuggled_62 : decode cX6_smuggled 62 = .ok (.ladd, 1) := by decide +kernel
theorem dX6_smuggled_63 : decode cX6_smuggled 63 = .ok (.lstore 7, 2) := by decide +kernel
theorem dX6_smuggled_65 : decode cX6_smuggled 65 = .ok (.iconst (-1), 1) := by decide +kernel
theorem dX6_smuggled_66 : decode cX6_smuggled 66 = .ok (.istore 9, 2) := by decide +kernel
theorem dX6_smuggled_68 : decode cX6_smuggled 68 = .ok (.ldc2_w 192, 3) := by decide +kernel
theorem dX6_smuggled_71 : decode cX6_smuggled 71 = .ok (.lstore 10, 2) := by decide +kernel
theorem dX6_smuggled_73 : decode cX6_smuggled 73 = .ok (.iconst 0, 1) := by decide +kernel
theorem dX6_smuggled_74 : decode cX6_smuggled 74 = .ok (.istore 12, 2) := by decide +kernel
theorem dX6_smuggled_76 : decode cX6_smuggled 76 = .ok (.iload 12, 2) := by decide +kernel
theorem dX6_smuggled_78 : decode cX6_smuggled 78 = .ok (.aload 5, 2) := by decide +kernel
theorem dX6_smuggled_80 : decode cX6_smuggled 80 = .ok (.invokevirtual 198, 3) := by decide +kernel
theorem dX6_smuggled_83 : decode cX6_smuggled 83 = .ok (.if_icmp .ge 52, 3) := by decide +kernel
theorem dX6_smuggled_86 : decode cX6_smuggled 86 = .ok (.lload 7, 2) := by decide +kernel
theorem dX6_smuggled_88 : decode cX6_smuggled 88 = .ok (.aload 6, 2) := by decide +kernel
theorem dX6_smuggled_90 : decode cX6_smuggled 90 = .ok (.aload 5, 2) := by decide +kernel
theorem dX6_smuggled_92 : decode cX6_smuggled 92 = .ok (.iload 12, 2) := by decide +kernel
theorem dX6_smuggled_94 : decode cX6_smuggled 94 = .ok (.invokevirtual 199, 3) := by decide +kernel
theorem dX6_smuggled_97 : decode cX6_smuggled 97 = .ok (.invokevirtual 157, 3) := by decide +kernel
theorem dX6_smuggled_100 : decode cX6_smuggled 100 = .ok (.i2l, 1) := by decide +kernel
theorem dX6_smuggled_101 : decode cX6_smuggled 101 = .ok (.lsub, 1) := by decide +kernel
theorem dX6_smuggled_102 : decode cX6_smuggled 102 = .ok (.invokestatic 183, 3) := by decide +kernel
theorem dX6_smuggled_105 : decode cX6_smuggled 105 = .ok (.lstore 13, 2) := by decide +kernel
theorem dX6_smuggled_107 : decode cX6_smuggled 107 = .ok (.iload 9, 2) := by decide +kernel
theorem dX6_smuggled_109 : decode cX6_smuggled 109 = .ok (.iconst (-1), 1) := by decide +kernel
theorem dX6_smuggled_110 : decode cX6_smuggled 110 = .ok (.if_icmp .eq 11, 3) := by decide +kernel
theorem dX6_smuggled_113 : decode cX6_smuggled 113 = .ok (.lload 13, 2) := by decide +kernel
theorem dX6_smuggled_115 : decode cX6_smuggled 115 = .ok (.lload 10, 2) := by decide +kernel
theorem dX6_smuggled_117 : decode cX6_smuggled 117 = .ok (.lcmp, 1) := by decide +kernel
theorem dX6_smuggled_118 : decode cX6_smuggled 118 = .ok (.ifCond .ge 11, 3) := by decide +kernel
theorem dX6_smuggled_121 : decode cX6_smuggled 121 = .ok (.iload 12, 2) := by decide +kernel
theorem dX6_smuggled_123 : decode cX6_smuggled 123 = .ok (.istore 9, 2) := by decide +kernel
theorem dX6_smuggled_125 : decode cX6_smuggled 125 = .ok (.lload 13, 2) := by decide +kernel
theorem dX6_smuggled_127 : decode cX6_smuggled 127 = .ok (.lstore 10, 2) := by decide +kernel
theorem dX6_smuggled_129 : decode cX6_smuggled 129 = .ok (.iinc 12 1, 3) := by decide +kernel
theorem dX6_smuggled_132 : decode cX6_smuggled 132 = .ok (.goto (-56), 3) := by decide +kernel
theorem dX6_smuggled_135 : decode cX6_smuggled 135 = .ok (.iload_n 3, 1) := by decide +kernel
theorem dX6_smuggled_136 : decode cX6_smuggled 136 = .ok (.ifCond .ne 9, 3) := by decide +kernel
theorem dX6_smuggled_139 : decode cX6_smuggled 139 = .ok (.iload 9, 2) := by decide +kernel
theorem dX6_smuggled_141 : decode cX6_smuggled 141 = .ok (.i2l, 1) := by decide +kernel
theorem dX6_smuggled_142 : decode cX6_smuggled 142 = .ok (.goto 5, 3) := by decide +kernel
theorem dX6_smuggled_145 : decode cX6_smuggled 145 = .ok (.lload 10, 2) := by decide +kernel
theorem dX6_smuggled_147 : decode cX6_smuggled 147 = .ok (.lreturn, 1) := by decide +kernel
theorem dX6_slip_0 : decode cX6_slip 0 = .ok (.aload_n 0, 1) := by decide +kernel
theorem dX6_slip_1 : decode cX6_slip 1 = .ok (.iload_n 1, 1) := by decide +kernel
theorem dX6_slip_2 : decode cX6_slip 2 = .ok (.invokevirtual 115, 3) := by decide +kernel
theorem dX6_slip_5 : decode cX6_slip 5 = .ok (.ifCond .ne 7, 3) := by decide +kernel
theorem dX6_slip_8 : decode cX6_slip 8 = .ok (.ldc2_w 145, 3) := by decide +kernel
theorem dX6_slip_11 : decode cX6_slip 11 = .ok (.lreturn, 1) := by decide +kernel
theorem dX6_slip_12 : decode cX6_slip 12 = .ok (.iload_n 2, 1) := by decide +kernel
theorem dX6_slip_13 : decode cX6_slip 13 = .ok (.invokestatic 118, 3) := by decide +kernel
theorem dX6_slip_16 : decode cX6_slip 16 = .ok (.ifCond .eq 10, 3) := by decide +kernel
theorem dX6_slip_19 : decode cX6_slip 19 = .ok (.iload_n 3, 1) := by decide +kernel
theorem dX6_slip_20 : decode cX6_slip 20 = .ok (.invokestatic 160, 3) := by decide +kernel
theorem dX6_slip_23 : decode cX6_slip 23 = .ok (.ifCond .ne 7, 3) := by decide +kernel
theorem dX6_slip_26 : decode cX6_slip 26 = .ok (.ldc2_w 147, 3) := by decide +kernel
theorem dX6_slip_29 : decode cX6_slip 29 = .ok (.lreturn, 1) := by decide +kernel
theorem dX6_slip_30 : decode cX6_slip 30 = .ok (.aload_n 0, 1) := by decide +kernel
theorem dX6_slip_31 : decode cX6_slip 31 = .ok (.iload_n 1, 1) := by decide +kernel
theorem dX6_slip_32 : decode cX6_slip 32 = .ok (.invokevirtual 121, 3) := by decide +kernel
theorem dX6_slip_35 : decode cX6_slip 35 = .ok (.astore 4, 2) := by decide +kernel
theorem dX6_slip_37 : decode cX6_slip 37 = .ok (.aload 4, 2) := by decide +kernel
theorem dX6_slip_39 : decode cX6_slip 39 = .ok (.iload_n 2, 1) := by decide +kernel
theorem dX6_slip_40 : decode cX6_slip 40 = .ok (.invokevirtual 135, 3) := by decide +kernel
theorem dX6_slip_43 : decode cX6_slip 43 = .ok (.aload 4, 2) := by decide +kernel
theorem dX6_slip_45 : decode cX6_slip 45 = .ok (.invokevirtual 202, 3) := by decide +kernel
theorem dX6_slip_48 : decode cX6_slip 48 = .ok (.lstore 5, 2) := by decide +kernel
theorem dX6_slip_50 : decode cX6_slip 50 = .ok (.iconst (-1), 1) := by decide +kernel
theorem dX6_slip_51 : decode cX6_slip 51 = .ok (.istore 7, 2) := by decide +kernel
theorem dX6_slip_53 : decode cX6_slip 53 = .ok (.lconst 0, 1) := by decide +kernel
theorem dX6_slip_54 : decode cX6_slip 54 = .ok (.lstore 8, 2) := by decide +kernel
theorem dX6_slip_56 : decode cX6_slip 56 = .ok (.iconst 0, 1) := by decide +kernel
theorem dX6_slip_57 : decode cX6_slip 57 = .ok (.istore 10, 2) := by decide +kernel
theorem dX6_slip_59 : decode cX6_slip 59 = .ok (.iload 10, 2) := by decide +kernel
theorem dX6_slip_61 : decode cX6_slip 61 = .ok (.aload 4, 2) := by decide +kernel
theorem dX6_slip_63 : decode cX6_slip 63 = .ok (.invokevirtual 138, 3) := by decide +kernel
theorem dX6_slip_66 : decode cX6_slip 66 = .ok (.if_icmp .ge 69, 3) := by decide +kernel
theorem dX6_slip_69 : decode cX6_slip 69 = .ok (.aload 4, 2) := by decide +kernel
theorem dX6_slip_71 : decode cX6_slip 71 = .ok (.iload 10, 2) := by decide +kernel
theorem dX6_slip_73 : decode cX6_slip 73 = .ok (.invokevirtual 141, 3) := by decide +kernel
theorem dX6_slip_76 : decode cX6_slip 76 = .ok (.istore 11, 2) := by decide +kernel
theorem dX6_slip_78 : decode cX6_slip 78 = .ok (.aload 4, 2) := by decide +kernel
theorem dX6_slip_80 : decode cX6_slip 80 = .ok (.iload 10, 2) := by decide +kernel
theorem dX6_slip_82 : decode cX6_slip 82 = .ok (.invokevirtual 205, 3) := by decide +kernel
theorem dX6_slip_85 : decode cX6_slip 85 = .ok (.aload 4, 2) := by decide +kernel
theorem dX6_slip_87 : decode cX6_slip 87 = .ok (.invokevirtual 202, 3) := by decide +kernel
theorem dX6_slip_90 : decode cX6_slip 90 = .ok (.lload 5, 2) := by decide +kernel
theorem dX6_slip_92 : decode cX6_slip 92 = .ok (.lsub, 1) := by decide +kernel
theorem dX6_slip_93 : decode cX6_slip 93 = .ok (.invokestatic 183, 3) := by decide +kernel
theorem dX6_slip_96 : decode cX6_slip 96 = .ok (.lstore 12, 2) := by decide +kernel
theorem dX6_slip_98 : decode cX6_slip 98 = .ok (.aload 4, 2) := by decide +kernel
theorem dX6_slip_100 : decode cX6_slip 100 = .ok (.iload 10, 2) := by decide +kernel
theorem dX6_slip_102 : decode cX6_slip 102 = .ok (.iload 11, 2) := by decide +kernel
theorem dX6_slip_104 : decode cX6_slip 104 = .ok (.invokevirtual 208, 3) := by decide +kernel
theorem dX6_slip_107 : decode cX6_slip 107 = .ok (.iload 7, 2) := by decide +kernel
theorem dX6_slip_109 : decode cX6_slip 109 = .ok (.iconst (-1), 1) := by decide +kernel
theorem dX6_slip_110 : decode cX6_slip 110 = .ok (.if_icmp .eq 11, 3) := by decide +kernel
theorem dX6_slip_113 : decode cX6_slip 113 = .ok (.lload 12, 2) := by decide +kernel
theorem dX6_slip_115 : decode cX6_slip 115 = .ok (.lload 8, 2) := by decide +kernel
theorem dX6_slip_117 : decode cX6_slip 117 = .ok (.lcmp, 1) := by decide +kernel
theorem dX6_slip_118 : decode cX6_slip 118 = .ok (.ifCond .le 11, 3) := by decide +kernel
theorem dX6_slip_121 : decode cX6_slip 121 = .ok (.iload 10, 2) := by decide +kernel
theorem dX6_slip_123 : decode cX6_slip 123 = .ok (.istore 7, 2) := by decide +kernel
theorem dX6_slip_125 : decode cX6_slip 125 = .ok (.lload 12, 2) := by decide +kernel
theorem dX6_slip_127 : decode cX6_slip 127 = .ok (.lstore 8, 2) := by decide +kernel
theorem dX6_slip_129 : decode cX6_slip 129 = .ok (.iinc 10 1, 3) := by decide +kernel
theorem dX6_slip_132 : decode cX6_slip 132 = .ok (.goto (-73), 3) := by decide +kernel
theorem dX6_slip_135 : decode cX6_slip 135 = .ok (.iload_n 3, 1) := by decide +kernel
theorem dX6_slip_136 : decode cX6_slip 136 = .ok (.ifCond .ne 9, 3) := by decide +kernel
theorem dX6_slip_139 : decode cX6_slip 139 = .ok (.iload 7, 2) := by decide +kernel
theorem dX6_slip_141 : decode cX6_slip 141 = .ok (.i2l, 1) := by decide +kernel
theorem dX6_slip_142 : decode cX6_slip 142 = .ok (.goto 5, 3) := by decide +kernel
theorem dX6_slip_145 : decode cX6_slip 145 = .ok (.lload 8, 2) := by decide +kernel
theorem dX6_slip_147 : decode cX6_slip 147 = .ok (.lreturn, 1) := by decide +kernel
theorem dX6_sure_0 : decode cX6_sure 0 = .ok (.aload_n 0, 1) := by decide +kernel
theorem dX6_sure_1 : decode cX6_sure 1 = .ok (.iload_n 1, 1) := by decide +kernel
theorem dX6_sure_2 : decode cX6_sure 2 = .ok (.invokevirtual 115, 3) := by decide +kernel
theorem dX6_sure_5 : decode cX6_sure 5 = .ok (.ifCond .ne 7, 3) := by decide +kernel
theorem dX6_sure_8 : decode cX6_sure 8 = .ok (.ldc2_w 145, 3) := by decide +kernel
theorem dX6_sure_11 : decode cX6_sure 11 = .ok (.lreturn, 1) := by decide +kernel
theorem dX6_sure_12 : decode cX6_sure 12 = .ok (.iload_n 2, 1) := by decide +kernel
theorem dX6_sure_13 : decode cX6_sure 13 = .ok (.invokestatic 118, 3) := by decide +kernel
theorem dX6_sure_16 : decode cX6_sure 16 = .ok (.ifCond .ne 7, 3) := by decide +kernel
theorem dX6_sure_19 : decode cX6_sure 19 = .ok (.ldc2_w 147, 3) := by decide +kernel
theorem dX6_sure_22 : decode cX6_sure 22 = .ok (.lreturn, 1) := by decide +kernel
theorem dX6_sure_23 : decode cX6_sure 23 = .ok (.aload_n 0, 1) := by decide +kernel
theorem dX6_sure_24 : decode cX6_sure 24 = .ok (.iload_n 1, 1) := by decide +kernel
theorem dX6_sure_25 : decode cX6_sure 25 = .ok (.invokevirtual 121, 3) := by decide +kernel
theorem dX6_sure_28 : decode cX6_sure 28 = .ok (.astore_n 3, 1) := by decide +kernel
theorem dX6_sure_29 : decode cX6_sure 29 = .ok (.aload_n 3, 1) := by decide +kernel
theorem dX6_sure_30 : decode cX6_sure 30 = .ok (.iload_n 2, 1) := by decide +kernel
theorem dX6_sure_31 : decode cX6_sure 31 = .ok (.invokevirtual 135, 3) := by decide +kernel
theorem dX6_sure_34 : decode cX6_sure 34 = .ok (.bipush 100, 2) := by decide +kernel
theorem dX6_sure_36 : decode cX6_sure 36 = .ok (.aload_n 3, 1) := by decide +kernel
theorem dX6_sure_37 : decode cX6_sure 37 = .ok (.iconst 1, 1) := by decide +kernel
theorem dX6_sure_38 : decode cX6_sure 38 = .ok (.iload_n 2, 1) := by decide +kernel
theorem dX6_sure_39 : decode cX6_sure 39 = .ok (.iconst 0, 1) := by decide +kernel
theorem dX6_sure_40 : decode cX6_sure 40 = .ok (.invokevirtual 125, 3) := by decide +kernel
theorem dX6_sure_43 : decode cX6_sure 43 = .ok (.isub, 1) := by decide +kernel
theorem dX6_sure_44 : decode cX6_sure 44 = .ok (.i2l, 1) := by decide +kernel
theorem dX6_sure_45 : decode cX6_sure 45 = .ok (.lstore 4, 2) := by decide +kernel
theorem dX6_sure_47 : decode cX6_sure 47 = .ok (.ldc2_w 212, 3) := by decide +kernel
theorem dX6_sure_50 : decode cX6_sure 50 = .ok (.lstore 6, 2) := by decide +kernel
theorem dX6_sure_52 : decode cX6_sure 52 = .ok (.iconst 0, 1) := by decide +kernel
theorem dX6_sure_53 : decode cX6_sure 53 = .ok (.istore 8, 2) := by decide +kernel
theorem dX6_sure_55 : decode cX6_sure 55 = .ok (.iload 8, 2) := by decide +kernel
theorem dX6_sure_57 : decode cX6_sure 57 = .ok (.aload_n 3, 1) := by decide +kernel
theorem dX6_sure_58 : decode cX6_sure 58 = .ok (.invokevirtual 138, 3) := by decide +kernel
theorem dX6_sure_61 : decode cX6_sure 61 = .ok (.if_icmp .ge 20, 3) := by decide +kernel
theorem dX6_sure_64 : decode cX6_sure 64 = .ok (.lload 6, 2) := by decide +kernel
theorem dX6_sure_66 : decode cX6_sure 66 = .ok (.lload 4, 2) := by decide +kernel
theorem dX6_sure_68 : decode cX6_sure 68 = .ok (.lmul, 1) := by decide +kernel
theorem dX6_sure_69 : decode cX6_sure 69 = .ok (.ldc2_w 214, 3) := by decide +kernel
theorem dX6_sure_72 : decode cX6_sure 72 = .ok (.ldiv, 1) := by decide +kernel
theorem dX6_sure_73 : decode cX6_sure 73 = .ok (.lstore 6, 2) := by decide +kernel
theorem dX6_sure_75 : decode cX6_sure 75 = .ok (.iinc 8 1, 3) := by decide +kernel
theorem dX6_sure_78 : decode cX6_sure 78 = .ok (.goto (-23), 3) := by decide +kernel
theorem dX6_sure_81 : decode cX6_sure 81 = .ok (.lload 6, 2) := by decide +kernel
theorem dX6_sure_83 : decode cX6_sure 83 = .ok (.lreturn, 1) := by decide +kernel
theorem dX6_shortest_0 : decode cX6_shortest 0 = .ok (.aload_n 0, 1) := by decide +kernel
theorem dX6_shortest_1 : decode cX6_shortest 1 = .ok (.iload_n 1, 1) := by decide +kernel
theorem dX6_shortest_2 : decode cX6_shortest 2 = .ok (.iload_n 2, 1) := by decide +kernel
theorem dX6_shortest_3 : decode cX6_shortest 3 = .ok (.invokevirtual 194, 3) := by decide +kernel
theorem dX6_shortest_6 : decode cX6_shortest 6 = .ok (.istore 4, 2) := by decide +kernel
theorem dX6_shortest_8 : decode cX6_shortest 8 = .ok (.iload 4, 2) := by decide +kernel
theorem dX6_shortest_10 : decode cX6_shortest 10 = .ok (.ifCond .eq 6, 3) := by decide +kernel
theorem dX6_shortest_13 : decode cX6_shortest 13 = .ok (.iload 4, 2) := by decide +kernel
theorem dX6_shortest_15 : decode cX6_shortest 15 = .ok (.ireturn, 1) := by decide +kernel
theorem dX6_shortest_16 : decode cX6_shortest 16 = .ok (.iload_n 3, 1) := by decide +kernel
theorem dX6_shortest_17 : decode cX6_shortest 17 = .ok (.invokestatic 160, 3) := by decide +kernel
theorem dX6_shortest_20 : decode cX6_shortest 20 = .ok (.ifCond .ne 6, 3) := by decide +kernel
theorem dX6_shortest_23 : decode cX6_shortest 23 = .ok (.bipush (-7), 2) := by decide +kernel
theorem dX6_shortest_25 : decode cX6_shortest 25 = .ok (.ireturn, 1) := by decide +kernel
theorem dX6_shortest_26 : decode cX6_shortest 26 = .ok (.aload_n 0, 1) := by decide +kernel
theorem dX6_shortest_27 : decode cX6_shortest 27 = .ok (.iload_n 1, 1) := by decide +kernel
theorem dX6_shortest_28 : decode cX6_shortest 28 = .ok (.invokevirtual 171, 3) := by decide +kernel
theorem dX6_shortest_31 : decode cX6_shortest 31 = .ok (.astore 5, 2) := by decide +kernel
theorem dX6_shortest_33 : decode cX6_shortest 33 = .ok (.aload_n 0, 1) := by decide +kernel
theorem dX6_shortest_34 : decode cX6_shortest 34 = .ok (.iload_n 2, 1) := by decide +kernel
theorem dX6_shortest_35 : decode cX6_shortest 35 = .ok (.invokevirtual 121, 3) := by decide +kernel
theorem dX6_shortest_38 : decode cX6_shortest 38 = .ok (.astore 6, 2) := by decide +kernel
theorem dX6_shortest_40 : decode cX6_shortest 40 = .ok (.iconst (-1), 1) := by decide +kernel
theorem dX6_shortest_41 : decode cX6_shortest 41 = .ok (.istore 7, 2) := by decide +kernel
theorem dX6_shortest_43 : decode cX6_shortest 43 = .ok (.iconst (-1), 1) := by decide +kernel
theorem dX6_shortest_44 : decode cX6_shortest 44 = .ok (.istore 8, 2) := by decide +kernel
theorem dX6_shortest_46 : decode cX6_shortest 46 = .ok (.iconst 2, 1) := by decide +kernel
theorem dX6_shortest_47 : decode cX6_shortest 47 = .ok (.istore 9, 2) := by decide +kernel
theorem dX6_shortest_49 : decode cX6_shortest 49 = .ok (.iload 9, 2) := by decide +kernel
theorem dX6_shortest_51 : decode cX6_shortest 51 = .ok (.bipush 12, 2) := by decide +kernel
theorem dX6_shortest_53 : decode cX6_shortest 53 = .ok (.if_icmp .gt 58, 3) := by decide +kernel
theorem dX6_shortest_56 : decode cX6_shortest 56 = .ok (.aload 6, 2) := by decide +kernel
theorem dX6_shortest_58 : decode cX6_shortest 58 = .ok (.iload 9, 2) := by decide +kernel
theorem dX6_shortest_60 : decode cX6_shortest 60 = .ok (.aload_n 0, 1) := by decide +kernel
theorem dX6_shortest_61 : decode cX6_shortest 61 = .ok (.getfield 13, 3) := by decide +kernel
theorem dX6_shortest_64 : decode cX6_shortest 64 = .ok (.aload_n 0, 1) := by decide +kernel
theorem dX6_shortest_65 : decode cX6_shortest 65 = .ok (.aload_n 0, 1) := by decide +kernel
theorem dX6_shortest_66 : decode cX6_shortest 66 = .ok (.getfield 79, 3) := by decide +kernel
theorem dX6_shortest_69 : decode cX6_shortest 69 = .ok (.invokevirtual 216, 3) := by decide +kernel
theorem dX6_shortest_72 : decode cX6_shortest 72 = .ok (.invokevirtual 220, 3) := by decide +kernel
theorem dX6_shortest_75 : decode cX6_shortest 75 = .ok (.aload 5, 2) := by decide +kernel
theorem dX6_shortest_77 : decode cX6_shortest 77 = .ok (.aload 6, 2) := by decide +kernel
theorem dX6_shortest_79 : decode cX6_shortest 79 = .ok (.invokestatic 224, 3) := by decide +kernel
theorem dX6_shortest_82 : decode cX6_shortest 82 = .ok (.istore 10, 2) := by decide +kernel
theorem dX6_shortest_84 : decode cX6_shortest 84 = .ok (.iload 7, 2) := by decide +kernel
theorem dX6_shortest_86 : decode cX6_shortest 86 = .ok (.iconst (-1), 1) := by decide +kernel
theorem dX6_shortest_87 : decode cX6_shortest 87 = .ok (.if_icmp .eq 10, 3) := by decide +kernel
theorem dX6_shortest_90 : decode cX6_shortest 90 = .ok (.iload 10, 2) := by decide +kernel
theorem dX6_shortest_92 : decode cX6_shortest 92 = .ok (.iload 8, 2) := by decide +kernel
theorem dX6_shortest_94 : decode cX6_shortest 94 = .ok (.if_icmp .ge 11, 3) := by decide +kernel
theorem dX6_shortest_97 : decode cX6_shortest 97 = .ok (.iload 9, 2) := by decide +kernel
theorem dX6_shortest_99 : decode cX6_shortest 99 = .ok (.istore 7, 2) := by decide +kernel
theorem dX6_shortest_101 : decode cX6_shortest 101 = .ok (.iload 10, 2) := by decide +kernel
theorem dX6_shortest_103 : decode cX6_shortest 103 = .ok (.istore 8, 2) := by decide +kernel
theorem dX6_shortest_105 : decode cX6_shortest 105 = .ok (.iinc 9 1, 3) := by decide +kernel
theorem dX6_shortest_108 : decode cX6_shortest 108 = .ok (.goto (-59), 3) := by decide +kernel
theorem dX6_shortest_111 : decode cX6_shortest 111 = .ok (.iload_n 3, 1) := by decide +kernel
theorem dX6_shortest_112 : decode cX6_shortest 112 = .ok (.ifCond .ne 8, 3) := by decide +kernel
theorem dX6_shortest_115 : decode cX6_shortest 115 = .ok (.iload 7, 2) := by decide +kernel
theorem dX6_shortest_117 : decode cX6_shortest 117 = .ok (.goto 5, 3) := by decide +kernel
theorem dX6_shortest_120 : decode cX6_shortest 120 = .ok (.iload 8, 2) := by decide +kernel
theorem dX6_shortest_122 : decode cX6_shortest 122 = .ok (.ireturn, 1) := by decide +kernel
theorem dX6_figuresFor_0 : decode cX6_figuresFor 0 = .ok (.iconst 0, 1) := by decide +kernel
theorem dX6_figuresFor_1 : decode cX6_figuresFor 1 = .ok (.istore_n 2, 1) := by decide +kernel
theorem dX6_figuresFor_2 : decode cX6_figuresFor 2 = .ok (.iconst 0, 1) := by decide +kernel
theorem dX6_figuresFor_3 : decode cX6_figuresFor 3 = .ok (.istore_n 3, 1) := by decide +kernel
theorem dX6_figuresFor_4 : decode cX6_figuresFor 4 = .ok (.iload_n 3, 1) := by decide +kernel
theorem dX6_figuresFor_5 : decode cX6_figuresFor 5 = .ok (.aload_n 0, 1) := by decide +kernel
theorem dX6_figuresFor_6 : decode cX6_figuresFor 6 = .ok (.invokevirtual 198, 3) := by decide +kernel
theorem dX6_figuresFor_9 : decode cX6_figuresFor 9 = .ok (.if_icmp .ge 25, 3) := by decide +kernel
theorem dX6_figuresFor_12 : decode cX6_figuresFor 12 = .ok (.aload_n 1, 1) := by decide +kernel
theorem dX6_figuresFor_13 : decode cX6_figuresFor 13 = .ok (.aload_n 0, 1) := by decide +kernel
theorem dX6_figuresFor_14 : decode cX6_figuresFor 14 = .ok (.iload_n 3, 1) := by decide +kernel
theorem dX6_figuresFor_15 : decode cX6_figuresFor 15 = .ok (.invokevirtual 199, 3) := by decide +kernel
theorem dX6_figuresFor_18 : decode cX6_figuresFor 18 = .ok (.invokevirtual 135, 3) := by decide +kernel
theorem dX6_figuresFor_21 : decode cX6_figuresFor 21 = .ok (.iload_n 2, 1) := by decide +kernel
theorem dX6_figuresFor_22 : decode cX6_figuresFor 22 = .ok (.aload_n 1, 1) := by decide +kernel
theorem dX6_figuresFor_23 : decode cX6_figuresFor 23 = .ok (.invokevirtual 138, 3) := by decide +kernel
theorem dX6_figuresFor_26 : decode cX6_figuresFor 26 = .ok (.iadd, 1) := by decide +kernel
theorem dX6_figuresFor_27 : decode cX6_figuresFor 27 = .ok (.istore_n 2, 1) := by decide +kernel
theorem dX6_figuresFor_28 : decode cX6_figuresFor 28 = .ok (.iinc 3 1, 3) := by decide +kernel
theorem dX6_figuresFor_31 : decode cX6_figuresFor 31 = .ok (.goto (-27), 3) := by decide +kernel
theorem dX6_figuresFor_34 : decode cX6_figuresFor 34 = .ok (.iload_n 2, 1) := by decide +kernel
theorem dX6_figuresFor_35 : decode cX6_figuresFor 35 = .ok (.ireturn, 1) := by decide +kernel
theorem dX6_madeOf_0 : decode cX6_madeOf 0 = .ok (.lconst 0, 1) := by decide +kernel
theorem dX6_madeOf_1 : decode cX6_madeOf 1 = .ok (.lstore_n 2, 1) := by decide +kernel
theorem dX6_madeOf_2 : decode cX6_madeOf 2 = .ok (.iconst 0, 1) := by decide +kernel
theorem dX6_madeOf_3 : decode cX6_madeOf 3 = .ok (.istore 4, 2) := by decide +kernel
theorem dX6_madeOf_5 : decode cX6_madeOf 5 = .ok (.iload 4, 2) := by decide +kernel
theorem dX6_madeOf_7 : decode cX6_madeOf 7 = .ok (.aload_n 0, 1) := by decide +kernel
theorem dX6_madeOf_8 : decode cX6_madeOf 8 = .ok (.invokevirtual 198, 3) := by decide +kernel
theorem dX6_madeOf_11 : decode cX6_madeOf 11 = .ok (.if_icmp .ge 23, 3) := by decide +kernel
theorem dX6_madeOf_14 : decode cX6_madeOf 14 = .ok (.lload_n 2, 1) := by decide +kernel
theorem dX6_madeOf_15 : decode cX6_madeOf 15 = .ok (.aload_n 1, 1) := by decide +kernel
theorem dX6_madeOf_16 : decode cX6_madeOf 16 = .ok (.aload_n 0, 1) := by decide +kernel
theorem dX6_madeOf_17 : decode cX6_madeOf 17 = .ok (.iload 4, 2) := by decide +kernel
theorem dX6_madeOf_19 : decode cX6_madeOf 19 = .ok (.invokevirtual 199, 3) := by decide +kernel
theorem dX6_madeOf_22 : decode cX6_madeOf 22 = .ok (.invokevirtual 157, 3) := by decide +kernel
theorem dX6_madeOf_25 : decode cX6_madeOf 25 = .ok (.i2l, 1) := by decide +kernel
theorem dX6_madeOf_26 : decode cX6_madeOf 26 = .ok (.ladd, 1) := by decide +kernel
theorem dX6_madeOf_27 : decode cX6_madeOf 27 = .ok (.lstore_n 2, 1) := by decide +kernel
theorem dX6_madeOf_28 : decode cX6_madeOf 28 = .ok (.iinc 4 1, 3) := by decide +kernel
theorem dX6_madeOf_31 : decode cX6_madeOf 31 = .ok (.goto (-26), 3) := by decide +kernel
theorem dX6_madeOf_34 : decode cX6_madeOf 34 = .ok (.lload_n 2, 1) := by decide +kernel
theorem dX6_madeOf_35 : decode cX6_madeOf 35 = .ok (.lreturn, 1) := by decide +kernel
theorem dX6_oursOf_0 : decode cX6_oursOf 0 = .ok (.lconst 0, 1) := by decide +kernel
theorem dX6_oursOf_1 : decode cX6_oursOf 1 = .ok (.lstore_n 1, 1) := by decide +kernel
theorem dX6_oursOf_2 : decode cX6_oursOf 2 = .ok (.iconst 0, 1) := by decide +kernel
theorem dX6_oursOf_3 : decode cX6_oursOf 3 = .ok (.istore_n 3, 1) := by decide +kernel
theorem dX6_oursOf_4 : decode cX6_oursOf 4 = .ok (.iload_n 3, 1) := by decide +kernel
theorem dX6_oursOf_5 : decode cX6_oursOf 5 = .ok (.aload_n 0, 1) := by decide +kernel
theorem dX6_oursOf_6 : decode cX6_oursOf 6 = .ok (.invokevirtual 198, 3) := by decide +kernel
theorem dX6_oursOf_9 : decode cX6_oursOf 9 = .ok (.if_icmp .ge 18, 3) := by decide +kernel
theorem dX6_oursOf_12 : decode cX6_oursOf 12 = .ok (.lload_n 1, 1) := by decide +kernel
theorem dX6_oursOf_13 : decode cX6_oursOf 13 = .ok (.aload_n 0, 1) := by decide +kernel
theorem dX6_oursOf_14 : decode cX6_oursOf 14 = .ok (.iload_n 3, 1) := by decide +kernel
theorem dX6_oursOf_15 : decode cX6_oursOf 15 = .ok (.invokevirtual 199, 3) := by decide +kernel
theorem dX6_oursOf_18 : decode cX6_oursOf 18 = .ok (.i2l, 1) := by decide +kernel
theorem dX6_oursOf_19 : decode cX6_oursOf 19 = .ok (.ladd, 1) := by decide +kernel
theorem dX6_oursOf_20 : decode cX6_oursOf 20 = .ok (.lstore_n 1, 1) := by decide +kernel
theorem dX6_oursOf_21 : decode cX6_oursOf 21 = .ok (.iinc 3 1, 3) := by decide +kernel
theorem dX6_oursOf_24 : decode cX6_oursOf 24 = .ok (.goto (-20), 3) := by decide +kernel
theorem dX6_oursOf_27 : decode cX6_oursOf 27 = .ok (.lload_n 1, 1) := by decide +kernel
theorem dX6_oursOf_28 : decode cX6_oursOf 28 = .ok (.lreturn, 1) := by decide +kernel
theorem dX6_refusalOfBook_0 : decode cX6_refusalOfBook 0 = .ok (.aload_n 0, 1) := by decide +kernel
theorem dX6_refusalOfBook_1 : decode cX6_refusalOfBook 1 = .ok (.iload_n 1, 1) := by decide +kernel
theorem dX6_refusalOfBook_2 : decode cX6_refusalOfBook 2 = .ok (.invokevirtual 228, 3) := by decide +kernel
theorem dX6_refusalOfBook_5 : decode cX6_refusalOfBook 5 = .ok (.istore_n 2, 1) := by decide +kernel
theorem dX6_refusalOfBook_6 : decode cX6_refusalOfBook 6 = .ok (.iload_n 2, 1) := by decide +kernel
theorem dX6_refusalOfBook_7 : decode cX6_refusalOfBook 7 = .ok (.ifCond .eq 5, 3) := by decide +kernel
theorem dX6_refusalOfBook_10 : decode cX6_refusalOfBook 10 = .ok (.iload_n 2, 1) := by decide +kernel
theorem dX6_refusalOfBook_11 : decode cX6_refusalOfBook 11 = .ok (.ireturn, 1) := by decide +kernel
theorem dX6_refusalOfBook_12 : decode cX6_refusalOfBook 12 = .ok (.aload_n 0, 1) := by decide +kernel
theorem dX6_refusalOfBook_13 : decode cX6_refusalOfBook 13 = .ok (.iload_n 1, 1) := by decide +kernel
theorem dX6_refusalOfBook_14 : decode cX6_refusalOfBook 14 = .ok (.invokevirtual 171, 3) := by decide +kernel
theorem dX6_refusalOfBook_17 : decode cX6_refusalOfBook 17 = .ok (.astore_n 3, 1) := by decide +kernel
theorem dX6_refusalOfBook_18 : decode cX6_refusalOfBook 18 = .ok (.iconst 0, 1) := by decide +kernel
theorem dX6_refusalOfBook_19 : decode cX6_refusalOfBook 19 = .ok (.istore 4, 2) := by decide +kernel
theorem dX6_refusalOfBook_21 : decode cX6_refusalOfBook 21 = .ok (.iload 4, 2) := by decide +kernel
theorem dX6_refusalOfBook_23 : decode cX6_refusalOfBook 23 = .ok (.aload_n 3, 1) := by decide +kernel
theorem dX6_refusalOfBook_24 : decode cX6_refusalOfBook 24 = .ok (.invokevirtual 198, 3) := by decide +kernel
theorem dX6_refusalOfBook_27 : decode cX6_refusalOfBook 27 = .ok (.if_icmp .ge 24, 3) := by decide +kernel
theorem dX6_refusalOfBook_30 : decode cX6_refusalOfBook 30 = .ok (.aload_n 3, 1) := by decide +kernel
theorem dX6_refusalOfBook_31 : decode cX6_refusalOfBook 31 = .ok (.iload 4, 2) := by decide +kernel
theorem dX6_refusalOfBook_33 : decode cX6_refusalOfBook 33 = .ok (.invokevirtual 199, 3) := by decide +kernel
theorem dX6_refusalOfBook_36 : decode cX6_refusalOfBook 36 = .ok (.invokestatic 118, 3) := by decide +kernel
theorem dX6_refusalOfBook_39 : decode cX6_refusalOfBook 39 = .ok (.ifCond .ne 6, 3) := by decide +kernel
theorem dX6_refusalOfBook_42 : decode cX6_refusalOfBook 42 = .ok (.bipush (-2), 2) := by decide +kernel
theorem dX6_refusalOfBook_44 : decode cX6_refusalOfBook 44 = .ok (.ireturn, 1) := by decide +kernel
theorem dX6_refusalOfBook_45 : decode cX6_refusalOfBook 45 = .ok (.iinc 4 1, 3) := by decide +kernel
theorem dX6_refusalOfBook_48 : decode cX6_refusalOfBook 48 = .ok (.goto (-27), 3) := by decide +kernel
theorem dX6_refusalOfBook_51 : decode cX6_refusalOfBook 51 = .ok (.iconst 0, 1) := by decide +kernel
theorem dX6_refusalOfBook_52 : decode cX6_refusalOfBook 52 = .ok (.ireturn, 1) := by decide +kernel
theorem dX6_refusalOfBookBy_0 : decode cX6_refusalOfBookBy 0 = .ok (.aload_n 0, 1) := by decide +kernel
theorem dX6_refusalOfBookBy_1 : decode cX6_refusalOfBookBy 1 = .ok (.iload_n 1, 1) := by decide +kernel
theorem dX6_refusalOfBookBy_2 : decode cX6_refusalOfBookBy 2 = .ok (.invokevirtual 168, 3) := by decide +kernel
theorem dX6_refusalOfBookBy_5 : decode cX6_refusalOfBookBy 5 = .ok (.istore_n 3, 1) := by decide +kernel
theorem dX6_refusalOfBookBy_6 : decode cX6_refusalOfBookBy 6 = .ok (.iload_n 3, 1) := by decide +kernel
theorem dX6_refusalOfBookBy_7 : decode cX6_refusalOfBookBy 7 = .ok (.ifCond .eq 5, 3) := by decide +kernel
theorem dX6_refusalOfBookBy_10 : decode cX6_refusalOfBookBy 10 = .ok (.iload_n 3, 1) := by decide +kernel
theorem dX6_refusalOfBookBy_11 : decode cX6_refusalOfBookBy 11 = .ok (.ireturn, 1) := by decide +kernel
theorem dX6_refusalOfBookBy_12 : decode cX6_refusalOfBookBy 12 = .ok (.aload_n 0, 1) := by decide +kernel
theorem dX6_refusalOfBookBy_13 : decode cX6_refusalOfBookBy 13 = .ok (.iload_n 2, 1) := by decide +kernel
theorem dX6_refusalOfBookBy_14 : decode cX6_refusalOfBookBy 14 = .ok (.invokevirtual 115, 3) := by decide +kernel
theorem dX6_refusalOfBookBy_17 : decode cX6_refusalOfBookBy 17 = .ok (.ifCond .eq 7, 3) := by decide +kernel
theorem dX6_refusalOfBookBy_20 : decode cX6_refusalOfBookBy 20 = .ok (.iconst 0, 1) := by decide +kernel
theorem dX6_refusalOfBookBy_21 : decode cX6_refusalOfBookBy 21 = .ok (.goto 5, 3) := by decide +kernel
theorem dX6_refusalOfBookBy_24 : decode cX6_refusalOfBookBy 24 = .ok (.bipush (-5), 2) := by decide +kernel
theorem dX6_refusalOfBookBy_26 : decode cX6_refusalOfBookBy 26 = .ok (.ireturn, 1) := by decide +kernel
theorem dX6_lend_0 : decode cX6_lend 0 = .ok (.iload_n 1, 1) := by decide +kernel
theorem dX6_lend_1 : decode cX6_lend 1 = .ok (.iload_n 2, 1) := by decide +kernel
theorem dX6_lend_2 : decode cX6_lend 2 = .ok (.invokestatic 231, 3) := by decide +kernel
theorem dX6_lend_5 : decode cX6_lend 5 = .ok (.ifCond .ne 6, 3) := by decide +kernel
theorem dX6_lend_8 : decode cX6_lend 8 = .ok (.bipush (-5), 2) := by decide +kernel
theorem dX6_lend_10 : decode cX6_lend 10 = .ok (.ireturn, 1) := by decide +kernel
theorem dX6_lend_11 : decode cX6_lend 11 = .ok (.iload_n 3, 1) := by decide +kernel
theorem dX6_lend_12 : decode cX6_lend 12 = .ok (.iconst 0, 1) := by decide +kernel
theorem dX6_lend_13 : decode cX6_lend 13 = .ok (.sipush 9999, 3) := by decide +kernel
theorem dX6_lend_16 : decode cX6_lend 16 = .ok (.invokestatic 86, 3) := by decide +kernel
theorem dX6_lend_19 : decode cX6_lend 19 = .ok (.ifCond .ne 6, 3) := by decide +kernel
theorem dX6_lend_22 : decode cX6_lend 22 = .ok (.bipush (-7), 2) := by decide +kernel
theorem dX6_lend_24 : decode cX6_lend 24 = .ok (.ireturn, 1) := by decide +kernel
theorem dX6_lend_25 : decode cX6_lend 25 = .ok (.aload_n 0, 1) := by decide +kernel
theorem dX6_lend_26 : decode cX6_lend 26 = .ok (.getfield 55, 3) := by decide +kernel
theorem dX6_lend_29 : decode cX6_lend 29 = .ok (.iload_n 1, 1) := by decide +kernel
theorem dX6_lend_30 : decode cX6_lend 30 = .ok (.iload_n 2, 1) := by decide +kernel
theorem dX6_lend_31 : decode cX6_lend 31 = .ok (.invokevirtual 235, 3) := by decide +kernel
theorem dX6_lend_34 : decode cX6_lend 34 = .ok (.istore 4, 2) := by decide +kernel
theorem dX6_lend_36 : decode cX6_lend 36 = .ok (.aload_n 0, 1) := by decide +kernel
theorem dX6_lend_37 : decode cX6_lend 37 = .ok (.getfield 55, 3) := by decide +kernel
theorem dX6_lend_40 : decode cX6_lend 40 = .ok (.iload_n 1, 1) := by decide +kernel
theorem dX6_lend_41 : decode cX6_lend 41 = .ok (.iload_n 2, 1) := by decide +kernel
theorem dX6_lend_42 : decode cX6_lend 42 = .ok (.iload_n 3, 1) := by decide +kernel
theorem dX6_lend_43 : decode cX6_lend 43 = .ok (.invokevirtual 238, 3) := by decide +kernel
theorem dX6_lend_46 : decode cX6_lend 46 = .ok (.iload 4, 2) := by decide +kernel
theorem dX6_lend_48 : decode cX6_lend 48 = .ok (.ireturn, 1) := by decide +kernel
theorem dX6_debt_0 : decode cX6_debt 0 = .ok (.iload_n 1, 1) := by decide +kernel
theorem dX6_debt_1 : decode cX6_debt 1 = .ok (.iload_n 2, 1) := by decide +kernel
theorem dX6_debt_2 : decode cX6_debt 2 = .ok (.invokestatic 231, 3) := by decide +kernel
theorem dX6_debt_5 : decode cX6_debt 5 = .ok (.ifCond .eq 15, 3) := by decide +kernel
theorem dX6_debt_8 : decode cX6_debt 8 = .ok (.aload_n 0, 1) := by decide +kernel
theorem dX6_debt_9 : decode cX6_debt 9 = .ok (.getfield 55, 3) := by decide +kernel
theorem dX6_debt_12 : decode cX6_debt 12 = .ok (.iload_n 1, 1) := by decide +kernel
theorem dX6_debt_13 : decode cX6_debt 13 = .ok (.iload_n 2, 1) := by decide +kernel
theorem dX6_debt_14 : decode cX6_debt 14 = .ok (.invokevirtual 235, 3) := by decide +kernel
theorem dX6_debt_17 : decode cX6_debt 17 = .ok (.goto 5, 3) := by decide +kernel
theorem dX6_debt_20 : decode cX6_debt 20 = .ok (.bipush (-5), 2) := by decide +kernel
theorem dX6_debt_22 : decode cX6_debt 22 = .ok (.ireturn, 1) := by decide +kernel
theorem dX6_pay_0 : decode cX6_pay 0 = .ok (.aload_n 0, 1) := by decide +kernel
theorem dX6_pay_1 : decode cX6_pay 1 = .ok (.iload_n 1, 1) := by decide +kernel
theorem dX6_pay_2 : decode cX6_pay 2 = .ok (.invokevirtual 115, 3) := by decide +kernel
theorem dX6_pay_5 : decode cX6_pay 5 = .ok (.ifCond .ne 6, 3) := by decide +kernel
theorem dX6_pay_8 : decode cX6_pay 8 = .ok (.bipush (-6), 2) := by decide +kernel
theorem dX6_pay_10 : decode cX6_pay 10 = .ok (.ireturn, 1) := by decide +kernel
theorem dX6_pay_11 : decode cX6_pay 11 = .ok (.iload_n 2, 1) := by decide +kernel
theorem dX6_pay_12 : decode cX6_pay 12 = .ok (.bipush 10, 2) := by decide +kernel
theorem dX6_pay_14 : decode cX6_pay 14 = .ok (.idiv, 1) := by decide +kernel
theorem dX6_pay_15 : decode cX6_pay 15 = .ok (.istore 4, 2) := by decide +kernel
theorem dX6_pay_17 : decode cX6_pay 17 = .ok (.iload_n 2, 1) := by decide +kernel
theorem dX6_pay_18 : decode cX6_pay 18 = .ok (.bipush 10, 2) := by decide +kernel
theorem dX6_pay_20 : decode cX6_pay 20 = .ok (.irem, 1) := by decide +kernel
theorem dX6_pay_21 : decode cX6_pay 21 = .ok (.istore 5, 2) := by decide +kernel
theorem dX6_pay_23 : decode cX6_pay 23 = .ok (.iload 4, 2) := by decide +kernel
theorem dX6_pay_25 : decode cX6_pay 25 = .ok (.iload 5, 2) := by decide +kernel
theorem dX6_pay_27 : decode cX6_pay 27 = .ok (.invokestatic 231, 3) := by decide +kernel
theorem dX6_pay_30 : decode cX6_pay 30 = .ok (.ifCond .ne 6, 3) := by decide +kernel
theorem dX6_pay_33 : decode cX6_pay 33 = .ok (.bipush (-5), 2) := by decide +kernel
theorem dX6_pay_35 : decode cX6_pay 35 = .ok (.ireturn, 1) := by decide +kernel
theorem dX6_pay_36 : decode cX6_pay 36 = .ok (.iload_n 3, 1) := by decide +kernel
theorem dX6_pay_37 : decode cX6_pay 37 = .ok (.iconst 0, 1) := by decide +kernel
theorem dX6_pay_38 : decode cX6_pay 38 = .ok (.sipush 9999, 3) := by decide +kernel
theorem dX6_pay_41 : decode cX6_pay 41 = .ok (.invokestatic 86, 3) := by decide +kernel
theorem dX6_pay_44 : decode cX6_pay 44 = .ok (.ifCond .ne 6, 3) := by decide +kernel
theorem dX6_pay_47 : decode cX6_pay 47 = .ok (.bipush (-7), 2) := by decide +kernel
theorem dX6_pay_49 : decode cX6_pay 49 = .ok (.ireturn, 1) := by decide +kernel
theorem dX6_pay_50 : decode cX6_pay 50 = .ok (.aload_n 0, 1) := by decide +kernel
theorem dX6_pay_51 : decode cX6_pay 51 = .ok (.getfield 55, 3) := by decide +kernel
theorem dX6_pay_54 : decode cX6_pay 54 = .ok (.iload 4, 2) := by decide +kernel
theorem dX6_pay_56 : decode cX6_pay 56 = .ok (.iload 5, 2) := by decide +kernel
theorem dX6_pay_58 : decode cX6_pay 58 = .ok (.invokevirtual 235, 3) := by decide +kernel
theorem dX6_pay_61 : decode cX6_pay 61 = .ok (.iload_n 3, 1) := by decide +kernel
theorem dX6_pay_62 : decode cX6_pay 62 = .ok (.isub, 1) := by decide +kernel
theorem dX6_pay_63 : decode cX6_pay 63 = .ok (.istore 6, 2) := by decide +kernel
theorem dX6_pay_65 : decode cX6_pay 65 = .ok (.iload 6, 2) := by decide +kernel
theorem dX6_pay_67 : decode cX6_pay 67 = .ok (.ifCond .ge 6, 3) := by decide +kernel
theorem dX6_pay_70 : decode cX6_pay 70 = .ok (.bipush (-3), 2) := by decide +kernel
theorem dX6_pay_72 : decode cX6_pay 72 = .ok (.ireturn, 1) := by decide +kernel
theorem dX6_pay_73 : decode cX6_pay 73 = .ok (.iload 6, 2) := by decide +kernel
theorem dX6_pay_75 : decode cX6_pay 75 = .ok (.ifCond .ne 20, 3) := by decide +kernel
theorem dX6_pay_78 : decode cX6_pay 78 = .ok (.aload_n 0, 1) := by decide +kernel
theorem dX6_pay_79 : decode cX6_pay 79 = .ok (.iload_n 1, 1) := by decide +kernel
theorem dX6_pay_80 : decode cX6_pay 80 = .ok (.invokevirtual 121, 3) := by decide +kernel
theorem dX6_pay_83 : decode cX6_pay 83 = .ok (.iconst 0, 1) := by decide +kernel
theorem dX6_pay_84 : decode cX6_pay 84 = .ok (.invokevirtual 157, 3) := by decide +kernel
theorem dX6_pay_87 : decode cX6_pay 87 = .ok (.sipush 9999, 3) := by decide +kernel
theorem dX6_pay_90 : decode cX6_pay 90 = .ok (.invokestatic 242, 3) := by decide +kernel
theorem dX6_pay_93 : decode cX6_pay 93 = .ok (.istore 6, 2) := by decide +kernel
theorem dX6_pay_95 : decode cX6_pay 95 = .ok (.aload_n 0, 1) := by decide +kernel
theorem dX6_pay_96 : decode cX6_pay 96 = .ok (.getfield 55, 3) := by decide +kernel
theorem dX6_pay_99 : decode cX6_pay 99 = .ok (.iload 4, 2) := by decide +kernel
theorem dX6_pay_101 : decode cX6_pay 101 = .ok (.iload 5, 2) := by decide +kernel
theorem dX6_pay_103 : decode cX6_pay 103 = .ok (.iload 6, 2) := by decide +kernel
theorem dX6_pay_105 : decode cX6_pay 105 = .ok (.invokevirtual 238, 3) := by decide +kernel
theorem dX6_pay_108 : decode cX6_pay 108 = .ok (.iload 6, 2) := by decide +kernel
theorem dX6_pay_110 : decode cX6_pay 110 = .ok (.ireturn, 1) := by decide +kernel
theorem dX6_rings_0 : decode cX6_rings 0 = .ok (.aload_n 0, 1) := by decide +kernel
theorem dX6_rings_1 : decode cX6_rings 1 = .ok (.getfield 55, 3) := by decide +kernel
theorem dX6_rings_4 : decode cX6_rings 4 = .ok (.invokevirtual 244, 3) := by decide +kernel
theorem dX6_rings_7 : decode cX6_rings 7 = .ok (.ireturn, 1) := by decide +kernel
theorem dX6_clear_0 : decode cX6_clear 0 = .ok (.aload_n 0, 1) := by decide +kernel
theorem dX6_clear_1 : decode cX6_clear 1 = .ok (.getfield 55, 3) := by decide +kernel
theorem dX6_clear_4 : decode cX6_clear 4 = .ok (.invokevirtual 247, 3) := by decide +kernel
theorem dX6_clear_7 : decode cX6_clear 7 = .ok (.aload_n 0, 1) := by decide +kernel
theorem dX6_clear_8 : decode cX6_clear 8 = .ok (.getfield 55, 3) := by decide +kernel
theorem dX6_clear_11 : decode cX6_clear 11 = .ok (.invokevirtual 250, 3) := by decide +kernel
theorem dX6_clear_14 : decode cX6_clear 14 = .ok (.iadd, 1) := by decide +kernel
theorem dX6_clear_15 : decode cX6_clear 15 = .ok (.ireturn, 1) := by decide +kernel
theorem dX6_forgive_0 : decode cX6_forgive 0 = .ok (.iload_n 1, 1) := by decide +kernel
theorem dX6_forgive_1 : decode cX6_forgive 1 = .ok (.invokestatic 160, 3) := by decide +kernel
theorem dX6_forgive_4 : decode cX6_forgive 4 = .ok (.ifCond .ne 6, 3) := by decide +kernel
theorem dX6_forgive_7 : decode cX6_forgive 7 = .ok (.bipush (-2), 2) := by decide +kernel
theorem dX6_forgive_9 : decode cX6_forgive 9 = .ok (.ireturn, 1) := by decide +kernel
theorem dX6_forgive_10 : decode cX6_forgive 10 = .ok (.iconst (-1), 1) := by decide +kernel
theorem dX6_forgive_11 : decode cX6_forgive 11 = .ok (.istore_n 2, 1) := by decide +kernel
theorem dX6_forgive_12 : decode cX6_forgive 12 = .ok (.aload_n 0, 1) := by decide +kernel
theorem dX6_forgive_13 : decode cX6_forgive 13 = .ok (.getfield 55, 3) := by decide +kernel
theorem dX6_forgive_16 : decode cX6_forgive 16 = .ok (.invokevirtual 244, 3) := by decide +kernel
theorem dX6_forgive_19 : decode cX6_forgive 19 = .ok (.invokestatic 253, 3) := by decide +kernel
theorem dX6_forgive_22 : decode cX6_forgive 22 = .ok (.istore_n 3, 1) := by decide +kernel
theorem dX6_forgive_23 : decode cX6_forgive 23 = .ok (.iconst 0, 1) := by decide +kernel
theorem dX6_forgive_24 : decode cX6_forgive 24 = .ok (.istore 4, 2) := by decide +kernel
theorem dX6_forgive_26 : decode cX6_forgive 26 = .ok (.iload 4, 2) := by decide +kernel
theorem dX6_forgive_28 : decode cX6_forgive 28 = .ok (.bipush 6, 2) := by decide +kernel
theorem dX6_forgive_30 : decode cX6_forgive 30 = .ok (.if_icmp .ge 56, 3) := by decide +kernel
theorem dX6_forgive_33 : decode cX6_forgive 33 = .ok (.iconst 0, 1) := by decide +kernel
theorem dX6_forgive_34 : decode cX6_forgive 34 = .ok (.istore 5, 2) := by decide +kernel
theorem dX6_forgive_36 : decode cX6_forgive 36 = .ok (.iload 5, 2) := by decide +kernel
theorem dX6_forgive_38 : decode cX6_forgive 38 = .ok (.bipush 6, 2) := by decide +kernel
theorem dX6_forgive_40 : decode cX6_forgive 40 = .ok (.if_icmp .ge 40, 3) := by decide +kernel
theorem dX6_forgive_43 : decode cX6_forgive 43 = .ok (.aload_n 0, 1) := by decide +kernel
theorem dX6_forgive_44 : decode cX6_forgive 44 = .ok (.getfield 55, 3) := by decide +kernel
theorem dX6_forgive_47 : decode cX6_forgive 47 = .ok (.iload 4, 2) := by decide +kernel
theorem dX6_forgive_49 : decode cX6_forgive 49 = .ok (.iload 5, 2) := by decide +kernel
theorem dX6_forgive_51 : decode cX6_forgive 51 = .ok (.invokevirtual 258, 3) := by decide +kernel
theorem dX6_forgive_54 : decode cX6_forgive 54 = .ok (.istore 6, 2) := by decide +kernel
theorem dX6_forgive_56 : decode cX6_forgive 56 = .ok (.iload 6, 2) := by decide +kernel
theorem dX6_forgive_58 : decode cX6_forgive 58 = .ok (.iload_n 3, 1) := by decide +kernel
theorem dX6_forgive_59 : decode cX6_forgive 59 = .ok (.if_icmp .ge 15, 3) := by decide +kernel
theorem dX6_forgive_62 : decode cX6_forgive 62 = .ok (.iload 6, 2) := by decide +kernel
theorem dX6_forgive_64 : decode cX6_forgive 64 = .ok (.istore_n 3, 1) := by decide +kernel
theorem dX6_forgive_65 : decode cX6_forgive 65 = .ok (.bipush 10, 2) := by decide +kernel
theorem dX6_forgive_67 : decode cX6_forgive 67 = .ok (.iload 4, 2) := by decide +kernel
theorem dX6_forgive_69 : decode cX6_forgive 69 = .ok (.imul, 1) := by decide +kernel
theorem dX6_forgive_70 : decode cX6_forgive 70 = .ok (.iload 5, 2) := by decide +kernel
theorem dX6_forgive_72 : decode cX6_forgive 72 = .ok (.iadd, 1) := by decide +kernel
theorem dX6_forgive_73 : decode cX6_forgive 73 = .ok (.istore_n 2, 1) := by decide +kernel
theorem dX6_forgive_74 : decode cX6_forgive 74 = .ok (.iinc 5 1, 3) := by decide +kernel
