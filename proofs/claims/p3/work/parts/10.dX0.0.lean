theorem dX0_init_0 : decode cX0_init 0 = .ok (.aload_n 0, 1) := by decide +kernel
theorem dX0_init_1 : decode cX0_init 1 = .ok (.invokespecial 3, 3) := by decide +kernel
theorem dX0_init_4 : decode cX0_init 4 = .ok (.aload_n 0, 1) := by decide +kernel
theorem dX0_init_5 : decode cX0_init 5 = .ok (.bipush 36, 2) := by decide +kernel
theorem dX0_init_7 : decode cX0_init 7 = .ok (.newarray .int, 2) := by decide +kernel
theorem dX0_init_9 : decode cX0_init 9 = .ok (.putfield 9, 3) := by decide +kernel
theorem dX0_init_12 : decode cX0_init 12 = .ok (.aload_n 0, 1) := by decide +kernel
theorem dX0_init_13 : decode cX0_init 13 = .ok (.bipush 6, 2) := by decide +kernel
theorem dX0_init_15 : decode cX0_init 15 = .ok (.newarray .int, 2) := by decide +kernel
theorem dX0_init_17 : decode cX0_init 17 = .ok (.putfield 15, 3) := by decide +kernel
theorem dX0_init_20 : decode cX0_init 20 = .ok (.return_, 1) := by decide +kernel
theorem dX0_of_0 : decode cX0_of 0 = .ok (.iload_n 1, 1) := by decide +kernel
theorem dX0_of_1 : decode cX0_of 1 = .ok (.invokestatic 18, 3) := by decide +kernel
theorem dX0_of_4 : decode cX0_of 4 = .ok (.ifCond .eq 24, 3) := by decide +kernel
theorem dX0_of_7 : decode cX0_of 7 = .ok (.iload_n 2, 1) := by decide +kernel
theorem dX0_of_8 : decode cX0_of 8 = .ok (.invokestatic 18, 3) := by decide +kernel
theorem dX0_of_11 : decode cX0_of 11 = .ok (.ifCond .eq 17, 3) := by decide +kernel
theorem dX0_of_14 : decode cX0_of 14 = .ok (.aload_n 0, 1) := by decide +kernel
theorem dX0_of_15 : decode cX0_of 15 = .ok (.getfield 9, 3) := by decide +kernel
theorem dX0_of_18 : decode cX0_of 18 = .ok (.bipush 6, 2) := by decide +kernel
theorem dX0_of_20 : decode cX0_of 20 = .ok (.iload_n 1, 1) := by decide +kernel
theorem dX0_of_21 : decode cX0_of 21 = .ok (.imul, 1) := by decide +kernel
theorem dX0_of_22 : decode cX0_of 22 = .ok (.iload_n 2, 1) := by decide +kernel
theorem dX0_of_23 : decode cX0_of 23 = .ok (.iadd, 1) := by decide +kernel
theorem dX0_of_24 : decode cX0_of 24 = .ok (.iaload, 1) := by decide +kernel
theorem dX0_of_25 : decode cX0_of 25 = .ok (.goto 4, 3) := by decide +kernel
theorem dX0_of_28 : decode cX0_of 28 = .ok (.iconst 0, 1) := by decide +kernel
theorem dX0_of_29 : decode cX0_of 29 = .ok (.ireturn, 1) := by decide +kernel
theorem dX0_become_0 : decode cX0_become 0 = .ok (.iload_n 1, 1) := by decide +kernel
theorem dX0_become_1 : decode cX0_become 1 = .ok (.iload_n 2, 1) := by decide +kernel
theorem dX0_become_2 : decode cX0_become 2 = .ok (.invokestatic 22, 3) := by decide +kernel
theorem dX0_become_5 : decode cX0_become 5 = .ok (.ifCond .eq 15, 3) := by decide +kernel
theorem dX0_become_8 : decode cX0_become 8 = .ok (.aload_n 0, 1) := by decide +kernel
theorem dX0_become_9 : decode cX0_become 9 = .ok (.getfield 9, 3) := by decide +kernel
theorem dX0_become_12 : decode cX0_become 12 = .ok (.bipush 6, 2) := by decide +kernel
theorem dX0_become_14 : decode cX0_become 14 = .ok (.iload_n 1, 1) := by decide +kernel
theorem dX0_become_15 : decode cX0_become 15 = .ok (.imul, 1) := by decide +kernel
theorem dX0_become_16 : decode cX0_become 16 = .ok (.iload_n 2, 1) := by decide +kernel
theorem dX0_become_17 : decode cX0_become 17 = .ok (.iadd, 1) := by decide +kernel
theorem dX0_become_18 : decode cX0_become 18 = .ok (.iload_n 3, 1) := by decide +kernel
theorem dX0_become_19 : decode cX0_become 19 = .ok (.iastore, 1) := by decide +kernel
theorem dX0_become_20 : decode cX0_become 20 = .ok (.return_, 1) := by decide +kernel
theorem dX0_allOf_0 : decode cX0_allOf 0 = .ok (.iconst 0, 1) := by decide +kernel
theorem dX0_allOf_1 : decode cX0_allOf 1 = .ok (.istore_n 2, 1) := by decide +kernel
theorem dX0_allOf_2 : decode cX0_allOf 2 = .ok (.iconst 0, 1) := by decide +kernel
theorem dX0_allOf_3 : decode cX0_allOf 3 = .ok (.istore_n 3, 1) := by decide +kernel
theorem dX0_allOf_4 : decode cX0_allOf 4 = .ok (.iload_n 3, 1) := by decide +kernel
theorem dX0_allOf_5 : decode cX0_allOf 5 = .ok (.bipush 6, 2) := by decide +kernel
theorem dX0_allOf_7 : decode cX0_allOf 7 = .ok (.if_icmp .ge 18, 3) := by decide +kernel
theorem dX0_allOf_10 : decode cX0_allOf 10 = .ok (.iload_n 2, 1) := by decide +kernel
theorem dX0_allOf_11 : decode cX0_allOf 11 = .ok (.aload_n 0, 1) := by decide +kernel
theorem dX0_allOf_12 : decode cX0_allOf 12 = .ok (.iload_n 1, 1) := by decide +kernel
theorem dX0_allOf_13 : decode cX0_allOf 13 = .ok (.iload_n 3, 1) := by decide +kernel
theorem dX0_allOf_14 : decode cX0_allOf 14 = .ok (.invokevirtual 26, 3) := by decide +kernel
theorem dX0_allOf_17 : decode cX0_allOf 17 = .ok (.iadd, 1) := by decide +kernel
theorem dX0_allOf_18 : decode cX0_allOf 18 = .ok (.istore_n 2, 1) := by decide +kernel
theorem dX0_allOf_19 : decode cX0_allOf 19 = .ok (.iinc 3 1, 3) := by decide +kernel
theorem dX0_allOf_22 : decode cX0_allOf 22 = .ok (.goto (-18), 3) := by decide +kernel
theorem dX0_allOf_25 : decode cX0_allOf 25 = .ok (.iload_n 2, 1) := by decide +kernel
theorem dX0_allOf_26 : decode cX0_allOf 26 = .ok (.ireturn, 1) := by decide +kernel
theorem dX0_ringBits_0 : decode cX0_ringBits 0 = .ok (.iconst 0, 1) := by decide +kernel
theorem dX0_ringBits_1 : decode cX0_ringBits 1 = .ok (.istore_n 1, 1) := by decide +kernel
theorem dX0_ringBits_2 : decode cX0_ringBits 2 = .ok (.iload_n 1, 1) := by decide +kernel
theorem dX0_ringBits_3 : decode cX0_ringBits 3 = .ok (.bipush 6, 2) := by decide +kernel
theorem dX0_ringBits_5 : decode cX0_ringBits 5 = .ok (.if_icmp .ge 55, 3) := by decide +kernel
theorem dX0_ringBits_8 : decode cX0_ringBits 8 = .ok (.aload_n 0, 1) := by decide +kernel
theorem dX0_ringBits_9 : decode cX0_ringBits 9 = .ok (.getfield 15, 3) := by decide +kernel
theorem dX0_ringBits_12 : decode cX0_ringBits 12 = .ok (.iload_n 1, 1) := by decide +kernel
theorem dX0_ringBits_13 : decode cX0_ringBits 13 = .ok (.iconst 0, 1) := by decide +kernel
theorem dX0_ringBits_14 : decode cX0_ringBits 14 = .ok (.iastore, 1) := by decide +kernel
theorem dX0_ringBits_15 : decode cX0_ringBits 15 = .ok (.iconst 0, 1) := by decide +kernel
theorem dX0_ringBits_16 : decode cX0_ringBits 16 = .ok (.istore_n 2, 1) := by decide +kernel
theorem dX0_ringBits_17 : decode cX0_ringBits 17 = .ok (.iload_n 2, 1) := by decide +kernel
theorem dX0_ringBits_18 : decode cX0_ringBits 18 = .ok (.bipush 6, 2) := by decide +kernel
theorem dX0_ringBits_20 : decode cX0_ringBits 20 = .ok (.if_icmp .ge 34, 3) := by decide +kernel
theorem dX0_ringBits_23 : decode cX0_ringBits 23 = .ok (.aload_n 0, 1) := by decide +kernel
theorem dX0_ringBits_24 : decode cX0_ringBits 24 = .ok (.getfield 15, 3) := by decide +kernel
theorem dX0_ringBits_27 : decode cX0_ringBits 27 = .ok (.iload_n 1, 1) := by decide +kernel
theorem dX0_ringBits_28 : decode cX0_ringBits 28 = .ok (.dup2, 1) := by decide +kernel
theorem dX0_ringBits_29 : decode cX0_ringBits 29 = .ok (.iaload, 1) := by decide +kernel
theorem dX0_ringBits_30 : decode cX0_ringBits 30 = .ok (.aload_n 0, 1) := by decide +kernel
theorem dX0_ringBits_31 : decode cX0_ringBits 31 = .ok (.iload_n 1, 1) := by decide +kernel
theorem dX0_ringBits_32 : decode cX0_ringBits 32 = .ok (.iload_n 2, 1) := by decide +kernel
theorem dX0_ringBits_33 : decode cX0_ringBits 33 = .ok (.invokevirtual 26, 3) := by decide +kernel
theorem dX0_ringBits_36 : decode cX0_ringBits 36 = .ok (.ifCond .le 9, 3) := by decide +kernel
theorem dX0_ringBits_39 : decode cX0_ringBits 39 = .ok (.iconst 1, 1) := by decide +kernel
theorem dX0_ringBits_40 : decode cX0_ringBits 40 = .ok (.iload_n 2, 1) := by decide +kernel
theorem dX0_ringBits_41 : decode cX0_ringBits 41 = .ok (.ishl, 1) := by decide +kernel
theorem dX0_ringBits_42 : decode cX0_ringBits 42 = .ok (.goto 4, 3) := by decide +kernel
theorem dX0_ringBits_45 : decode cX0_ringBits 45 = .ok (.iconst 0, 1) := by decide +kernel
theorem dX0_ringBits_46 : decode cX0_ringBits 46 = .ok (.ior, 1) := by decide +kernel
theorem dX0_ringBits_47 : decode cX0_ringBits 47 = .ok (.iastore, 1) := by decide +kernel
theorem dX0_ringBits_48 : decode cX0_ringBits 48 = .ok (.iinc 2 1, 3) := by decide +kernel
theorem dX0_ringBits_51 : decode cX0_ringBits 51 = .ok (.goto (-34), 3) := by decide +kernel
theorem dX0_ringBits_54 : decode cX0_ringBits 54 = .ok (.iinc 1 1, 3) := by decide +kernel
theorem dX0_ringBits_57 : decode cX0_ringBits 57 = .ok (.goto (-55), 3) := by decide +kernel
theorem dX0_ringBits_60 : decode cX0_ringBits 60 = .ok (.iconst 0, 1) := by decide +kernel
theorem dX0_ringBits_61 : decode cX0_ringBits 61 = .ok (.istore_n 1, 1) := by decide +kernel
theorem dX0_ringBits_62 : decode cX0_ringBits 62 = .ok (.iload_n 1, 1) := by decide +kernel
theorem dX0_ringBits_63 : decode cX0_ringBits 63 = .ok (.bipush 6, 2) := by decide +kernel
theorem dX0_ringBits_65 : decode cX0_ringBits 65 = .ok (.if_icmp .ge 56, 3) := by decide +kernel
theorem dX0_ringBits_68 : decode cX0_ringBits 68 = .ok (.iconst 0, 1) := by decide +kernel
theorem dX0_ringBits_69 : decode cX0_ringBits 69 = .ok (.istore_n 2, 1) := by decide +kernel
theorem dX0_ringBits_70 : decode cX0_ringBits 70 = .ok (.iload_n 2, 1) := by decide +kernel
theorem dX0_ringBits_71 : decode cX0_ringBits 71 = .ok (.bipush 6, 2) := by decide +kernel
theorem dX0_ringBits_73 : decode cX0_ringBits 73 = .ok (.if_icmp .ge 42, 3) := by decide +kernel
theorem dX0_ringBits_76 : decode cX0_ringBits 76 = .ok (.aload_n 0, 1) := by decide +kernel
theorem dX0_ringBits_77 : decode cX0_ringBits 77 = .ok (.getfield 15, 3) := by decide +kernel
theorem dX0_ringBits_80 : decode cX0_ringBits 80 = .ok (.iload_n 2, 1) := by decide +kernel
theorem dX0_ringBits_81 : decode cX0_ringBits 81 = .ok (.dup2, 1) := by decide +kernel
theorem dX0_ringBits_82 : decode cX0_ringBits 82 = .ok (.iaload, 1) := by decide +kernel
theorem dX0_ringBits_83 : decode cX0_ringBits 83 = .ok (.aload_n 0, 1) := by decide +kernel
theorem dX0_ringBits_84 : decode cX0_ringBits 84 = .ok (.getfield 15, 3) := by decide +kernel
theorem dX0_ringBits_87 : decode cX0_ringBits 87 = .ok (.iload_n 2, 1) := by decide +kernel
theorem dX0_ringBits_88 : decode cX0_ringBits 88 = .ok (.iaload, 1) := by decide +kernel
theorem dX0_ringBits_89 : decode cX0_ringBits 89 = .ok (.iload_n 1, 1) := by decide +kernel
theorem dX0_ringBits_90 : decode cX0_ringBits 90 = .ok (.ishr, 1) := by decide +kernel
theorem dX0_ringBits_91 : decode cX0_ringBits 91 = .ok (.iconst 1, 1) := by decide +kernel
theorem dX0_ringBits_92 : decode cX0_ringBits 92 = .ok (.iand, 1) := by decide +kernel
theorem dX0_ringBits_93 : decode cX0_ringBits 93 = .ok (.iconst 1, 1) := by decide +kernel
theorem dX0_ringBits_94 : decode cX0_ringBits 94 = .ok (.if_icmp .ne 12, 3) := by decide +kernel
theorem dX0_ringBits_97 : decode cX0_ringBits 97 = .ok (.aload_n 0, 1) := by decide +kernel
theorem dX0_ringBits_98 : decode cX0_ringBits 98 = .ok (.getfield 15, 3) := by decide +kernel
theorem dX0_ringBits_101 : decode cX0_ringBits 101 = .ok (.iload_n 1, 1) := by decide +kernel
theorem dX0_ringBits_102 : decode cX0_ringBits 102 = .ok (.iaload, 1) := by decide +kernel
theorem dX0_ringBits_103 : decode cX0_ringBits 103 = .ok (.goto 4, 3) := by decide +kernel
theorem dX0_ringBits_106 : decode cX0_ringBits 106 = .ok (.iconst 0, 1) := by decide +kernel
theorem dX0_ringBits_107 : decode cX0_ringBits 107 = .ok (.ior, 1) := by decide +kernel
theorem dX0_ringBits_108 : decode cX0_ringBits 108 = .ok (.iastore, 1) := by decide +kernel
theorem dX0_ringBits_109 : decode cX0_ringBits 109 = .ok (.iinc 2 1, 3) := by decide +kernel
theorem dX0_ringBits_112 : decode cX0_ringBits 112 = .ok (.goto (-42), 3) := by decide +kernel
theorem dX0_ringBits_115 : decode cX0_ringBits 115 = .ok (.iinc 1 1, 3) := by decide +kernel
theorem dX0_ringBits_118 : decode cX0_ringBits 118 = .ok (.goto (-56), 3) := by decide +kernel
theorem dX0_ringBits_121 : decode cX0_ringBits 121 = .ok (.iconst 0, 1) := by decide +kernel
theorem dX0_ringBits_122 : decode cX0_ringBits 122 = .ok (.istore_n 1, 1) := by decide +kernel
theorem dX0_ringBits_123 : decode cX0_ringBits 123 = .ok (.iconst 0, 1) := by decide +kernel
theorem dX0_ringBits_124 : decode cX0_ringBits 124 = .ok (.istore_n 2, 1) := by decide +kernel
theorem dX0_ringBits_125 : decode cX0_ringBits 125 = .ok (.iload_n 2, 1) := by decide +kernel
theorem dX0_ringBits_126 : decode cX0_ringBits 126 = .ok (.bipush 6, 2) := by decide +kernel
theorem dX0_ringBits_128 : decode cX0_ringBits 128 = .ok (.if_icmp .ge 22, 3) := by decide +kernel
theorem dX0_ringBits_131 : decode cX0_ringBits 131 = .ok (.iload_n 1, 1) := by decide +kernel
theorem dX0_ringBits_132 : decode cX0_ringBits 132 = .ok (.aload_n 0, 1) := by decide +kernel
theorem dX0_ringBits_133 : decode cX0_ringBits 133 = .ok (.getfield 15, 3) := by decide +kernel
theorem dX0_ringBits_136 : decode cX0_ringBits 136 = .ok (.iload_n 2, 1) := by decide +kernel
theorem dX0_ringBits_137 : decode cX0_ringBits 137 = .ok (.iaload, 1) := by decide +kernel
theorem dX0_ringBits_138 : decode cX0_ringBits 138 = .ok (.iconst 1, 1) := by decide +kernel
theorem dX0_ringBits_139 : decode cX0_ringBits 139 = .ok (.iload_n 2, 1) := by decide +kernel
theorem dX0_ringBits_140 : decode cX0_ringBits 140 = .ok (.ishl, 1) := by decide +kernel
theorem dX0_ringBits_141 : decode cX0_ringBits 141 = .ok (.iand, 1) := by decide +kernel
theorem dX0_ringBits_142 : decode cX0_ringBits 142 = .ok (.ior, 1) := by decide +kernel
theorem dX0_ringBits_143 : decode cX0_ringBits 143 = .ok (.istore_n 1, 1) := by decide +kernel
theorem dX0_ringBits_144 : decode cX0_ringBits 144 = .ok (.iinc 2 1, 3) := by decide +kernel
theorem dX0_ringBits_147 : decode cX0_ringBits 147 = .ok (.goto (-22), 3) := by decide +kernel
theorem dX0_ringBits_150 : decode cX0_ringBits 150 = .ok (.iload_n 1, 1) := by decide +kernel
theorem dX0_ringBits_151 : decode cX0_ringBits 151 = .ok (.ireturn, 1) := by decide +kernel
theorem dX0_ringFolkWithout_0 : decode cX0_ringFolkWithout 0 = .ok (.aload_n 0, 1) := by decide +kernel
theorem dX0_ringFolkWithout_1 : decode cX0_ringFolkWithout 1 = .ok (.iload_n 1, 1) := by decide +kernel
theorem dX0_ringFolkWithout_2 : decode cX0_ringFolkWithout 2 = .ok (.iload_n 2, 1) := by decide +kernel
theorem dX0_ringFolkWithout_3 : decode cX0_ringFolkWithout 3 = .ok (.invokevirtual 26, 3) := by decide +kernel
theorem dX0_ringFolkWithout_6 : decode cX0_ringFolkWithout 6 = .ok (.istore_n 3, 1) := by decide +kernel
theorem dX0_ringFolkWithout_7 : decode cX0_ringFolkWithout 7 = .ok (.aload_n 0, 1) := by decide +kernel
theorem dX0_ringFolkWithout_8 : decode cX0_ringFolkWithout 8 = .ok (.iload_n 1, 1) := by decide +kernel
theorem dX0_ringFolkWithout_9 : decode cX0_ringFolkWithout 9 = .ok (.iload_n 2, 1) := by decide +kernel
theorem dX0_ringFolkWithout_10 : decode cX0_ringFolkWithout 10 = .ok (.iconst 0, 1) := by decide +kernel
theorem dX0_ringFolkWithout_11 : decode cX0_ringFolkWithout 11 = .ok (.invokevirtual 30, 3) := by decide +kernel
theorem dX0_ringFolkWithout_14 : decode cX0_ringFolkWithout 14 = .ok (.aload_n 0, 1) := by decide +kernel
theorem dX0_ringFolkWithout_15 : decode cX0_ringFolkWithout 15 = .ok (.invokevirtual 34, 3) := by decide +kernel
theorem dX0_ringFolkWithout_18 : decode cX0_ringFolkWithout 18 = .ok (.invokestatic 38, 3) := by decide +kernel
theorem dX0_ringFolkWithout_21 : decode cX0_ringFolkWithout 21 = .ok (.istore 4, 2) := by decide +kernel
theorem dX0_ringFolkWithout_23 : decode cX0_ringFolkWithout 23 = .ok (.aload_n 0, 1) := by decide +kernel
theorem dX0_ringFolkWithout_24 : decode cX0_ringFolkWithout 24 = .ok (.iload_n 1, 1) := by decide +kernel
theorem dX0_ringFolkWithout_25 : decode cX0_ringFolkWithout 25 = .ok (.iload_n 2, 1) := by decide +kernel
theorem dX0_ringFolkWithout_26 : decode cX0_ringFolkWithout 26 = .ok (.iload_n 3, 1) := by decide +kernel
theorem dX0_ringFolkWithout_27 : decode cX0_ringFolkWithout 27 = .ok (.invokevirtual 30, 3) := by decide +kernel
theorem dX0_ringFolkWithout_30 : decode cX0_ringFolkWithout 30 = .ok (.iload 4, 2) := by decide +kernel
theorem dX0_ringFolkWithout_32 : decode cX0_ringFolkWithout 32 = .ok (.ireturn, 1) := by decide +kernel
theorem dX0_clearPairs_0 : decode cX0_clearPairs 0 = .ok (.iconst 0, 1) := by decide +kernel
theorem dX0_clearPairs_1 : decode cX0_clearPairs 1 = .ok (.istore_n 1, 1) := by decide +kernel
theorem dX0_clearPairs_2 : decode cX0_clearPairs 2 = .ok (.iconst 0, 1) := by decide +kernel
theorem dX0_clearPairs_3 : decode cX0_clearPairs 3 = .ok (.istore_n 2, 1) := by decide +kernel
theorem dX0_clearPairs_4 : decode cX0_clearPairs 4 = .ok (.iload_n 2, 1) := by decide +kernel
theorem dX0_clearPairs_5 : decode cX0_clearPairs 5 = .ok (.bipush 6, 2) := by decide +kernel
theorem dX0_clearPairs_7 : decode cX0_clearPairs 7 = .ok (.if_icmp .ge 65, 3) := by decide +kernel
theorem dX0_clearPairs_10 : decode cX0_clearPairs 10 = .ok (.iload_n 2, 1) := by decide +kernel
theorem dX0_clearPairs_11 : decode cX0_clearPairs 11 = .ok (.iconst 1, 1) := by decide +kernel
theorem dX0_clearPairs_12 : decode cX0_clearPairs 12 = .ok (.iadd, 1) := by decide +kernel
theorem dX0_clearPairs_13 : decode cX0_clearPairs 13 = .ok (.istore_n 3, 1) := by decide +kernel
theorem dX0_clearPairs_14 : decode cX0_clearPairs 14 = .ok (.iload_n 3, 1) := by decide +kernel
theorem dX0_clearPairs_15 : decode cX0_clearPairs 15 = .ok (.bipush 6, 2) := by decide +kernel
theorem dX0_clearPairs_17 : decode cX0_clearPairs 17 = .ok (.if_icmp .ge 49, 3) := by decide +kernel
theorem dX0_clearPairs_20 : decode cX0_clearPairs 20 = .ok (.aload_n 0, 1) := by decide +kernel
theorem dX0_clearPairs_21 : decode cX0_clearPairs 21 = .ok (.iload_n 2, 1) := by decide +kernel
theorem dX0_clearPairs_22 : decode cX0_clearPairs 22 = .ok (.iload_n 3, 1) := by decide +kernel
theorem dX0_clearPairs_23 : decode cX0_clearPairs 23 = .ok (.invokevirtual 26, 3) := by decide +kernel
theorem dX0_clearPairs_26 : decode cX0_clearPairs 26 = .ok (.aload_n 0, 1) := by decide +kernel
theorem dX0_clearPairs_27 : decode cX0_clearPairs 27 = .ok (.iload_n 3, 1) := by decide +kernel
theorem dX0_clearPairs_28 : decode cX0_clearPairs 28 = .ok (.iload_n 2, 1) := by decide +kernel
theorem dX0_clearPairs_29 : decode cX0_clearPairs 29 = .ok (.invokevirtual 26, 3) := by decide +kernel
theorem dX0_clearPairs_32 : decode cX0_clearPairs 32 = .ok (.invokestatic 44, 3) := by decide +kernel
theorem dX0_clearPairs_35 : decode cX0_clearPairs 35 = .ok (.istore 4, 2) := by decide +kernel
theorem dX0_clearPairs_37 : decode cX0_clearPairs 37 = .ok (.aload_n 0, 1) := by decide +kernel
theorem dX0_clearPairs_38 : decode cX0_clearPairs 38 = .ok (.iload_n 2, 1) := by decide +kernel
theorem dX0_clearPairs_39 : decode cX0_clearPairs 39 = .ok (.iload_n 3, 1) := by decide +kernel
theorem dX0_clearPairs_40 : decode cX0_clearPairs 40 = .ok (.iload 4, 2) := by decide +kernel
theorem dX0_clearPairs_42 : decode cX0_clearPairs 42 = .ok (.invokevirtual 49, 3) := by decide +kernel
theorem dX0_clearPairs_45 : decode cX0_clearPairs 45 = .ok (.aload_n 0, 1) := by decide +kernel
theorem dX0_clearPairs_46 : decode cX0_clearPairs 46 = .ok (.iload_n 3, 1) := by decide +kernel
theorem dX0_clearPairs_47 : decode cX0_clearPairs 47 = .ok (.iload_n 2, 1) := by decide +kernel
theorem dX0_clearPairs_48 : decode cX0_clearPairs 48 = .ok (.iload 4, 2) := by decide +kernel
theorem dX0_clearPairs_50 : decode cX0_clearPairs 50 = .ok (.invokevirtual 49, 3) := by decide +kernel
theorem dX0_clearPairs_53 : decode cX0_clearPairs 53 = .ok (.iload_n 1, 1) := by decide +kernel
theorem dX0_clearPairs_54 : decode cX0_clearPairs 54 = .ok (.iconst 2, 1) := by decide +kernel
theorem dX0_clearPairs_55 : decode cX0_clearPairs 55 = .ok (.iload 4, 2) := by decide +kernel
theorem dX0_clearPairs_57 : decode cX0_clearPairs 57 = .ok (.imul, 1) := by decide +kernel
theorem dX0_clearPairs_58 : decode cX0_clearPairs 58 = .ok (.iadd, 1) := by decide +kernel
theorem dX0_clearPairs_59 : decode cX0_clearPairs 59 = .ok (.istore_n 1, 1) := by decide +kernel
theorem dX0_clearPairs_60 : decode cX0_clearPairs 60 = .ok (.iinc 3 1, 3) := by decide +kernel
theorem dX0_clearPairs_63 : decode cX0_clearPairs 63 = .ok (.goto (-49), 3) := by decide +kernel
theorem dX0_clearPairs_66 : decode cX0_clearPairs 66 = .ok (.iinc 2 1, 3) := by decide +kernel
theorem dX0_clearPairs_69 : decode cX0_clearPairs 69 = .ok (.goto (-65), 3) := by decide +kernel
theorem dX0_clearPairs_72 : decode cX0_clearPairs 72 = .ok (.iload_n 1, 1) := by decide +kernel
theorem dX0_clearPairs_73 : decode cX0_clearPairs 73 = .ok (.ireturn, 1) := by decide +kernel
theorem dX0_clearThrees_0 : decode cX0_clearThrees 0 = .ok (.iconst 0, 1) := by decide +kernel
theorem dX0_clearThrees_1 : decode cX0_clearThrees 1 = .ok (.istore_n 1, 1) := by decide +kernel
theorem dX0_clearThrees_2 : decode cX0_clearThrees 2 = .ok (.iconst 0, 1) := by decide +kernel
theorem dX0_clearThrees_3 : decode cX0_clearThrees 3 = .ok (.istore_n 2, 1) := by decide +kernel
theorem dX0_clearThrees_4 : decode cX0_clearThrees 4 = .ok (.iload_n 2, 1) := by decide +kernel
theorem dX0_clearThrees_5 : decode cX0_clearThrees 5 = .ok (.bipush 6, 2) := by decide +kernel
theorem dX0_clearThrees_7 : decode cX0_clearThrees 7 = .ok (.if_icmp .ge 50, 3) := by decide +kernel
theorem dX0_clearThrees_10 : decode cX0_clearThrees 10 = .ok (.iconst 0, 1) := by decide +kernel
theorem dX0_clearThrees_11 : decode cX0_clearThrees 11 = .ok (.istore_n 3, 1) := by decide +kernel
theorem dX0_clearThrees_12 : decode cX0_clearThrees 12 = .ok (.iload_n 3, 1) := by decide +kernel
theorem dX0_clearThrees_13 : decode cX0_clearThrees 13 = .ok (.bipush 6, 2) := by decide +kernel
theorem dX0_clearThrees_15 : decode cX0_clearThrees 15 = .ok (.if_icmp .ge 36, 3) := by decide +kernel
theorem dX0_clearThrees_18 : decode cX0_clearThrees 18 = .ok (.iconst 0, 1) := by decide +kernel
theorem dX0_clearThrees_19 : decode cX0_clearThrees 19 = .ok (.istore 4, 2) := by decide +kernel
theorem dX0_clearThrees_21 : decode cX0_clearThrees 21 = .ok (.iload 4, 2) := by decide +kernel
theorem dX0_clearThrees_23 : decode cX0_clearThrees 23 = .ok (.bipush 6, 2) := by decide +kernel
theorem dX0_clearThrees_25 : decode cX0_clearThrees 25 = .ok (.if_icmp .ge 20, 3) := by decide +kernel
theorem dX0_clearThrees_28 : decode cX0_clearThrees 28 = .ok (.iload_n 1, 1) := by decide +kernel
theorem dX0_clearThrees_29 : decode cX0_clearThrees 29 = .ok (.aload_n 0, 1) := by decide +kernel
theorem dX0_clearThrees_30 : decode cX0_clearThrees 30 = .ok (.iload_n 2, 1) := by decide +kernel
theorem dX0_clearThrees_31 : decode cX0_clearThrees 31 = .ok (.iload_n 3, 1) := by decide +kernel
theorem dX0_clearThrees_32 : decode cX0_clearThrees 32 = .ok (.iload 4, 2) := by decide +kernel
theorem dX0_clearThrees_34 : decode cX0_clearThrees 34 = .ok (.invokevirtual 52, 3) := by decide +kernel
theorem dX0_clearThrees_37 : decode cX0_clearThrees 37 = .ok (.iadd, 1) := by decide +kernel
theorem dX0_clearThrees_38 : decode cX0_clearThrees 38 = .ok (.istore_n 1, 1) := by decide +kernel
theorem dX0_clearThrees_39 : decode cX0_clearThrees 39 = .ok (.iinc 4 1, 3) := by decide +kernel
theorem dX0_clearThrees_42 : decode cX0_clearThrees 42 = .ok (.goto (-21), 3) := by decide +kernel
theorem dX0_clearThrees_45 : decode cX0_clearThrees 45 = .ok (.iinc 3 1, 3) := by decide +kernel
theorem dX0_clearThrees_48 : decode cX0_clearThrees 48 = .ok (.goto (-36), 3) := by decide +kernel
theorem dX0_clearThrees_51 : decode cX0_clearThrees 51 = .ok (.iinc 2 1, 3) := by decide +kernel
theorem dX0_clearThrees_54 : decode cX0_clearThrees 54 = .ok (.goto (-50), 3) := by decide +kernel
theorem dX0_clearThrees_57 : decode cX0_clearThrees 57 = .ok (.iload_n 1, 1) := by decide +kernel
theorem dX0_clearThrees_58 : decode cX0_clearThrees 58 = .ok (.ireturn, 1) := by decide +kernel
theorem dX0_clearThree_0 : decode cX0_clearThree 0 = .ok (.aload_n 0, 1) := by decide +kernel
theorem dX0_clearThree_1 : decode cX0_clearThree 1 = .ok (.iload_n 1, 1) := by decide +kernel
theorem dX0_clearThree_2 : decode cX0_clearThree 2 = .ok (.iload_n 2, 1) := by decide +kernel
theorem dX0_clearThree_3 : decode cX0_clearThree 3 = .ok (.invokevirtual 26, 3) := by decide +kernel
theorem dX0_clearThree_6 : decode cX0_clearThree 6 = .ok (.aload_n 0, 1) := by decide +kernel
theorem dX0_clearThree_7 : decode cX0_clearThree 7 = .ok (.iload_n 2, 1) := by decide +kernel
theorem dX0_clearThree_8 : decode cX0_clearThree 8 = .ok (.iload_n 3, 1) := by decide +kernel
theorem dX0_clearThree_9 : decode cX0_clearThree 9 = .ok (.invokevirtual 26, 3) := by decide +kernel
theorem dX0_clearThree_12 : decode cX0_clearThree 12 = .ok (.aload_n 0, 1) := by decide +kernel
theorem dX0_clearThree_13 : decode cX0_clearThree 13 = .ok (.iload_n 3, 1) := by decide +kernel
theorem dX0_clearThree_14 : decode cX0_clearThree 14 = .ok (.iload_n 1, 1) := by decide +kernel
theorem dX0_clearThree_15 : decode cX0_clearThree 15 = .ok (.invokevirtual 26, 3) := by decide +kernel
theorem dX0_clearThree_18 : decode cX0_clearThree 18 = .ok (.invokestatic 44, 3) := by decide +kernel
theorem dX0_clearThree_21 : decode cX0_clearThree 21 = .ok (.invokestatic 44, 3) := by decide +kernel
theorem dX0_clearThree_24 : decode cX0_clearThree 24 = .ok (.istore 4, 2) := by decide +kernel
theorem dX0_clearThree_26 : decode cX0_clearThree 26 = .ok (.aload_n 0, 1) := by decide +kernel
theorem dX0_clearThree_27 : decode cX0_clearThree 27 = .ok (.iload_n 1, 1) := by decide +kernel
theorem dX0_clearThree_28 : decode cX0_clearThree 28 = .ok (.iload_n 2, 1) := by decide +kernel
theorem dX0_clearThree_29 : decode cX0_clearThree 29 = .ok (.iload 4, 2) := by decide +kernel
theorem dX0_clearThree_31 : decode cX0_clearThree 31 = .ok (.invokevirtual 49, 3) := by decide +kernel
theorem dX0_clearThree_34 : decode cX0_clearThree 34 = .ok (.aload_n 0, 1) := by decide +kernel
theorem dX0_clearThree_35 : decode cX0_clearThree 35 = .ok (.iload_n 2, 1) := by decide +kernel
theorem dX0_clearThree_36 : decode cX0_clearThree 36 = .ok (.iload_n 3, 1) := by decide +kernel
theorem dX0_clearThree_37 : decode cX0_clearThree 37 = .ok (.iload 4, 2) := by decide +kernel
theorem dX0_clearThree_39 : decode cX0_clearThree 39 = .ok (.invokevirtual 49, 3) := by decide +kernel
theorem dX0_clearThree_42 : decode cX0_clearThree 42 = .ok (.aload_n 0, 1) := by decide +kernel
theorem dX0_clearThree_43 : decode cX0_clearThree 43 = .ok (.iload_n 3, 1) := by decide +kernel
theorem dX0_clearThree_44 : decode cX0_clearThree 44 = .ok (.iload_n 1, 1) := by decide +kernel
theorem dX0_clearThree_45 : decode cX0_clearThree 45 = .ok (.iload 4, 2) := by decide +kernel
theorem dX0_clearThree_47 : decode cX0_clearThree 47 = .ok (.invokevirtual 49, 3) := by decide +kernel
theorem dX0_clearThree_50 : decode cX0_clearThree 50 = .ok (.iconst 3, 1) := by decide +kernel
theorem dX0_clearThree_51 : decode cX0_clearThree 51 = .ok (.iload 4, 2) := by decide +kernel
theorem dX0_clearThree_53 : decode cX0_clearThree 53 = .ok (.imul, 1) := by decide +kernel
theorem dX0_clearThree_54 : decode cX0_clearThree 54 = .ok (.ireturn, 1) := by decide +kernel
theorem dX0_lower_0 : decode cX0_lower 0 = .ok (.aload_n 0, 1) := by decide +kernel
theorem dX0_lower_1 : decode cX0_lower 1 = .ok (.iload_n 1, 1) := by decide +kernel
theorem dX0_lower_2 : decode cX0_lower 2 = .ok (.iload_n 2, 1) := by decide +kernel
theorem dX0_lower_3 : decode cX0_lower 3 = .ok (.aload_n 0, 1) := by decide +kernel
theorem dX0_lower_4 : decode cX0_lower 4 = .ok (.iload_n 1, 1) := by decide +kernel
theorem dX0_lower_5 : decode cX0_lower 5 = .ok (.iload_n 2, 1) := by decide +kernel
theorem dX0_lower_6 : decode cX0_lower 6 = .ok (.invokevirtual 26, 3) := by decide +kernel
theorem dX0_lower_9 : decode cX0_lower 9 = .ok (.iload_n 3, 1) := by decide +kernel
theorem dX0_lower_10 : decode cX0_lower 10 = .ok (.isub, 1) := by decide +kernel
theorem dX0_lower_11 : decode cX0_lower 11 = .ok (.invokevirtual 30, 3) := by decide +kernel
theorem dX0_lower_14 : decode cX0_lower 14 = .ok (.return_, 1) := by decide +kernel
theorem dX0_copyTo_0 : decode cX0_copyTo 0 = .ok (.aload_n 0, 1) := by decide +kernel
theorem dX0_copyTo_1 : decode cX0_copyTo 1 = .ok (.getfield 9, 3) := by decide +kernel
theorem dX0_copyTo_4 : decode cX0_copyTo 4 = .ok (.iconst 0, 1) := by decide +kernel
theorem dX0_copyTo_5 : decode cX0_copyTo 5 = .ok (.aload_n 1, 1) := by decide +kernel
theorem dX0_copyTo_6 : decode cX0_copyTo 6 = .ok (.getfield 9, 3) := by decide +kernel
theorem dX0_copyTo_9 : decode cX0_copyTo 9 = .ok (.iconst 0, 1) := by decide +kernel
theorem dX0_copyTo_10 : decode cX0_copyTo 10 = .ok (.aload_n 0, 1) := by decide +kernel
theorem dX0_copyTo_11 : decode cX0_copyTo 11 = .ok (.getfield 9, 3) := by decide +kernel
theorem dX0_copyTo_14 : decode cX0_copyTo 14 = .ok (.arraylength, 1) := by decide +kernel
theorem dX0_copyTo_15 : decode cX0_copyTo 15 = .ok (.invokestatic 56, 3) := by decide +kernel
theorem dX0_copyTo_18 : decode cX0_copyTo 18 = .ok (.return_, 1) := by decide +kernel
